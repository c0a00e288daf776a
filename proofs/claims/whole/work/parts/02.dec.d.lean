theorem dX12_within_0 : decode cX12_within 0 = .ok (.lload_n 0, 1) := by decide +kernel
theorem dX12_within_1 : decode cX12_within 1 = .ok (.lload_n 2, 1) := by decide +kernel
theorem dX12_within_2 : decode cX12_within 2 = .ok (.lcmp, 1) := by decide +kernel
theorem dX12_within_3 : decode cX12_within 3 = .ok (.ifCond .lt 14, 3) := by decide +kernel
theorem dX12_within_6 : decode cX12_within 6 = .ok (.lload_n 0, 1) := by decide +kernel
theorem dX12_within_7 : decode cX12_within 7 = .ok (.lload 4, 2) := by decide +kernel
theorem dX12_within_9 : decode cX12_within 9 = .ok (.lcmp, 1) := by decide +kernel
theorem dX12_within_10 : decode cX12_within 10 = .ok (.ifCond .gt 7, 3) := by decide +kernel
theorem dX12_within_13 : decode cX12_within 13 = .ok (.iconst 1, 1) := by decide +kernel
theorem dX12_within_14 : decode cX12_within 14 = .ok (.goto 4, 3) := by decide +kernel
theorem dX12_within_17 : decode cX12_within 17 = .ok (.iconst 0, 1) := by decide +kernel
theorem dX12_within_18 : decode cX12_within 18 = .ok (.ireturn, 1) := by decide +kernel
theorem dX12_init_0 : decode cX12_init 0 = .ok (.aload_n 0, 1) := by decide +kernel
theorem dX12_init_1 : decode cX12_init 1 = .ok (.invokespecial 7, 3) := by decide +kernel
theorem dX12_init_4 : decode cX12_init 4 = .ok (.aload_n 0, 1) := by decide +kernel
theorem dX12_init_5 : decode cX12_init 5 = .ok (.sipush 11760, 3) := by decide +kernel
theorem dX12_init_8 : decode cX12_init 8 = .ok (.newarray .int, 2) := by decide +kernel
theorem dX12_init_10 : decode cX12_init 10 = .ok (.putfield 13, 3) := by decide +kernel
theorem dX12_init_13 : decode cX12_init 13 = .ok (.aload_n 0, 1) := by decide +kernel
theorem dX12_init_14 : decode cX12_init 14 = .ok (.iconst 2, 1) := by decide +kernel
theorem dX12_init_15 : decode cX12_init 15 = .ok (.newarray .boolean, 2) := by decide +kernel
theorem dX12_init_17 : decode cX12_init 17 = .ok (.putfield 17, 3) := by decide +kernel
theorem dX12_init_20 : decode cX12_init 20 = .ok (.aload_n 0, 1) := by decide +kernel
theorem dX12_init_21 : decode cX12_init 21 = .ok (.sipush 400, 3) := by decide +kernel
theorem dX12_init_24 : decode cX12_init 24 = .ok (.newarray .int, 2) := by decide +kernel
theorem dX12_init_26 : decode cX12_init 26 = .ok (.putfield 21, 3) := by decide +kernel
theorem dX12_init_29 : decode cX12_init 29 = .ok (.aload_n 0, 1) := by decide +kernel
theorem dX12_init_30 : decode cX12_init 30 = .ok (.sipush 582, 3) := by decide +kernel
theorem dX12_init_33 : decode cX12_init 33 = .ok (.newarray .int, 2) := by decide +kernel
theorem dX12_init_35 : decode cX12_init 35 = .ok (.putfield 24, 3) := by decide +kernel
theorem dX12_init_38 : decode cX12_init 38 = .ok (.aload_n 0, 1) := by decide +kernel
theorem dX12_init_39 : decode cX12_init 39 = .ok (.iconst (-1), 1) := by decide +kernel
theorem dX12_init_40 : decode cX12_init 40 = .ok (.putfield 27, 3) := by decide +kernel
theorem dX12_init_43 : decode cX12_init 43 = .ok (.aload_n 0, 1) := by decide +kernel
theorem dX12_init_44 : decode cX12_init 44 = .ok (.bipush 7, 2) := by decide +kernel
theorem dX12_init_46 : decode cX12_init 46 = .ok (.newarray .int, 2) := by decide +kernel
theorem dX12_init_48 : decode cX12_init 48 = .ok (.putfield 30, 3) := by decide +kernel
theorem dX12_init_51 : decode cX12_init 51 = .ok (.aload_n 0, 1) := by decide +kernel
theorem dX12_init_52 : decode cX12_init 52 = .ok (.bipush 7, 2) := by decide +kernel
theorem dX12_init_54 : decode cX12_init 54 = .ok (.newarray .int, 2) := by decide +kernel
theorem dX12_init_56 : decode cX12_init 56 = .ok (.putfield 33, 3) := by decide +kernel
theorem dX12_init_59 : decode cX12_init 59 = .ok (.aload_n 0, 1) := by decide +kernel
theorem dX12_init_60 : decode cX12_init 60 = .ok (.bipush 7, 2) := by decide +kernel
theorem dX12_init_62 : decode cX12_init 62 = .ok (.newarray .int, 2) := by decide +kernel
theorem dX12_init_64 : decode cX12_init 64 = .ok (.putfield 36, 3) := by decide +kernel
theorem dX12_init_67 : decode cX12_init 67 = .ok (.aload_n 0, 1) := by decide +kernel
theorem dX12_init_68 : decode cX12_init 68 = .ok (.bipush 10, 2) := by decide +kernel
theorem dX12_init_70 : decode cX12_init 70 = .ok (.newarray .int, 2) := by decide +kernel
theorem dX12_init_72 : decode cX12_init 72 = .ok (.putfield 39, 3) := by decide +kernel
theorem dX12_init_75 : decode cX12_init 75 = .ok (.aload_n 0, 1) := by decide +kernel
theorem dX12_init_76 : decode cX12_init 76 = .ok (.bipush 10, 2) := by decide +kernel
theorem dX12_init_78 : decode cX12_init 78 = .ok (.newarray .int, 2) := by decide +kernel
theorem dX12_init_80 : decode cX12_init 80 = .ok (.putfield 42, 3) := by decide +kernel
theorem dX12_init_83 : decode cX12_init 83 = .ok (.aload_n 0, 1) := by decide +kernel
theorem dX12_init_84 : decode cX12_init 84 = .ok (.bipush 10, 2) := by decide +kernel
theorem dX12_init_86 : decode cX12_init 86 = .ok (.newarray .int, 2) := by decide +kernel
theorem dX12_init_88 : decode cX12_init 88 = .ok (.putfield 45, 3) := by decide +kernel
theorem dX12_init_91 : decode cX12_init 91 = .ok (.aload_n 0, 1) := by decide +kernel
theorem dX12_init_92 : decode cX12_init 92 = .ok (.bipush 10, 2) := by decide +kernel
theorem dX12_init_94 : decode cX12_init 94 = .ok (.newarray .int, 2) := by decide +kernel
theorem dX12_init_96 : decode cX12_init 96 = .ok (.putfield 48, 3) := by decide +kernel
theorem dX12_init_99 : decode cX12_init 99 = .ok (.aload_n 0, 1) := by decide +kernel
theorem dX12_init_100 : decode cX12_init 100 = .ok (.sipush 260, 3) := by decide +kernel
theorem dX12_init_103 : decode cX12_init 103 = .ok (.newarray .boolean, 2) := by decide +kernel
theorem dX12_init_105 : decode cX12_init 105 = .ok (.putfield 51, 3) := by decide +kernel
theorem dX12_init_108 : decode cX12_init 108 = .ok (.aload_n 0, 1) := by decide +kernel
theorem dX12_init_109 : decode cX12_init 109 = .ok (.bipush 60, 2) := by decide +kernel
theorem dX12_init_111 : decode cX12_init 111 = .ok (.newarray .int, 2) := by decide +kernel
theorem dX12_init_113 : decode cX12_init 113 = .ok (.putfield 54, 3) := by decide +kernel
theorem dX12_init_116 : decode cX12_init 116 = .ok (.aload_n 0, 1) := by decide +kernel
theorem dX12_init_117 : decode cX12_init 117 = .ok (.sipush 256, 3) := by decide +kernel
theorem dX12_init_120 : decode cX12_init 120 = .ok (.newarray .int, 2) := by decide +kernel
theorem dX12_init_122 : decode cX12_init 122 = .ok (.putfield 57, 3) := by decide +kernel
theorem dX12_init_125 : decode cX12_init 125 = .ok (.aload_n 0, 1) := by decide +kernel
theorem dX12_init_126 : decode cX12_init 126 = .ok (.bipush 60, 2) := by decide +kernel
theorem dX12_init_128 : decode cX12_init 128 = .ok (.newarray .int, 2) := by decide +kernel
theorem dX12_init_130 : decode cX12_init 130 = .ok (.putfield 60, 3) := by decide +kernel
theorem dX12_init_133 : decode cX12_init 133 = .ok (.aload_n 0, 1) := by decide +kernel
theorem dX12_init_134 : decode cX12_init 134 = .ok (.bipush 12, 2) := by decide +kernel
theorem dX12_init_136 : decode cX12_init 136 = .ok (.newarray .int, 2) := by decide +kernel
theorem dX12_init_138 : decode cX12_init 138 = .ok (.putfield 63, 3) := by decide +kernel
theorem dX12_init_141 : decode cX12_init 141 = .ok (.aload_n 0, 1) := by decide +kernel
theorem dX12_init_142 : decode cX12_init 142 = .ok (.bipush 60, 2) := by decide +kernel
theorem dX12_init_144 : decode cX12_init 144 = .ok (.newarray .boolean, 2) := by decide +kernel
theorem dX12_init_146 : decode cX12_init 146 = .ok (.putfield 66, 3) := by decide +kernel
theorem dX12_init_149 : decode cX12_init 149 = .ok (.aload_n 0, 1) := by decide +kernel
theorem dX12_init_150 : decode cX12_init 150 = .ok (.iconst 4, 1) := by decide +kernel
theorem dX12_init_151 : decode cX12_init 151 = .ok (.newarray .int, 2) := by decide +kernel
theorem dX12_init_153 : decode cX12_init 153 = .ok (.dup, 1) := by decide +kernel
theorem dX12_init_154 : decode cX12_init 154 = .ok (.iconst 0, 1) := by decide +kernel
theorem dX12_init_155 : decode cX12_init 155 = .ok (.iconst (-1), 1) := by decide +kernel
theorem dX12_init_156 : decode cX12_init 156 = .ok (.iastore, 1) := by decide +kernel
theorem dX12_init_157 : decode cX12_init 157 = .ok (.dup, 1) := by decide +kernel
theorem dX12_init_158 : decode cX12_init 158 = .ok (.iconst 1, 1) := by decide +kernel
theorem dX12_init_159 : decode cX12_init 159 = .ok (.iconst (-1), 1) := by decide +kernel
theorem dX12_init_160 : decode cX12_init 160 = .ok (.iastore, 1) := by decide +kernel
theorem dX12_init_161 : decode cX12_init 161 = .ok (.dup, 1) := by decide +kernel
theorem dX12_init_162 : decode cX12_init 162 = .ok (.iconst 2, 1) := by decide +kernel
theorem dX12_init_163 : decode cX12_init 163 = .ok (.iconst (-1), 1) := by decide +kernel
theorem dX12_init_164 : decode cX12_init 164 = .ok (.iastore, 1) := by decide +kernel
theorem dX12_init_165 : decode cX12_init 165 = .ok (.dup, 1) := by decide +kernel
theorem dX12_init_166 : decode cX12_init 166 = .ok (.iconst 3, 1) := by decide +kernel
theorem dX12_init_167 : decode cX12_init 167 = .ok (.iconst (-1), 1) := by decide +kernel
theorem dX12_init_168 : decode cX12_init 168 = .ok (.iastore, 1) := by decide +kernel
theorem dX12_init_169 : decode cX12_init 169 = .ok (.putfield 69, 3) := by decide +kernel
theorem dX12_init_172 : decode cX12_init 172 = .ok (.aload_n 0, 1) := by decide +kernel
theorem dX12_init_173 : decode cX12_init 173 = .ok (.iconst 4, 1) := by decide +kernel
theorem dX12_init_174 : decode cX12_init 174 = .ok (.newarray .int, 2) := by decide +kernel
theorem dX12_init_176 : decode cX12_init 176 = .ok (.putfield 72, 3) := by decide +kernel
theorem dX12_init_179 : decode cX12_init 179 = .ok (.aload_n 0, 1) := by decide +kernel
theorem dX12_init_180 : decode cX12_init 180 = .ok (.sipush 160, 3) := by decide +kernel
theorem dX12_init_183 : decode cX12_init 183 = .ok (.newarray .long, 2) := by decide +kernel
theorem dX12_init_185 : decode cX12_init 185 = .ok (.putfield 75, 3) := by decide +kernel
theorem dX12_init_188 : decode cX12_init 188 = .ok (.aload_n 0, 1) := by decide +kernel
theorem dX12_init_189 : decode cX12_init 189 = .ok (.getfield 13, 3) := by decide +kernel
theorem dX12_init_192 : decode cX12_init 192 = .ok (.bipush 28, 2) := by decide +kernel
theorem dX12_init_194 : decode cX12_init 194 = .ok (.bipush 52, 2) := by decide +kernel
theorem dX12_init_196 : decode cX12_init 196 = .ok (.iastore, 1) := by decide +kernel
theorem dX12_init_197 : decode cX12_init 197 = .ok (.aload_n 0, 1) := by decide +kernel
theorem dX12_init_198 : decode cX12_init 198 = .ok (.getfield 13, 3) := by decide +kernel
theorem dX12_init_201 : decode cX12_init 201 = .ok (.bipush 30, 2) := by decide +kernel
theorem dX12_init_203 : decode cX12_init 203 = .ok (.iconst 2, 1) := by decide +kernel
theorem dX12_init_204 : decode cX12_init 204 = .ok (.iastore, 1) := by decide +kernel
theorem dX12_init_205 : decode cX12_init 205 = .ok (.return_, 1) := by decide +kernel
theorem dX12_feed_0 : decode cX12_feed 0 = .ok (.aload_n 0, 1) := by decide +kernel
theorem dX12_feed_1 : decode cX12_feed 1 = .ok (.iconst 0, 1) := by decide +kernel
theorem dX12_feed_2 : decode cX12_feed 2 = .ok (.putfield 1, 3) := by decide +kernel
theorem dX12_feed_5 : decode cX12_feed 5 = .ok (.aload_n 0, 1) := by decide +kernel
theorem dX12_feed_6 : decode cX12_feed 6 = .ok (.getfield 79, 3) := by decide +kernel
theorem dX12_feed_9 : decode cX12_feed 9 = .ok (.bipush 20, 2) := by decide +kernel
theorem dX12_feed_11 : decode cX12_feed 11 = .ok (.iadd, 1) := by decide +kernel
theorem dX12_feed_12 : decode cX12_feed 12 = .ok (.sipush 400, 3) := by decide +kernel
theorem dX12_feed_15 : decode cX12_feed 15 = .ok (.if_icmp .le 6, 3) := by decide +kernel
theorem dX12_feed_18 : decode cX12_feed 18 = .ok (.bipush (-4), 2) := by decide +kernel
theorem dX12_feed_20 : decode cX12_feed 20 = .ok (.ireturn, 1) := by decide +kernel
theorem dX12_feed_21 : decode cX12_feed 21 = .ok (.iconst 0, 1) := by decide +kernel
theorem dX12_feed_22 : decode cX12_feed 22 = .ok (.istore 6, 2) := by decide +kernel
theorem dX12_feed_24 : decode cX12_feed 24 = .ok (.iload 6, 2) := by decide +kernel
theorem dX12_feed_26 : decode cX12_feed 26 = .ok (.bipush 20, 2) := by decide +kernel
theorem dX12_feed_28 : decode cX12_feed 28 = .ok (.if_icmp .ge 93, 3) := by decide +kernel
theorem dX12_feed_31 : decode cX12_feed 31 = .ok (.iload 6, 2) := by decide +kernel
theorem dX12_feed_33 : decode cX12_feed 33 = .ok (.iconst 4, 1) := by decide +kernel
theorem dX12_feed_34 : decode cX12_feed 34 = .ok (.if_icmp .ge 7, 3) := by decide +kernel
theorem dX12_feed_37 : decode cX12_feed 37 = .ok (.iload_n 1, 1) := by decide +kernel
theorem dX12_feed_38 : decode cX12_feed 38 = .ok (.goto 39, 3) := by decide +kernel
theorem dX12_feed_41 : decode cX12_feed 41 = .ok (.iload 6, 2) := by decide +kernel
theorem dX12_feed_43 : decode cX12_feed 43 = .ok (.bipush 8, 2) := by decide +kernel
theorem dX12_feed_45 : decode cX12_feed 45 = .ok (.if_icmp .ge 7, 3) := by decide +kernel
theorem dX12_feed_48 : decode cX12_feed 48 = .ok (.iload_n 2, 1) := by decide +kernel
theorem dX12_feed_49 : decode cX12_feed 49 = .ok (.goto 28, 3) := by decide +kernel
theorem dX12_feed_52 : decode cX12_feed 52 = .ok (.iload 6, 2) := by decide +kernel
theorem dX12_feed_54 : decode cX12_feed 54 = .ok (.bipush 12, 2) := by decide +kernel
theorem dX12_feed_56 : decode cX12_feed 56 = .ok (.if_icmp .ge 7, 3) := by decide +kernel
theorem dX12_feed_59 : decode cX12_feed 59 = .ok (.iload_n 3, 1) := by decide +kernel
theorem dX12_feed_60 : decode cX12_feed 60 = .ok (.goto 17, 3) := by decide +kernel
theorem dX12_feed_63 : decode cX12_feed 63 = .ok (.iload 6, 2) := by decide +kernel
theorem dX12_feed_65 : decode cX12_feed 65 = .ok (.bipush 16, 2) := by decide +kernel
theorem dX12_feed_67 : decode cX12_feed 67 = .ok (.if_icmp .ge 8, 3) := by decide +kernel
theorem dX12_feed_70 : decode cX12_feed 70 = .ok (.iload 4, 2) := by decide +kernel
theorem dX12_feed_72 : decode cX12_feed 72 = .ok (.goto 5, 3) := by decide +kernel
theorem dX12_feed_75 : decode cX12_feed 75 = .ok (.iload 5, 2) := by decide +kernel
theorem dX12_feed_77 : decode cX12_feed 77 = .ok (.istore 7, 2) := by decide +kernel
theorem dX12_feed_79 : decode cX12_feed 79 = .ok (.aload_n 0, 1) := by decide +kernel
theorem dX12_feed_80 : decode cX12_feed 80 = .ok (.getfield 21, 3) := by decide +kernel
theorem dX12_feed_83 : decode cX12_feed 83 = .ok (.aload_n 0, 1) := by decide +kernel
theorem dX12_feed_84 : decode cX12_feed 84 = .ok (.getfield 79, 3) := by decide +kernel
theorem dX12_feed_87 : decode cX12_feed 87 = .ok (.iload 7, 2) := by decide +kernel
theorem dX12_feed_89 : decode cX12_feed 89 = .ok (.bipush 24, 2) := by decide +kernel
theorem dX12_feed_91 : decode cX12_feed 91 = .ok (.bipush 8, 2) := by decide +kernel
theorem dX12_feed_93 : decode cX12_feed 93 = .ok (.iload 6, 2) := by decide +kernel
theorem dX12_feed_95 : decode cX12_feed 95 = .ok (.iconst 4, 1) := by decide +kernel
theorem dX12_feed_96 : decode cX12_feed 96 = .ok (.irem, 1) := by decide +kernel
theorem dX12_feed_97 : decode cX12_feed 97 = .ok (.imul, 1) := by decide +kernel
theorem dX12_feed_98 : decode cX12_feed 98 = .ok (.isub, 1) := by decide +kernel
theorem dX12_feed_99 : decode cX12_feed 99 = .ok (.ishr, 1) := by decide +kernel
theorem dX12_feed_100 : decode cX12_feed 100 = .ok (.sipush 255, 3) := by decide +kernel
theorem dX12_feed_103 : decode cX12_feed 103 = .ok (.iand, 1) := by decide +kernel
theorem dX12_feed_104 : decode cX12_feed 104 = .ok (.iastore, 1) := by decide +kernel
theorem dX12_feed_105 : decode cX12_feed 105 = .ok (.aload_n 0, 1) := by decide +kernel
theorem dX12_feed_106 : decode cX12_feed 106 = .ok (.dup, 1) := by decide +kernel
theorem dX12_feed_107 : decode cX12_feed 107 = .ok (.getfield 79, 3) := by decide +kernel
theorem dX12_feed_110 : decode cX12_feed 110 = .ok (.iconst 1, 1) := by decide +kernel
theorem dX12_feed_111 : decode cX12_feed 111 = .ok (.iadd, 1) := by decide +kernel
theorem dX12_feed_112 : decode cX12_feed 112 = .ok (.putfield 79, 3) := by decide +kernel
theorem dX12_feed_115 : decode cX12_feed 115 = .ok (.iinc 6 1, 3) := by decide +kernel
theorem dX12_feed_118 : decode cX12_feed 118 = .ok (.goto (-94), 3) := by decide +kernel
theorem dX12_feed_121 : decode cX12_feed 121 = .ok (.aload_n 0, 1) := by decide +kernel
theorem dX12_feed_122 : decode cX12_feed 122 = .ok (.getfield 79, 3) := by decide +kernel
theorem dX12_feed_125 : decode cX12_feed 125 = .ok (.ireturn, 1) := by decide +kernel
theorem dX12_see_0 : decode cX12_see 0 = .ok (.iload_n 1, 1) := by decide +kernel
theorem dX12_see_1 : decode cX12_see 1 = .ok (.aload_n 0, 1) := by decide +kernel
theorem dX12_see_2 : decode cX12_see 2 = .ok (.getfield 82, 3) := by decide +kernel
theorem dX12_see_5 : decode cX12_see 5 = .ok (.if_icmp .ge 12, 3) := by decide +kernel
theorem dX12_see_8 : decode cX12_see 8 = .ok (.aload_n 0, 1) := by decide +kernel
theorem dX12_see_9 : decode cX12_see 9 = .ok (.getfield 21, 3) := by decide +kernel
theorem dX12_see_12 : decode cX12_see 12 = .ok (.iload_n 1, 1) := by decide +kernel
theorem dX12_see_13 : decode cX12_see 13 = .ok (.iaload, 1) := by decide +kernel
theorem dX12_see_14 : decode cX12_see 14 = .ok (.goto 4, 3) := by decide +kernel
theorem dX12_see_17 : decode cX12_see 17 = .ok (.iconst (-1), 1) := by decide +kernel
theorem dX12_see_18 : decode cX12_see 18 = .ok (.ireturn, 1) := by decide +kernel
theorem dX12_isSmall_0 : decode cX12_isSmall 0 = .ok (.iload_n 0, 1) := by decide +kernel
theorem dX12_isSmall_1 : decode cX12_isSmall 1 = .ok (.bipush 97, 2) := by decide +kernel
theorem dX12_isSmall_3 : decode cX12_isSmall 3 = .ok (.if_icmp .lt 13, 3) := by decide +kernel
theorem dX12_isSmall_6 : decode cX12_isSmall 6 = .ok (.iload_n 0, 1) := by decide +kernel
theorem dX12_isSmall_7 : decode cX12_isSmall 7 = .ok (.bipush 122, 2) := by decide +kernel
theorem dX12_isSmall_9 : decode cX12_isSmall 9 = .ok (.if_icmp .gt 7, 3) := by decide +kernel
theorem dX12_isSmall_12 : decode cX12_isSmall 12 = .ok (.iconst 1, 1) := by decide +kernel
theorem dX12_isSmall_13 : decode cX12_isSmall 13 = .ok (.goto 4, 3) := by decide +kernel
theorem dX12_isSmall_16 : decode cX12_isSmall 16 = .ok (.iconst 0, 1) := by decide +kernel
theorem dX12_isSmall_17 : decode cX12_isSmall 17 = .ok (.ireturn, 1) := by decide +kernel
theorem dX12_isDigit_0 : decode cX12_isDigit 0 = .ok (.iload_n 0, 1) := by decide +kernel
theorem dX12_isDigit_1 : decode cX12_isDigit 1 = .ok (.bipush 48, 2) := by decide +kernel
theorem dX12_isDigit_3 : decode cX12_isDigit 3 = .ok (.if_icmp .lt 13, 3) := by decide +kernel
theorem dX12_isDigit_6 : decode cX12_isDigit 6 = .ok (.iload_n 0, 1) := by decide +kernel
theorem dX12_isDigit_7 : decode cX12_isDigit 7 = .ok (.bipush 57, 2) := by decide +kernel
theorem dX12_isDigit_9 : decode cX12_isDigit 9 = .ok (.if_icmp .gt 7, 3) := by decide +kernel
theorem dX12_isDigit_12 : decode cX12_isDigit 12 = .ok (.iconst 1, 1) := by decide +kernel
theorem dX12_isDigit_13 : decode cX12_isDigit 13 = .ok (.goto 4, 3) := by decide +kernel
theorem dX12_isDigit_16 : decode cX12_isDigit 16 = .ok (.iconst 0, 1) := by decide +kernel
theorem dX12_isDigit_17 : decode cX12_isDigit 17 = .ok (.ireturn, 1) := by decide +kernel
theorem dX12_keyAt_0 : decode cX12_keyAt 0 = .ok (.iconst 0, 1) := by decide +kernel
theorem dX12_keyAt_1 : decode cX12_keyAt 1 = .ok (.istore_n 1, 1) := by decide +kernel
theorem dX12_keyAt_2 : decode cX12_keyAt 2 = .ok (.iconst 1, 1) := by decide +kernel
theorem dX12_keyAt_3 : decode cX12_keyAt 3 = .ok (.istore_n 2, 1) := by decide +kernel
theorem dX12_keyAt_4 : decode cX12_keyAt 4 = .ok (.iload_n 2, 1) := by decide +kernel
theorem dX12_keyAt_5 : decode cX12_keyAt 5 = .ok (.ldc 85, 2) := by decide +kernel
theorem dX12_keyAt_7 : decode cX12_keyAt 7 = .ok (.invokevirtual 87, 3) := by decide +kernel
theorem dX12_keyAt_10 : decode cX12_keyAt 10 = .ok (.if_icmp .ge 113, 3) := by decide +kernel
theorem dX12_keyAt_13 : decode cX12_keyAt 13 = .ok (.iconst 0, 1) := by decide +kernel
theorem dX12_keyAt_14 : decode cX12_keyAt 14 = .ok (.istore_n 3, 1) := by decide +kernel
theorem dX12_keyAt_15 : decode cX12_keyAt 15 = .ok (.ldc 85, 2) := by decide +kernel
theorem dX12_keyAt_17 : decode cX12_keyAt 17 = .ok (.iload_n 2, 1) := by decide +kernel
theorem dX12_keyAt_18 : decode cX12_keyAt 18 = .ok (.iload_n 3, 1) := by decide +kernel
theorem dX12_keyAt_19 : decode cX12_keyAt 19 = .ok (.iadd, 1) := by decide +kernel
theorem dX12_keyAt_20 : decode cX12_keyAt 20 = .ok (.invokevirtual 93, 3) := by decide +kernel
theorem dX12_keyAt_23 : decode cX12_keyAt 23 = .ok (.bipush 32, 2) := by decide +kernel
theorem dX12_keyAt_25 : decode cX12_keyAt 25 = .ok (.if_icmp .eq 44, 3) := by decide +kernel
theorem dX12_keyAt_28 : decode cX12_keyAt 28 = .ok (.aload_n 0, 1) := by decide +kernel
theorem dX12_keyAt_29 : decode cX12_keyAt 29 = .ok (.getfield 97, 3) := by decide +kernel
theorem dX12_keyAt_32 : decode cX12_keyAt 32 = .ok (.iload_n 3, 1) := by decide +kernel
theorem dX12_keyAt_33 : decode cX12_keyAt 33 = .ok (.iadd, 1) := by decide +kernel
theorem dX12_keyAt_34 : decode cX12_keyAt 34 = .ok (.aload_n 0, 1) := by decide +kernel
theorem dX12_keyAt_35 : decode cX12_keyAt 35 = .ok (.getfield 100, 3) := by decide +kernel
theorem dX12_keyAt_38 : decode cX12_keyAt 38 = .ok (.if_icmp .ge 31, 3) := by decide +kernel
theorem dX12_keyAt_41 : decode cX12_keyAt 41 = .ok (.aload_n 0, 1) := by decide +kernel
theorem dX12_keyAt_42 : decode cX12_keyAt 42 = .ok (.getfield 21, 3) := by decide +kernel
theorem dX12_keyAt_45 : decode cX12_keyAt 45 = .ok (.aload_n 0, 1) := by decide +kernel
theorem dX12_keyAt_46 : decode cX12_keyAt 46 = .ok (.getfield 97, 3) := by decide +kernel
theorem dX12_keyAt_49 : decode cX12_keyAt 49 = .ok (.iload_n 3, 1) := by decide +kernel
theorem dX12_keyAt_50 : decode cX12_keyAt 50 = .ok (.iadd, 1) := by decide +kernel
theorem dX12_keyAt_51 : decode cX12_keyAt 51 = .ok (.iaload, 1) := by decide +kernel
theorem dX12_keyAt_52 : decode cX12_keyAt 52 = .ok (.ldc 85, 2) := by decide +kernel
theorem dX12_keyAt_54 : decode cX12_keyAt 54 = .ok (.iload_n 2, 1) := by decide +kernel
theorem dX12_keyAt_55 : decode cX12_keyAt 55 = .ok (.iload_n 3, 1) := by decide +kernel
theorem dX12_keyAt_56 : decode cX12_keyAt 56 = .ok (.iadd, 1) := by decide +kernel
theorem dX12_keyAt_57 : decode cX12_keyAt 57 = .ok (.invokevirtual 93, 3) := by decide +kernel
theorem dX12_keyAt_60 : decode cX12_keyAt 60 = .ok (.if_icmp .ne 9, 3) := by decide +kernel
theorem dX12_keyAt_63 : decode cX12_keyAt 63 = .ok (.iinc 3 1, 3) := by decide +kernel
theorem dX12_keyAt_66 : decode cX12_keyAt 66 = .ok (.goto (-51), 3) := by decide +kernel
theorem dX12_keyAt_69 : decode cX12_keyAt 69 = .ok (.ldc 85, 2) := by decide +kernel
theorem dX12_keyAt_71 : decode cX12_keyAt 71 = .ok (.iload_n 2, 1) := by decide +kernel
theorem dX12_keyAt_72 : decode cX12_keyAt 72 = .ok (.iload_n 3, 1) := by decide +kernel
theorem dX12_keyAt_73 : decode cX12_keyAt 73 = .ok (.iadd, 1) := by decide +kernel
theorem dX12_keyAt_74 : decode cX12_keyAt 74 = .ok (.invokevirtual 93, 3) := by decide +kernel
theorem dX12_keyAt_77 : decode cX12_keyAt 77 = .ok (.bipush 32, 2) := by decide +kernel
theorem dX12_keyAt_79 : decode cX12_keyAt 79 = .ok (.if_icmp .ne 18, 3) := by decide +kernel
theorem dX12_keyAt_82 : decode cX12_keyAt 82 = .ok (.aload_n 0, 1) := by decide +kernel
theorem dX12_keyAt_83 : decode cX12_keyAt 83 = .ok (.getfield 97, 3) := by decide +kernel
theorem dX12_keyAt_86 : decode cX12_keyAt 86 = .ok (.iload_n 3, 1) := by decide +kernel
theorem dX12_keyAt_87 : decode cX12_keyAt 87 = .ok (.iadd, 1) := by decide +kernel
theorem dX12_keyAt_88 : decode cX12_keyAt 88 = .ok (.aload_n 0, 1) := by decide +kernel
theorem dX12_keyAt_89 : decode cX12_keyAt 89 = .ok (.getfield 100, 3) := by decide +kernel
theorem dX12_keyAt_92 : decode cX12_keyAt 92 = .ok (.if_icmp .ne 5, 3) := by decide +kernel
theorem dX12_keyAt_95 : decode cX12_keyAt 95 = .ok (.iload_n 1, 1) := by decide +kernel
theorem dX12_keyAt_96 : decode cX12_keyAt 96 = .ok (.ireturn, 1) := by decide +kernel
theorem dX12_keyAt_97 : decode cX12_keyAt 97 = .ok (.ldc 85, 2) := by decide +kernel
theorem dX12_keyAt_99 : decode cX12_keyAt 99 = .ok (.iload_n 2, 1) := by decide +kernel
theorem dX12_keyAt_100 : decode cX12_keyAt 100 = .ok (.invokevirtual 93, 3) := by decide +kernel
theorem dX12_keyAt_103 : decode cX12_keyAt 103 = .ok (.bipush 32, 2) := by decide +kernel
theorem dX12_keyAt_105 : decode cX12_keyAt 105 = .ok (.if_icmp .eq 9, 3) := by decide +kernel
theorem dX12_keyAt_108 : decode cX12_keyAt 108 = .ok (.iinc 2 1, 3) := by decide +kernel
theorem dX12_keyAt_111 : decode cX12_keyAt 111 = .ok (.goto (-14), 3) := by decide +kernel
theorem dX12_keyAt_114 : decode cX12_keyAt 114 = .ok (.iinc 2 1, 3) := by decide +kernel
theorem dX12_keyAt_117 : decode cX12_keyAt 117 = .ok (.iinc 1 1, 3) := by decide +kernel
theorem dX12_keyAt_120 : decode cX12_keyAt 120 = .ok (.goto (-116), 3) := by decide +kernel
theorem dX12_keyAt_123 : decode cX12_keyAt 123 = .ok (.bipush 20, 2) := by decide +kernel
theorem dX12_keyAt_125 : decode cX12_keyAt 125 = .ok (.ireturn, 1) := by decide +kernel
theorem dX12_next_0 : decode cX12_next 0 = .ok (.aload_n 0, 1) := by decide +kernel
theorem dX12_next_1 : decode cX12_next 1 = .ok (.aload_n 0, 1) := by decide +kernel
theorem dX12_next_2 : decode cX12_next 2 = .ok (.getfield 100, 3) := by decide +kernel
theorem dX12_next_5 : decode cX12_next 5 = .ok (.putfield 97, 3) := by decide +kernel
theorem dX12_next_8 : decode cX12_next 8 = .ok (.aload_n 0, 1) := by decide +kernel
theorem dX12_next_9 : decode cX12_next 9 = .ok (.aload_n 0, 1) := by decide +kernel
theorem dX12_next_10 : decode cX12_next 10 = .ok (.getfield 97, 3) := by decide +kernel
theorem dX12_next_13 : decode cX12_next 13 = .ok (.invokevirtual 103, 3) := by decide +kernel
theorem dX12_next_16 : decode cX12_next 16 = .ok (.bipush 10, 2) := by decide +kernel
theorem dX12_next_18 : decode cX12_next 18 = .ok (.if_icmp .eq 16, 3) := by decide +kernel
theorem dX12_next_21 : decode cX12_next 21 = .ok (.aload_n 0, 1) := by decide +kernel
theorem dX12_next_22 : decode cX12_next 22 = .ok (.aload_n 0, 1) := by decide +kernel
theorem dX12_next_23 : decode cX12_next 23 = .ok (.getfield 97, 3) := by decide +kernel
theorem dX12_next_26 : decode cX12_next 26 = .ok (.invokevirtual 103, 3) := by decide +kernel
theorem dX12_next_29 : decode cX12_next 29 = .ok (.bipush 32, 2) := by decide +kernel
theorem dX12_next_31 : decode cX12_next 31 = .ok (.if_icmp .ne 16, 3) := by decide +kernel
theorem dX12_next_34 : decode cX12_next 34 = .ok (.aload_n 0, 1) := by decide +kernel
theorem dX12_next_35 : decode cX12_next 35 = .ok (.dup, 1) := by decide +kernel
theorem dX12_next_36 : decode cX12_next 36 = .ok (.getfield 97, 3) := by decide +kernel
theorem dX12_next_39 : decode cX12_next 39 = .ok (.iconst 1, 1) := by decide +kernel
theorem dX12_next_40 : decode cX12_next 40 = .ok (.iadd, 1) := by decide +kernel
theorem dX12_next_41 : decode cX12_next 41 = .ok (.putfield 97, 3) := by decide +kernel
theorem dX12_next_44 : decode cX12_next 44 = .ok (.goto (-36), 3) := by decide +kernel
theorem dX12_next_47 : decode cX12_next 47 = .ok (.aload_n 0, 1) := by decide +kernel
theorem dX12_next_48 : decode cX12_next 48 = .ok (.aload_n 0, 1) := by decide +kernel
theorem dX12_next_49 : decode cX12_next 49 = .ok (.getfield 97, 3) := by decide +kernel
theorem dX12_next_52 : decode cX12_next 52 = .ok (.putfield 100, 3) := by decide +kernel
theorem dX12_next_55 : decode cX12_next 55 = .ok (.aload_n 0, 1) := by decide +kernel
theorem dX12_next_56 : decode cX12_next 56 = .ok (.getfield 97, 3) := by decide +kernel
theorem dX12_next_59 : decode cX12_next 59 = .ok (.aload_n 0, 1) := by decide +kernel
theorem dX12_next_60 : decode cX12_next 60 = .ok (.getfield 82, 3) := by decide +kernel
theorem dX12_next_63 : decode cX12_next 63 = .ok (.if_icmp .lt 12, 3) := by decide +kernel
theorem dX12_next_66 : decode cX12_next 66 = .ok (.aload_n 0, 1) := by decide +kernel
theorem dX12_next_67 : decode cX12_next 67 = .ok (.bipush 25, 2) := by decide +kernel
theorem dX12_next_69 : decode cX12_next 69 = .ok (.putfield 107, 3) := by decide +kernel
theorem dX12_next_72 : decode cX12_next 72 = .ok (.goto 234, 3) := by decide +kernel
theorem dX12_next_75 : decode cX12_next 75 = .ok (.aload_n 0, 1) := by decide +kernel
theorem dX12_next_76 : decode cX12_next 76 = .ok (.aload_n 0, 1) := by decide +kernel
theorem dX12_next_77 : decode cX12_next 77 = .ok (.getfield 97, 3) := by decide +kernel
theorem dX12_next_80 : decode cX12_next 80 = .ok (.invokevirtual 103, 3) := by decide +kernel
theorem dX12_next_83 : decode cX12_next 83 = .ok (.invokestatic 110, 3) := by decide +kernel
theorem dX12_next_86 : decode cX12_next 86 = .ok (.ifCond .eq 41, 3) := by decide +kernel
theorem dX12_next_89 : decode cX12_next 89 = .ok (.aload_n 0, 1) := by decide +kernel
theorem dX12_next_90 : decode cX12_next 90 = .ok (.aload_n 0, 1) := by decide +kernel
theorem dX12_next_91 : decode cX12_next 91 = .ok (.getfield 100, 3) := by decide +kernel
theorem dX12_next_94 : decode cX12_next 94 = .ok (.invokevirtual 103, 3) := by decide +kernel
theorem dX12_next_97 : decode cX12_next 97 = .ok (.invokestatic 110, 3) := by decide +kernel
theorem dX12_next_100 : decode cX12_next 100 = .ok (.ifCond .eq 16, 3) := by decide +kernel
theorem dX12_next_103 : decode cX12_next 103 = .ok (.aload_n 0, 1) := by decide +kernel
theorem dX12_next_104 : decode cX12_next 104 = .ok (.dup, 1) := by decide +kernel
theorem dX12_next_105 : decode cX12_next 105 = .ok (.getfield 100, 3) := by decide +kernel
theorem dX12_next_108 : decode cX12_next 108 = .ok (.iconst 1, 1) := by decide +kernel
theorem dX12_next_109 : decode cX12_next 109 = .ok (.iadd, 1) := by decide +kernel
theorem dX12_next_110 : decode cX12_next 110 = .ok (.putfield 100, 3) := by decide +kernel
theorem dX12_next_113 : decode cX12_next 113 = .ok (.goto (-24), 3) := by decide +kernel
theorem dX12_next_116 : decode cX12_next 116 = .ok (.aload_n 0, 1) := by decide +kernel
theorem dX12_next_117 : decode cX12_next 117 = .ok (.aload_n 0, 1) := by decide +kernel
theorem dX12_next_118 : decode cX12_next 118 = .ok (.invokevirtual 114, 3) := by decide +kernel
theorem dX12_next_121 : decode cX12_next 121 = .ok (.putfield 107, 3) := by decide +kernel
theorem dX12_next_124 : decode cX12_next 124 = .ok (.goto 182, 3) := by decide +kernel
theorem dX12_next_127 : decode cX12_next 127 = .ok (.aload_n 0, 1) := by decide +kernel
theorem dX12_next_128 : decode cX12_next 128 = .ok (.aload_n 0, 1) := by decide +kernel
theorem dX12_next_129 : decode cX12_next 129 = .ok (.getfield 97, 3) := by decide +kernel
theorem dX12_next_132 : decode cX12_next 132 = .ok (.invokevirtual 103, 3) := by decide +kernel
theorem dX12_next_135 : decode cX12_next 135 = .ok (.invokestatic 117, 3) := by decide +kernel
theorem dX12_next_138 : decode cX12_next 138 = .ok (.ifCond .eq 98, 3) := by decide +kernel
theorem dX12_next_141 : decode cX12_next 141 = .ok (.aload_n 0, 1) := by decide +kernel
theorem dX12_next_142 : decode cX12_next 142 = .ok (.iconst 0, 1) := by decide +kernel
theorem dX12_next_143 : decode cX12_next 143 = .ok (.putfield 120, 3) := by decide +kernel
theorem dX12_next_146 : decode cX12_next 146 = .ok (.aload_n 0, 1) := by decide +kernel
theorem dX12_next_147 : decode cX12_next 147 = .ok (.aload_n 0, 1) := by decide +kernel
theorem dX12_next_148 : decode cX12_next 148 = .ok (.getfield 100, 3) := by decide +kernel
theorem dX12_next_151 : decode cX12_next 151 = .ok (.invokevirtual 103, 3) := by decide +kernel
theorem dX12_next_154 : decode cX12_next 154 = .ok (.invokestatic 117, 3) := by decide +kernel
theorem dX12_next_157 : decode cX12_next 157 = .ok (.ifCond .eq 52, 3) := by decide +kernel
theorem dX12_next_160 : decode cX12_next 160 = .ok (.aload_n 0, 1) := by decide +kernel
theorem dX12_next_161 : decode cX12_next 161 = .ok (.getfield 100, 3) := by decide +kernel
theorem dX12_next_164 : decode cX12_next 164 = .ok (.aload_n 0, 1) := by decide +kernel
theorem dX12_next_165 : decode cX12_next 165 = .ok (.getfield 97, 3) := by decide +kernel
theorem dX12_next_168 : decode cX12_next 168 = .ok (.isub, 1) := by decide +kernel
theorem dX12_next_169 : decode cX12_next 169 = .ok (.iconst 3, 1) := by decide +kernel
theorem dX12_next_170 : decode cX12_next 170 = .ok (.if_icmp .ge 26, 3) := by decide +kernel
theorem dX12_next_173 : decode cX12_next 173 = .ok (.aload_n 0, 1) := by decide +kernel
theorem dX12_next_174 : decode cX12_next 174 = .ok (.bipush 10, 2) := by decide +kernel
theorem dX12_next_176 : decode cX12_next 176 = .ok (.aload_n 0, 1) := by decide +kernel
theorem dX12_next_177 : decode cX12_next 177 = .ok (.getfield 120, 3) := by decide +kernel
theorem dX12_next_180 : decode cX12_next 180 = .ok (.imul, 1) := by decide +kernel
theorem dX12_next_181 : decode cX12_next 181 = .ok (.aload_n 0, 1) := by decide +kernel
theorem dX12_next_182 : decode cX12_next 182 = .ok (.aload_n 0, 1) := by decide +kernel
theorem dX12_next_183 : decode cX12_next 183 = .ok (.getfield 100, 3) := by decide +kernel
theorem dX12_next_186 : decode cX12_next 186 = .ok (.invokevirtual 103, 3) := by decide +kernel
theorem dX12_next_189 : decode cX12_next 189 = .ok (.iadd, 1) := by decide +kernel
theorem dX12_next_190 : decode cX12_next 190 = .ok (.bipush 48, 2) := by decide +kernel
theorem dX12_next_192 : decode cX12_next 192 = .ok (.isub, 1) := by decide +kernel
theorem dX12_next_193 : decode cX12_next 193 = .ok (.putfield 120, 3) := by decide +kernel
theorem dX12_next_196 : decode cX12_next 196 = .ok (.aload_n 0, 1) := by decide +kernel
theorem dX12_next_197 : decode cX12_next 197 = .ok (.dup, 1) := by decide +kernel
theorem dX12_next_198 : decode cX12_next 198 = .ok (.getfield 100, 3) := by decide +kernel
theorem dX12_next_201 : decode cX12_next 201 = .ok (.iconst 1, 1) := by decide +kernel
theorem dX12_next_202 : decode cX12_next 202 = .ok (.iadd, 1) := by decide +kernel
theorem dX12_next_203 : decode cX12_next 203 = .ok (.putfield 100, 3) := by decide +kernel
theorem dX12_next_206 : decode cX12_next 206 = .ok (.goto (-60), 3) := by decide +kernel
theorem dX12_next_209 : decode cX12_next 209 = .ok (.aload_n 0, 1) := by decide +kernel
theorem dX12_next_210 : decode cX12_next 210 = .ok (.aload_n 0, 1) := by decide +kernel
theorem dX12_next_211 : decode cX12_next 211 = .ok (.getfield 100, 3) := by decide +kernel
theorem dX12_next_214 : decode cX12_next 214 = .ok (.aload_n 0, 1) := by decide +kernel
theorem dX12_next_215 : decode cX12_next 215 = .ok (.getfield 97, 3) := by decide +kernel
theorem dX12_next_218 : decode cX12_next 218 = .ok (.isub, 1) := by decide +kernel
theorem dX12_next_219 : decode cX12_next 219 = .ok (.iconst 3, 1) := by decide +kernel
theorem dX12_next_220 : decode cX12_next 220 = .ok (.if_icmp .le 8, 3) := by decide +kernel
theorem dX12_next_223 : decode cX12_next 223 = .ok (.bipush 26, 2) := by decide +kernel
theorem dX12_next_225 : decode cX12_next 225 = .ok (.goto 5, 3) := by decide +kernel
theorem dX12_next_228 : decode cX12_next 228 = .ok (.bipush 21, 2) := by decide +kernel
theorem dX12_next_230 : decode cX12_next 230 = .ok (.putfield 107, 3) := by decide +kernel
theorem dX12_next_233 : decode cX12_next 233 = .ok (.goto 73, 3) := by decide +kernel
theorem dX12_next_236 : decode cX12_next 236 = .ok (.aload_n 0, 1) := by decide +kernel
theorem dX12_next_237 : decode cX12_next 237 = .ok (.dup, 1) := by decide +kernel
theorem dX12_next_238 : decode cX12_next 238 = .ok (.getfield 100, 3) := by decide +kernel
theorem dX12_next_241 : decode cX12_next 241 = .ok (.iconst 1, 1) := by decide +kernel
theorem dX12_next_242 : decode cX12_next 242 = .ok (.iadd, 1) := by decide +kernel
theorem dX12_next_243 : decode cX12_next 243 = .ok (.putfield 100, 3) := by decide +kernel
theorem dX12_next_246 : decode cX12_next 246 = .ok (.aload_n 0, 1) := by decide +kernel
theorem dX12_next_247 : decode cX12_next 247 = .ok (.aload_n 0, 1) := by decide +kernel
theorem dX12_next_248 : decode cX12_next 248 = .ok (.aload_n 0, 1) := by decide +kernel
theorem dX12_next_249 : decode cX12_next 249 = .ok (.getfield 97, 3) := by decide +kernel
theorem dX12_next_252 : decode cX12_next 252 = .ok (.invokevirtual 103, 3) := by decide +kernel
theorem dX12_next_255 : decode cX12_next 255 = .ok (.bipush 59, 2) := by decide +kernel
theorem dX12_next_257 : decode cX12_next 257 = .ok (.if_icmp .ne 8, 3) := by decide +kernel
theorem dX12_next_260 : decode cX12_next 260 = .ok (.bipush 22, 2) := by decide +kernel
theorem dX12_next_262 : decode cX12_next 262 = .ok (.goto 41, 3) := by decide +kernel
theorem dX12_next_265 : decode cX12_next 265 = .ok (.aload_n 0, 1) := by decide +kernel
theorem dX12_next_266 : decode cX12_next 266 = .ok (.aload_n 0, 1) := by decide +kernel
theorem dX12_next_267 : decode cX12_next 267 = .ok (.getfield 97, 3) := by decide +kernel
theorem dX12_next_270 : decode cX12_next 270 = .ok (.invokevirtual 103, 3) := by decide +kernel
theorem dX12_next_273 : decode cX12_next 273 = .ok (.bipush 40, 2) := by decide +kernel
theorem dX12_next_275 : decode cX12_next 275 = .ok (.if_icmp .ne 8, 3) := by decide +kernel
theorem dX12_next_278 : decode cX12_next 278 = .ok (.bipush 23, 2) := by decide +kernel
theorem dX12_next_280 : decode cX12_next 280 = .ok (.goto 23, 3) := by decide +kernel
theorem dX12_next_283 : decode cX12_next 283 = .ok (.aload_n 0, 1) := by decide +kernel
theorem dX12_next_284 : decode cX12_next 284 = .ok (.aload_n 0, 1) := by decide +kernel
theorem dX12_next_285 : decode cX12_next 285 = .ok (.getfield 97, 3) := by decide +kernel
theorem dX12_next_288 : decode cX12_next 288 = .ok (.invokevirtual 103, 3) := by decide +kernel
theorem dX12_next_291 : decode cX12_next 291 = .ok (.bipush 41, 2) := by decide +kernel
theorem dX12_next_293 : decode cX12_next 293 = .ok (.if_icmp .ne 8, 3) := by decide +kernel
theorem dX12_next_296 : decode cX12_next 296 = .ok (.bipush 24, 2) := by decide +kernel
theorem dX12_next_298 : decode cX12_next 298 = .ok (.goto 5, 3) := by decide +kernel
theorem dX12_next_301 : decode cX12_next 301 = .ok (.bipush 26, 2) := by decide +kernel
theorem dX12_next_303 : decode cX12_next 303 = .ok (.putfield 107, 3) := by decide +kernel
theorem dX12_next_306 : decode cX12_next 306 = .ok (.return_, 1) := by decide +kernel
theorem dX12_fails_0 : decode cX12_fails 0 = .ok (.aload_n 0, 1) := by decide +kernel
theorem dX12_fails_1 : decode cX12_fails 1 = .ok (.getfield 123, 3) := by decide +kernel
theorem dX12_fails_4 : decode cX12_fails 4 = .ok (.ifCond .eq 4, 3) := by decide +kernel
theorem dX12_fails_7 : decode cX12_fails 7 = .ok (.return_, 1) := by decide +kernel
theorem dX12_fails_8 : decode cX12_fails 8 = .ok (.aload_n 0, 1) := by decide +kernel
theorem dX12_fails_9 : decode cX12_fails 9 = .ok (.aload_n 0, 1) := by decide +kernel
theorem dX12_fails_10 : decode cX12_fails 10 = .ok (.getfield 107, 3) := by decide +kernel
theorem dX12_fails_13 : decode cX12_fails 13 = .ok (.bipush 26, 2) := by decide +kernel
theorem dX12_fails_15 : decode cX12_fails 15 = .ok (.if_icmp .ne 7, 3) := by decide +kernel
theorem dX12_fails_18 : decode cX12_fails 18 = .ok (.iconst 1, 1) := by decide +kernel
theorem dX12_fails_19 : decode cX12_fails 19 = .ok (.goto 4, 3) := by decide +kernel
theorem dX12_fails_22 : decode cX12_fails 22 = .ok (.iload_n 1, 1) := by decide +kernel
theorem dX12_fails_23 : decode cX12_fails 23 = .ok (.putfield 123, 3) := by decide +kernel
theorem dX12_fails_26 : decode cX12_fails 26 = .ok (.aload_n 0, 1) := by decide +kernel
theorem dX12_fails_27 : decode cX12_fails 27 = .ok (.aload_n 0, 1) := by decide +kernel
theorem dX12_fails_28 : decode cX12_fails 28 = .ok (.getfield 97, 3) := by decide +kernel
theorem dX12_fails_31 : decode cX12_fails 31 = .ok (.putfield 126, 3) := by decide +kernel
theorem dX12_fails_34 : decode cX12_fails 34 = .ok (.return_, 1) := by decide +kernel
theorem dX12_is_0 : decode cX12_is 0 = .ok (.aload_n 0, 1) := by decide +kernel
theorem dX12_is_1 : decode cX12_is 1 = .ok (.getfield 123, 3) := by decide +kernel
theorem dX12_is_4 : decode cX12_is 4 = .ok (.ifCond .ne 15, 3) := by decide +kernel
theorem dX12_is_7 : decode cX12_is 7 = .ok (.aload_n 0, 1) := by decide +kernel
theorem dX12_is_8 : decode cX12_is 8 = .ok (.getfield 107, 3) := by decide +kernel
theorem dX12_is_11 : decode cX12_is 11 = .ok (.iload_n 1, 1) := by decide +kernel
theorem dX12_is_12 : decode cX12_is 12 = .ok (.if_icmp .ne 7, 3) := by decide +kernel
theorem dX12_is_15 : decode cX12_is 15 = .ok (.iconst 1, 1) := by decide +kernel
theorem dX12_is_16 : decode cX12_is 16 = .ok (.goto 4, 3) := by decide +kernel
theorem dX12_is_19 : decode cX12_is 19 = .ok (.iconst 0, 1) := by decide +kernel
theorem dX12_is_20 : decode cX12_is 20 = .ok (.ireturn, 1) := by decide +kernel
theorem dX12_eats_0 : decode cX12_eats 0 = .ok (.aload_n 0, 1) := by decide +kernel
theorem dX12_eats_1 : decode cX12_eats 1 = .ok (.iload_n 1, 1) := by decide +kernel
theorem dX12_eats_2 : decode cX12_eats 2 = .ok (.invokevirtual 129, 3) := by decide +kernel
theorem dX12_eats_5 : decode cX12_eats 5 = .ok (.ifCond .ne 5, 3) := by decide +kernel
theorem dX12_eats_8 : decode cX12_eats 8 = .ok (.iconst 0, 1) := by decide +kernel
theorem dX12_eats_9 : decode cX12_eats 9 = .ok (.ireturn, 1) := by decide +kernel
theorem dX12_eats_10 : decode cX12_eats 10 = .ok (.aload_n 0, 1) := by decide +kernel
theorem dX12_eats_11 : decode cX12_eats 11 = .ok (.invokevirtual 132, 3) := by decide +kernel
theorem dX12_eats_14 : decode cX12_eats 14 = .ok (.iconst 1, 1) := by decide +kernel
theorem dX12_eats_15 : decode cX12_eats 15 = .ok (.ireturn, 1) := by decide +kernel
theorem dX12_musts_0 : decode cX12_musts 0 = .ok (.aload_n 0, 1) := by decide +kernel
theorem dX12_musts_1 : decode cX12_musts 1 = .ok (.iload_n 1, 1) := by decide +kernel
theorem dX12_musts_2 : decode cX12_musts 2 = .ok (.invokevirtual 135, 3) := by decide +kernel
theorem dX12_musts_5 : decode cX12_musts 5 = .ok (.ifCond .ne 8, 3) := by decide +kernel
theorem dX12_musts_8 : decode cX12_musts 8 = .ok (.aload_n 0, 1) := by decide +kernel
theorem dX12_musts_9 : decode cX12_musts 9 = .ok (.iconst 2, 1) := by decide +kernel
theorem dX12_musts_10 : decode cX12_musts 10 = .ok (.invokevirtual 138, 3) := by decide +kernel
theorem dX12_musts_13 : decode cX12_musts 13 = .ok (.return_, 1) := by decide +kernel
theorem dX12_reads_0 : decode cX12_reads 0 = .ok (.aload_n 0, 1) := by decide +kernel
theorem dX12_reads_1 : decode cX12_reads 1 = .ok (.bipush 21, 2) := by decide +kernel
theorem dX12_reads_3 : decode cX12_reads 3 = .ok (.invokevirtual 129, 3) := by decide +kernel
theorem dX12_reads_6 : decode cX12_reads 6 = .ok (.ifCond .ne 11, 3) := by decide +kernel
theorem dX12_reads_9 : decode cX12_reads 9 = .ok (.aload_n 0, 1) := by decide +kernel
theorem dX12_reads_10 : decode cX12_reads 10 = .ok (.iconst 2, 1) := by decide +kernel
theorem dX12_reads_11 : decode cX12_reads 11 = .ok (.invokevirtual 138, 3) := by decide +kernel
theorem dX12_reads_14 : decode cX12_reads 14 = .ok (.goto 23, 3) := by decide +kernel
theorem dX12_reads_17 : decode cX12_reads 17 = .ok (.aload_n 0, 1) := by decide +kernel
theorem dX12_reads_18 : decode cX12_reads 18 = .ok (.getfield 120, 3) := by decide +kernel
theorem dX12_reads_21 : decode cX12_reads 21 = .ok (.i2l, 1) := by decide +kernel
theorem dX12_reads_22 : decode cX12_reads 22 = .ok (.iload_n 1, 1) := by decide +kernel
theorem dX12_reads_23 : decode cX12_reads 23 = .ok (.i2l, 1) := by decide +kernel
theorem dX12_reads_24 : decode cX12_reads 24 = .ok (.iload_n 2, 1) := by decide +kernel
theorem dX12_reads_25 : decode cX12_reads 25 = .ok (.i2l, 1) := by decide +kernel
theorem dX12_reads_26 : decode cX12_reads 26 = .ok (.invokestatic 142, 3) := by decide +kernel
theorem dX12_reads_29 : decode cX12_reads 29 = .ok (.ifCond .ne 8, 3) := by decide +kernel
theorem dX12_reads_32 : decode cX12_reads 32 = .ok (.aload_n 0, 1) := by decide +kernel
theorem dX12_reads_33 : decode cX12_reads 33 = .ok (.iconst 3, 1) := by decide +kernel
theorem dX12_reads_34 : decode cX12_reads 34 = .ok (.invokevirtual 138, 3) := by decide +kernel
theorem dX12_reads_37 : decode cX12_reads 37 = .ok (.aload_n 0, 1) := by decide +kernel
theorem dX12_reads_38 : decode cX12_reads 38 = .ok (.getfield 120, 3) := by decide +kernel
theorem dX12_reads_41 : decode cX12_reads 41 = .ok (.istore_n 3, 1) := by decide +kernel
theorem dX12_reads_42 : decode cX12_reads 42 = .ok (.aload_n 0, 1) := by decide +kernel
theorem dX12_reads_43 : decode cX12_reads 43 = .ok (.getfield 123, 3) := by decide +kernel
theorem dX12_reads_46 : decode cX12_reads 46 = .ok (.ifCond .ne 7, 3) := by decide +kernel
theorem dX12_reads_49 : decode cX12_reads 49 = .ok (.aload_n 0, 1) := by decide +kernel
theorem dX12_reads_50 : decode cX12_reads 50 = .ok (.invokevirtual 132, 3) := by decide +kernel
theorem dX12_reads_53 : decode cX12_reads 53 = .ok (.iload_n 3, 1) := by decide +kernel
theorem dX12_reads_54 : decode cX12_reads 54 = .ok (.ireturn, 1) := by decide +kernel
theorem dX12_readUpto_0 : decode cX12_readUpto 0 = .ok (.aload_n 0, 1) := by decide +kernel
theorem dX12_readUpto_1 : decode cX12_readUpto 1 = .ok (.getfield 24, 3) := by decide +kernel
theorem dX12_readUpto_4 : decode cX12_readUpto 4 = .ok (.iconst 0, 1) := by decide +kernel
theorem dX12_readUpto_5 : decode cX12_readUpto 5 = .ok (.iaload, 1) := by decide +kernel
theorem dX12_readUpto_6 : decode cX12_readUpto 6 = .ok (.istore_n 1, 1) := by decide +kernel
theorem dX12_readUpto_7 : decode cX12_readUpto 7 = .ok (.iload_n 1, 1) := by decide +kernel
theorem dX12_readUpto_8 : decode cX12_readUpto 8 = .ok (.bipush 8, 2) := by decide +kernel
theorem dX12_readUpto_10 : decode cX12_readUpto 10 = .ok (.if_icmp .ne 8, 3) := by decide +kernel
theorem dX12_readUpto_13 : decode cX12_readUpto 13 = .ok (.aload_n 0, 1) := by decide +kernel
theorem dX12_readUpto_14 : decode cX12_readUpto 14 = .ok (.iconst 4, 1) := by decide +kernel
theorem dX12_readUpto_15 : decode cX12_readUpto 15 = .ok (.invokevirtual 138, 3) := by decide +kernel
theorem dX12_readUpto_18 : decode cX12_readUpto 18 = .ok (.aload_n 0, 1) := by decide +kernel
theorem dX12_readUpto_19 : decode cX12_readUpto 19 = .ok (.getfield 123, 3) := by decide +kernel
theorem dX12_readUpto_22 : decode cX12_readUpto 22 = .ok (.ifCond .eq 4, 3) := by decide +kernel
theorem dX12_readUpto_25 : decode cX12_readUpto 25 = .ok (.return_, 1) := by decide +kernel
theorem dX12_readUpto_26 : decode cX12_readUpto 26 = .ok (.aload_n 0, 1) := by decide +kernel
theorem dX12_readUpto_27 : decode cX12_readUpto 27 = .ok (.invokevirtual 132, 3) := by decide +kernel
theorem dX12_readUpto_30 : decode cX12_readUpto 30 = .ok (.aload_n 0, 1) := by decide +kernel
theorem dX12_readUpto_31 : decode cX12_readUpto 31 = .ok (.iload_n 1, 1) := by decide +kernel
theorem dX12_readUpto_32 : decode cX12_readUpto 32 = .ok (.ifCond .ne 7, 3) := by decide +kernel
theorem dX12_readUpto_35 : decode cX12_readUpto 35 = .ok (.iconst 1, 1) := by decide +kernel
theorem dX12_readUpto_36 : decode cX12_readUpto 36 = .ok (.goto 15, 3) := by decide +kernel
theorem dX12_readUpto_39 : decode cX12_readUpto 39 = .ok (.aload_n 0, 1) := by decide +kernel
theorem dX12_readUpto_40 : decode cX12_readUpto 40 = .ok (.getfield 24, 3) := by decide +kernel
theorem dX12_readUpto_43 : decode cX12_readUpto 43 = .ok (.iconst 1, 1) := by decide +kernel
theorem dX12_readUpto_44 : decode cX12_readUpto 44 = .ok (.iload_n 1, 1) := by decide +kernel
theorem dX12_readUpto_45 : decode cX12_readUpto 45 = .ok (.iadd, 1) := by decide +kernel
theorem dX12_readUpto_46 : decode cX12_readUpto 46 = .ok (.iconst 1, 1) := by decide +kernel
theorem dX12_readUpto_47 : decode cX12_readUpto 47 = .ok (.isub, 1) := by decide +kernel
theorem dX12_readUpto_48 : decode cX12_readUpto 48 = .ok (.iaload, 1) := by decide +kernel
theorem dX12_readUpto_49 : decode cX12_readUpto 49 = .ok (.iconst 1, 1) := by decide +kernel
theorem dX12_readUpto_50 : decode cX12_readUpto 50 = .ok (.iadd, 1) := by decide +kernel
theorem dX12_readUpto_51 : decode cX12_readUpto 51 = .ok (.sipush 999, 3) := by decide +kernel
theorem dX12_readUpto_54 : decode cX12_readUpto 54 = .ok (.invokevirtual 146, 3) := by decide +kernel
theorem dX12_readUpto_57 : decode cX12_readUpto 57 = .ok (.istore_n 2, 1) := by decide +kernel
theorem dX12_readUpto_58 : decode cX12_readUpto 58 = .ok (.aload_n 0, 1) := by decide +kernel
theorem dX12_readUpto_59 : decode cX12_readUpto 59 = .ok (.iconst 1, 1) := by decide +kernel
theorem dX12_readUpto_60 : decode cX12_readUpto 60 = .ok (.invokevirtual 150, 3) := by decide +kernel
theorem dX12_readUpto_63 : decode cX12_readUpto 63 = .ok (.aload_n 0, 1) := by decide +kernel
theorem dX12_readUpto_64 : decode cX12_readUpto 64 = .ok (.iconst 0, 1) := by decide +kernel
theorem dX12_readUpto_65 : decode cX12_readUpto 65 = .ok (.bipush 99, 2) := by decide +kernel
theorem dX12_readUpto_67 : decode cX12_readUpto 67 = .ok (.invokevirtual 146, 3) := by decide +kernel
theorem dX12_readUpto_70 : decode cX12_readUpto 70 = .ok (.istore_n 3, 1) := by decide +kernel
theorem dX12_readUpto_71 : decode cX12_readUpto 71 = .ok (.aload_n 0, 1) := by decide +kernel
theorem dX12_readUpto_72 : decode cX12_readUpto 72 = .ok (.iconst 2, 1) := by decide +kernel
theorem dX12_readUpto_73 : decode cX12_readUpto 73 = .ok (.invokevirtual 150, 3) := by decide +kernel
theorem dX12_readUpto_76 : decode cX12_readUpto 76 = .ok (.aload_n 0, 1) := by decide +kernel
theorem dX12_readUpto_77 : decode cX12_readUpto 77 = .ok (.iconst 1, 1) := by decide +kernel
theorem dX12_readUpto_78 : decode cX12_readUpto 78 = .ok (.sipush 999, 3) := by decide +kernel
theorem dX12_readUpto_81 : decode cX12_readUpto 81 = .ok (.invokevirtual 146, 3) := by decide +kernel
theorem dX12_readUpto_84 : decode cX12_readUpto 84 = .ok (.istore 4, 2) := by decide +kernel
theorem dX12_readUpto_86 : decode cX12_readUpto 86 = .ok (.aload_n 0, 1) := by decide +kernel
theorem dX12_readUpto_87 : decode cX12_readUpto 87 = .ok (.getfield 123, 3) := by decide +kernel
theorem dX12_readUpto_90 : decode cX12_readUpto 90 = .ok (.ifCond .eq 4, 3) := by decide +kernel
theorem dX12_readUpto_93 : decode cX12_readUpto 93 = .ok (.return_, 1) := by decide +kernel
theorem dX12_readUpto_94 : decode cX12_readUpto 94 = .ok (.aload_n 0, 1) := by decide +kernel
theorem dX12_readUpto_95 : decode cX12_readUpto 95 = .ok (.getfield 24, 3) := by decide +kernel
theorem dX12_readUpto_98 : decode cX12_readUpto 98 = .ok (.iconst 1, 1) := by decide +kernel
theorem dX12_readUpto_99 : decode cX12_readUpto 99 = .ok (.iload_n 1, 1) := by decide +kernel
theorem dX12_readUpto_100 : decode cX12_readUpto 100 = .ok (.iadd, 1) := by decide +kernel
theorem dX12_readUpto_101 : decode cX12_readUpto 101 = .ok (.iload_n 2, 1) := by decide +kernel
theorem dX12_readUpto_102 : decode cX12_readUpto 102 = .ok (.iastore, 1) := by decide +kernel
theorem dX12_readUpto_103 : decode cX12_readUpto 103 = .ok (.aload_n 0, 1) := by decide +kernel
theorem dX12_readUpto_104 : decode cX12_readUpto 104 = .ok (.getfield 24, 3) := by decide +kernel
theorem dX12_readUpto_107 : decode cX12_readUpto 107 = .ok (.bipush 9, 2) := by decide +kernel
theorem dX12_readUpto_109 : decode cX12_readUpto 109 = .ok (.iload_n 1, 1) := by decide +kernel
theorem dX12_readUpto_110 : decode cX12_readUpto 110 = .ok (.iadd, 1) := by decide +kernel
theorem dX12_readUpto_111 : decode cX12_readUpto 111 = .ok (.iload_n 3, 1) := by decide +kernel
theorem dX12_readUpto_112 : decode cX12_readUpto 112 = .ok (.iastore, 1) := by decide +kernel
theorem dX12_readUpto_113 : decode cX12_readUpto 113 = .ok (.aload_n 0, 1) := by decide +kernel
theorem dX12_readUpto_114 : decode cX12_readUpto 114 = .ok (.getfield 24, 3) := by decide +kernel
theorem dX12_readUpto_117 : decode cX12_readUpto 117 = .ok (.bipush 17, 2) := by decide +kernel
theorem dX12_readUpto_119 : decode cX12_readUpto 119 = .ok (.iload_n 1, 1) := by decide +kernel
theorem dX12_readUpto_120 : decode cX12_readUpto 120 = .ok (.iadd, 1) := by decide +kernel
theorem dX12_readUpto_121 : decode cX12_readUpto 121 = .ok (.iload 4, 2) := by decide +kernel
theorem dX12_readUpto_123 : decode cX12_readUpto 123 = .ok (.iastore, 1) := by decide +kernel
theorem dX12_readUpto_124 : decode cX12_readUpto 124 = .ok (.aload_n 0, 1) := by decide +kernel
theorem dX12_readUpto_125 : decode cX12_readUpto 125 = .ok (.getfield 24, 3) := by decide +kernel
theorem dX12_readUpto_128 : decode cX12_readUpto 128 = .ok (.iconst 0, 1) := by decide +kernel
theorem dX12_readUpto_129 : decode cX12_readUpto 129 = .ok (.dup2, 1) := by decide +kernel
theorem dX12_readUpto_130 : decode cX12_readUpto 130 = .ok (.iaload, 1) := by decide +kernel
theorem dX12_readUpto_131 : decode cX12_readUpto 131 = .ok (.iconst 1, 1) := by decide +kernel
theorem dX12_readUpto_132 : decode cX12_readUpto 132 = .ok (.iadd, 1) := by decide +kernel
theorem dX12_readUpto_133 : decode cX12_readUpto 133 = .ok (.iastore, 1) := by decide +kernel
theorem dX12_readUpto_134 : decode cX12_readUpto 134 = .ok (.return_, 1) := by decide +kernel
theorem dX12_readOnce_0 : decode cX12_readOnce 0 = .ok (.aload_n 0, 1) := by decide +kernel
theorem dX12_readOnce_1 : decode cX12_readOnce 1 = .ok (.getfield 107, 3) := by decide +kernel
theorem dX12_readOnce_4 : decode cX12_readOnce 4 = .ok (.iconst 3, 1) := by decide +kernel
theorem dX12_readOnce_5 : decode cX12_readOnce 5 = .ok (.isub, 1) := by decide +kernel
theorem dX12_readOnce_6 : decode cX12_readOnce 6 = .ok (.istore_n 1, 1) := by decide +kernel
theorem dX12_readOnce_7 : decode cX12_readOnce 7 = .ok (.aload_n 0, 1) := by decide +kernel
theorem dX12_readOnce_8 : decode cX12_readOnce 8 = .ok (.getfield 153, 3) := by decide +kernel
theorem dX12_readOnce_11 : decode cX12_readOnce 11 = .ok (.iload_n 1, 1) := by decide +kernel
theorem dX12_readOnce_12 : decode cX12_readOnce 12 = .ok (.ishr, 1) := by decide +kernel
theorem dX12_readOnce_13 : decode cX12_readOnce 13 = .ok (.iconst 1, 1) := by decide +kernel
theorem dX12_readOnce_14 : decode cX12_readOnce 14 = .ok (.iand, 1) := by decide +kernel
theorem dX12_readOnce_15 : decode cX12_readOnce 15 = .ok (.iconst 1, 1) := by decide +kernel
theorem dX12_readOnce_16 : decode cX12_readOnce 16 = .ok (.if_icmp .ne 8, 3) := by decide +kernel
theorem dX12_readOnce_19 : decode cX12_readOnce 19 = .ok (.aload_n 0, 1) := by decide +kernel
theorem dX12_readOnce_20 : decode cX12_readOnce 20 = .ok (.iconst 4, 1) := by decide +kernel
theorem dX12_readOnce_21 : decode cX12_readOnce 21 = .ok (.invokevirtual 138, 3) := by decide +kernel
theorem dX12_readOnce_24 : decode cX12_readOnce 24 = .ok (.aload_n 0, 1) := by decide +kernel
theorem dX12_readOnce_25 : decode cX12_readOnce 25 = .ok (.getfield 123, 3) := by decide +kernel
theorem dX12_readOnce_28 : decode cX12_readOnce 28 = .ok (.ifCond .eq 4, 3) := by decide +kernel
theorem dX12_readOnce_31 : decode cX12_readOnce 31 = .ok (.return_, 1) := by decide +kernel
theorem dX12_readOnce_32 : decode cX12_readOnce 32 = .ok (.aload_n 0, 1) := by decide +kernel
theorem dX12_readOnce_33 : decode cX12_readOnce 33 = .ok (.dup, 1) := by decide +kernel
theorem dX12_readOnce_34 : decode cX12_readOnce 34 = .ok (.getfield 153, 3) := by decide +kernel
theorem dX12_readOnce_37 : decode cX12_readOnce 37 = .ok (.iconst 1, 1) := by decide +kernel
theorem dX12_readOnce_38 : decode cX12_readOnce 38 = .ok (.iload_n 1, 1) := by decide +kernel
theorem dX12_readOnce_39 : decode cX12_readOnce 39 = .ok (.ishl, 1) := by decide +kernel
theorem dX12_readOnce_40 : decode cX12_readOnce 40 = .ok (.ior, 1) := by decide +kernel
theorem dX12_readOnce_41 : decode cX12_readOnce 41 = .ok (.putfield 153, 3) := by decide +kernel
theorem dX12_readOnce_44 : decode cX12_readOnce 44 = .ok (.aload_n 0, 1) := by decide +kernel
theorem dX12_readOnce_45 : decode cX12_readOnce 45 = .ok (.invokevirtual 132, 3) := by decide +kernel
theorem dX12_readOnce_48 : decode cX12_readOnce 48 = .ok (.iload_n 1, 1) := by decide +kernel
theorem dX12_readOnce_49 : decode cX12_readOnce 49 = .ok (.iconst 3, 1) := by decide +kernel
theorem dX12_readOnce_50 : decode cX12_readOnce 50 = .ok (.if_icmp .eq 8, 3) := by decide +kernel
theorem dX12_readOnce_53 : decode cX12_readOnce 53 = .ok (.iload_n 1, 1) := by decide +kernel
theorem dX12_readOnce_54 : decode cX12_readOnce 54 = .ok (.iconst 5, 1) := by decide +kernel
theorem dX12_readOnce_55 : decode cX12_readOnce 55 = .ok (.if_icmp .ne 7, 3) := by decide +kernel
theorem dX12_readOnce_58 : decode cX12_readOnce 58 = .ok (.iconst 1, 1) := by decide +kernel
theorem dX12_readOnce_59 : decode cX12_readOnce 59 = .ok (.goto 4, 3) := by decide +kernel
theorem dX12_readOnce_62 : decode cX12_readOnce 62 = .ok (.iconst 0, 1) := by decide +kernel
theorem dX12_readOnce_63 : decode cX12_readOnce 63 = .ok (.istore_n 2, 1) := by decide +kernel
theorem dX12_readOnce_64 : decode cX12_readOnce 64 = .ok (.iload_n 1, 1) := by decide +kernel
theorem dX12_readOnce_65 : decode cX12_readOnce 65 = .ok (.ifCond .eq 8, 3) := by decide +kernel
theorem dX12_readOnce_68 : decode cX12_readOnce 68 = .ok (.iload_n 1, 1) := by decide +kernel
theorem dX12_readOnce_69 : decode cX12_readOnce 69 = .ok (.iconst 2, 1) := by decide +kernel
theorem dX12_readOnce_70 : decode cX12_readOnce 70 = .ok (.if_icmp .ne 8, 3) := by decide +kernel
theorem dX12_readOnce_73 : decode cX12_readOnce 73 = .ok (.bipush 99, 2) := by decide +kernel
theorem dX12_readOnce_75 : decode cX12_readOnce 75 = .ok (.goto 25, 3) := by decide +kernel
theorem dX12_readOnce_78 : decode cX12_readOnce 78 = .ok (.iload_n 1, 1) := by decide +kernel
theorem dX12_readOnce_79 : decode cX12_readOnce 79 = .ok (.iconst 3, 1) := by decide +kernel
theorem dX12_readOnce_80 : decode cX12_readOnce 80 = .ok (.if_icmp .ne 8, 3) := by decide +kernel
theorem dX12_readOnce_83 : decode cX12_readOnce 83 = .ok (.bipush 104, 2) := by decide +kernel
theorem dX12_readOnce_85 : decode cX12_readOnce 85 = .ok (.goto 15, 3) := by decide +kernel
theorem dX12_readOnce_88 : decode cX12_readOnce 88 = .ok (.iload_n 1, 1) := by decide +kernel
theorem dX12_readOnce_89 : decode cX12_readOnce 89 = .ok (.iconst 5, 1) := by decide +kernel
theorem dX12_readOnce_90 : decode cX12_readOnce 90 = .ok (.if_icmp .ne 8, 3) := by decide +kernel
theorem dX12_readOnce_93 : decode cX12_readOnce 93 = .ok (.bipush 52, 2) := by decide +kernel
theorem dX12_readOnce_95 : decode cX12_readOnce 95 = .ok (.goto 5, 3) := by decide +kernel
theorem dX12_readOnce_98 : decode cX12_readOnce 98 = .ok (.bipush 20, 2) := by decide +kernel
theorem dX12_readOnce_100 : decode cX12_readOnce 100 = .ok (.istore_n 3, 1) := by decide +kernel
theorem dX12_readOnce_101 : decode cX12_readOnce 101 = .ok (.aload_n 0, 1) := by decide +kernel
theorem dX12_readOnce_102 : decode cX12_readOnce 102 = .ok (.iload_n 2, 1) := by decide +kernel
theorem dX12_readOnce_103 : decode cX12_readOnce 103 = .ok (.iload_n 3, 1) := by decide +kernel
theorem dX12_readOnce_104 : decode cX12_readOnce 104 = .ok (.invokevirtual 146, 3) := by decide +kernel
theorem dX12_readOnce_107 : decode cX12_readOnce 107 = .ok (.istore 4, 2) := by decide +kernel
theorem dX12_readOnce_109 : decode cX12_readOnce 109 = .ok (.aload_n 0, 1) := by decide +kernel
theorem dX12_readOnce_110 : decode cX12_readOnce 110 = .ok (.getfield 24, 3) := by decide +kernel
theorem dX12_readOnce_113 : decode cX12_readOnce 113 = .ok (.bipush 25, 2) := by decide +kernel
theorem dX12_readOnce_115 : decode cX12_readOnce 115 = .ok (.iload_n 1, 1) := by decide +kernel
theorem dX12_readOnce_116 : decode cX12_readOnce 116 = .ok (.iadd, 1) := by decide +kernel
theorem dX12_readOnce_117 : decode cX12_readOnce 117 = .ok (.iload 4, 2) := by decide +kernel
theorem dX12_readOnce_119 : decode cX12_readOnce 119 = .ok (.iastore, 1) := by decide +kernel
theorem dX12_readOnce_120 : decode cX12_readOnce 120 = .ok (.return_, 1) := by decide +kernel
theorem dX12_readLine_0 : decode cX12_readLine 0 = .ok (.aload_n 0, 1) := by decide +kernel
theorem dX12_readLine_1 : decode cX12_readLine 1 = .ok (.iconst 0, 1) := by decide +kernel
theorem dX12_readLine_2 : decode cX12_readLine 2 = .ok (.invokevirtual 129, 3) := by decide +kernel
theorem dX12_readLine_5 : decode cX12_readLine 5 = .ok (.ifCond .eq 10, 3) := by decide +kernel
theorem dX12_readLine_8 : decode cX12_readLine 8 = .ok (.aload_n 0, 1) := by decide +kernel
theorem dX12_readLine_9 : decode cX12_readLine 9 = .ok (.invokevirtual 156, 3) := by decide +kernel
theorem dX12_readLine_12 : decode cX12_readLine 12 = .ok (.goto 39, 3) := by decide +kernel
theorem dX12_readLine_15 : decode cX12_readLine 15 = .ok (.aload_n 0, 1) := by decide +kernel
theorem dX12_readLine_16 : decode cX12_readLine 16 = .ok (.getfield 123, 3) := by decide +kernel
theorem dX12_readLine_19 : decode cX12_readLine 19 = .ok (.ifCond .ne 27, 3) := by decide +kernel
theorem dX12_readLine_22 : decode cX12_readLine 22 = .ok (.aload_n 0, 1) := by decide +kernel
theorem dX12_readLine_23 : decode cX12_readLine 23 = .ok (.getfield 107, 3) := by decide +kernel
theorem dX12_readLine_26 : decode cX12_readLine 26 = .ok (.i2l, 1) := by decide +kernel
theorem dX12_readLine_27 : decode cX12_readLine 27 = .ok (.ldc2_w 159, 3) := by decide +kernel
theorem dX12_readLine_30 : decode cX12_readLine 30 = .ok (.ldc2_w 161, 3) := by decide +kernel
theorem dX12_readLine_33 : decode cX12_readLine 33 = .ok (.invokestatic 142, 3) := by decide +kernel
theorem dX12_readLine_36 : decode cX12_readLine 36 = .ok (.ifCond .eq 10, 3) := by decide +kernel
theorem dX12_readLine_39 : decode cX12_readLine 39 = .ok (.aload_n 0, 1) := by decide +kernel
theorem dX12_readLine_40 : decode cX12_readLine 40 = .ok (.invokevirtual 163, 3) := by decide +kernel
theorem dX12_readLine_43 : decode cX12_readLine 43 = .ok (.goto 8, 3) := by decide +kernel
theorem dX12_readLine_46 : decode cX12_readLine 46 = .ok (.aload_n 0, 1) := by decide +kernel
theorem dX12_readLine_47 : decode cX12_readLine 47 = .ok (.iconst 2, 1) := by decide +kernel
theorem dX12_readLine_48 : decode cX12_readLine 48 = .ok (.invokevirtual 138, 3) := by decide +kernel
theorem dX12_readLine_51 : decode cX12_readLine 51 = .ok (.aload_n 0, 1) := by decide +kernel
theorem dX12_readLine_52 : decode cX12_readLine 52 = .ok (.bipush 22, 2) := by decide +kernel
theorem dX12_readLine_54 : decode cX12_readLine 54 = .ok (.invokevirtual 150, 3) := by decide +kernel
theorem dX12_readLine_57 : decode cX12_readLine 57 = .ok (.aload_n 0, 1) := by decide +kernel
theorem dX12_readLine_58 : decode cX12_readLine 58 = .ok (.getfield 24, 3) := by decide +kernel
theorem dX12_readLine_61 : decode cX12_readLine 61 = .ok (.bipush 31, 2) := by decide +kernel
theorem dX12_readLine_63 : decode cX12_readLine 63 = .ok (.dup2, 1) := by decide +kernel
theorem dX12_readLine_64 : decode cX12_readLine 64 = .ok (.iaload, 1) := by decide +kernel
theorem dX12_readLine_65 : decode cX12_readLine 65 = .ok (.iconst 1, 1) := by decide +kernel
theorem dX12_readLine_66 : decode cX12_readLine 66 = .ok (.iadd, 1) := by decide +kernel
theorem dX12_readLine_67 : decode cX12_readLine 67 = .ok (.iastore, 1) := by decide +kernel
theorem dX12_readLine_68 : decode cX12_readLine 68 = .ok (.return_, 1) := by decide +kernel
theorem dX12_emit_0 : decode cX12_emit 0 = .ok (.aload_n 0, 1) := by decide +kernel
theorem dX12_emit_1 : decode cX12_emit 1 = .ok (.getfield 24, 3) := by decide +kernel
theorem dX12_emit_4 : decode cX12_emit 4 = .ok (.bipush 82, 2) := by decide +kernel
theorem dX12_emit_6 : decode cX12_emit 6 = .ok (.iconst 2, 1) := by decide +kernel
theorem dX12_emit_7 : decode cX12_emit 7 = .ok (.aload_n 0, 1) := by decide +kernel
theorem dX12_emit_8 : decode cX12_emit 8 = .ok (.getfield 166, 3) := by decide +kernel
theorem dX12_emit_11 : decode cX12_emit 11 = .ok (.imul, 1) := by decide +kernel
theorem dX12_emit_12 : decode cX12_emit 12 = .ok (.iadd, 1) := by decide +kernel
theorem dX12_emit_13 : decode cX12_emit 13 = .ok (.iload_n 1, 1) := by decide +kernel
theorem dX12_emit_14 : decode cX12_emit 14 = .ok (.iastore, 1) := by decide +kernel
theorem dX12_emit_15 : decode cX12_emit 15 = .ok (.aload_n 0, 1) := by decide +kernel
theorem dX12_emit_16 : decode cX12_emit 16 = .ok (.getfield 24, 3) := by decide +kernel
theorem dX12_emit_19 : decode cX12_emit 19 = .ok (.bipush 82, 2) := by decide +kernel
theorem dX12_emit_21 : decode cX12_emit 21 = .ok (.iconst 2, 1) := by decide +kernel
theorem dX12_emit_22 : decode cX12_emit 22 = .ok (.aload_n 0, 1) := by decide +kernel
theorem dX12_emit_23 : decode cX12_emit 23 = .ok (.getfield 166, 3) := by decide +kernel
theorem dX12_emit_26 : decode cX12_emit 26 = .ok (.imul, 1) := by decide +kernel
theorem dX12_emit_27 : decode cX12_emit 27 = .ok (.iadd, 1) := by decide +kernel
theorem dX12_emit_28 : decode cX12_emit 28 = .ok (.iconst 1, 1) := by decide +kernel
theorem dX12_emit_29 : decode cX12_emit 29 = .ok (.iadd, 1) := by decide +kernel
theorem dX12_emit_30 : decode cX12_emit 30 = .ok (.iload_n 2, 1) := by decide +kernel
theorem dX12_emit_31 : decode cX12_emit 31 = .ok (.iastore, 1) := by decide +kernel
theorem dX12_emit_32 : decode cX12_emit 32 = .ok (.aload_n 0, 1) := by decide +kernel
theorem dX12_emit_33 : decode cX12_emit 33 = .ok (.dup, 1) := by decide +kernel
theorem dX12_emit_34 : decode cX12_emit 34 = .ok (.getfield 166, 3) := by decide +kernel
theorem dX12_emit_37 : decode cX12_emit 37 = .ok (.iconst 1, 1) := by decide +kernel
theorem dX12_emit_38 : decode cX12_emit 38 = .ok (.iadd, 1) := by decide +kernel
theorem dX12_emit_39 : decode cX12_emit 39 = .ok (.putfield 166, 3) := by decide +kernel
theorem dX12_emit_42 : decode cX12_emit 42 = .ok (.return_, 1) := by decide +kernel
theorem dX12_readTest_0 : decode cX12_readTest 0 = .ok (.aload_n 0, 1) := by decide +kernel
theorem dX12_readTest_1 : decode cX12_readTest 1 = .ok (.invokevirtual 169, 3) := by decide +kernel
theorem dX12_readTest_4 : decode cX12_readTest 4 = .ok (.aload_n 0, 1) := by decide +kernel
theorem dX12_readTest_5 : decode cX12_readTest 5 = .ok (.bipush 11, 2) := by decide +kernel
theorem dX12_readTest_7 : decode cX12_readTest 7 = .ok (.invokevirtual 135, 3) := by decide +kernel
theorem dX12_readTest_10 : decode cX12_readTest 10 = .ok (.ifCond .eq 24, 3) := by decide +kernel
theorem dX12_readTest_13 : decode cX12_readTest 13 = .ok (.aload_n 0, 1) := by decide +kernel
theorem dX12_readTest_14 : decode cX12_readTest 14 = .ok (.invokevirtual 169, 3) := by decide +kernel
theorem dX12_readTest_17 : decode cX12_readTest 17 = .ok (.aload_n 0, 1) := by decide +kernel
theorem dX12_readTest_18 : decode cX12_readTest 18 = .ok (.getfield 123, 3) := by decide +kernel
theorem dX12_readTest_21 : decode cX12_readTest 21 = .ok (.ifCond .ne (-17), 3) := by decide +kernel
theorem dX12_readTest_24 : decode cX12_readTest 24 = .ok (.aload_n 0, 1) := by decide +kernel
theorem dX12_readTest_25 : decode cX12_readTest 25 = .ok (.bipush 11, 2) := by decide +kernel
theorem dX12_readTest_27 : decode cX12_readTest 27 = .ok (.iconst 0, 1) := by decide +kernel
theorem dX12_readTest_28 : decode cX12_readTest 28 = .ok (.invokevirtual 172, 3) := by decide +kernel
theorem dX12_readTest_31 : decode cX12_readTest 31 = .ok (.goto (-27), 3) := by decide +kernel
theorem dX12_readTest_34 : decode cX12_readTest 34 = .ok (.return_, 1) := by decide +kernel
theorem dX12_readPart_0 : decode cX12_readPart 0 = .ok (.aload_n 0, 1) := by decide +kernel
theorem dX12_readPart_1 : decode cX12_readPart 1 = .ok (.invokevirtual 176, 3) := by decide +kernel
theorem dX12_readPart_4 : decode cX12_readPart 4 = .ok (.aload_n 0, 1) := by decide +kernel
theorem dX12_readPart_5 : decode cX12_readPart 5 = .ok (.bipush 12, 2) := by decide +kernel
theorem dX12_readPart_7 : decode cX12_readPart 7 = .ok (.invokevirtual 135, 3) := by decide +kernel
theorem dX12_readPart_10 : decode cX12_readPart 10 = .ok (.ifCond .eq 24, 3) := by decide +kernel
theorem dX12_readPart_13 : decode cX12_readPart 13 = .ok (.aload_n 0, 1) := by decide +kernel
theorem dX12_readPart_14 : decode cX12_readPart 14 = .ok (.invokevirtual 176, 3) := by decide +kernel
theorem dX12_readPart_17 : decode cX12_readPart 17 = .ok (.aload_n 0, 1) := by decide +kernel
theorem dX12_readPart_18 : decode cX12_readPart 18 = .ok (.getfield 123, 3) := by decide +kernel
theorem dX12_readPart_21 : decode cX12_readPart 21 = .ok (.ifCond .ne (-17), 3) := by decide +kernel
theorem dX12_readPart_24 : decode cX12_readPart 24 = .ok (.aload_n 0, 1) := by decide +kernel
theorem dX12_readPart_25 : decode cX12_readPart 25 = .ok (.bipush 12, 2) := by decide +kernel
theorem dX12_readPart_27 : decode cX12_readPart 27 = .ok (.iconst 0, 1) := by decide +kernel
theorem dX12_readPart_28 : decode cX12_readPart 28 = .ok (.invokevirtual 172, 3) := by decide +kernel
theorem dX12_readPart_31 : decode cX12_readPart 31 = .ok (.goto (-27), 3) := by decide +kernel
theorem dX12_readPart_34 : decode cX12_readPart 34 = .ok (.return_, 1) := by decide +kernel
theorem dX12_readFact_0 : decode cX12_readFact 0 = .ok (.aload_n 0, 1) := by decide +kernel
theorem dX12_readFact_1 : decode cX12_readFact 1 = .ok (.getfield 123, 3) := by decide +kernel
theorem dX12_readFact_4 : decode cX12_readFact 4 = .ok (.ifCond .eq 4, 3) := by decide +kernel
theorem dX12_readFact_7 : decode cX12_readFact 7 = .ok (.return_, 1) := by decide +kernel
theorem dX12_readFact_8 : decode cX12_readFact 8 = .ok (.aload_n 0, 1) := by decide +kernel
theorem dX12_readFact_9 : decode cX12_readFact 9 = .ok (.getfield 107, 3) := by decide +kernel
theorem dX12_readFact_12 : decode cX12_readFact 12 = .ok (.istore_n 1, 1) := by decide +kernel
theorem dX12_readFact_13 : decode cX12_readFact 13 = .ok (.iload_n 1, 1) := by decide +kernel
theorem dX12_readFact_14 : decode cX12_readFact 14 = .ok (.bipush 13, 2) := by decide +kernel
theorem dX12_readFact_16 : decode cX12_readFact 16 = .ok (.if_icmp .eq 9, 3) := by decide +kernel
theorem dX12_readFact_19 : decode cX12_readFact 19 = .ok (.iload_n 1, 1) := by decide +kernel
theorem dX12_readFact_20 : decode cX12_readFact 20 = .ok (.bipush 23, 2) := by decide +kernel
theorem dX12_readFact_22 : decode cX12_readFact 22 = .ok (.if_icmp .ne 96, 3) := by decide +kernel
theorem dX12_readFact_25 : decode cX12_readFact 25 = .ok (.aload_n 0, 1) := by decide +kernel
theorem dX12_readFact_26 : decode cX12_readFact 26 = .ok (.getfield 179, 3) := by decide +kernel
theorem dX12_readFact_29 : decode cX12_readFact 29 = .ok (.bipush 8, 2) := by decide +kernel
theorem dX12_readFact_31 : decode cX12_readFact 31 = .ok (.if_icmp .ne 8, 3) := by decide +kernel
theorem dX12_readFact_34 : decode cX12_readFact 34 = .ok (.aload_n 0, 1) := by decide +kernel
theorem dX12_readFact_35 : decode cX12_readFact 35 = .ok (.iconst 5, 1) := by decide +kernel
theorem dX12_readFact_36 : decode cX12_readFact 36 = .ok (.invokevirtual 138, 3) := by decide +kernel
theorem dX12_readFact_39 : decode cX12_readFact 39 = .ok (.aload_n 0, 1) := by decide +kernel
theorem dX12_readFact_40 : decode cX12_readFact 40 = .ok (.getfield 123, 3) := by decide +kernel
theorem dX12_readFact_43 : decode cX12_readFact 43 = .ok (.ifCond .eq 4, 3) := by decide +kernel
theorem dX12_readFact_46 : decode cX12_readFact 46 = .ok (.return_, 1) := by decide +kernel
theorem dX12_readFact_47 : decode cX12_readFact 47 = .ok (.aload_n 0, 1) := by decide +kernel
theorem dX12_readFact_48 : decode cX12_readFact 48 = .ok (.invokevirtual 132, 3) := by decide +kernel
theorem dX12_readFact_51 : decode cX12_readFact 51 = .ok (.aload_n 0, 1) := by decide +kernel
theorem dX12_readFact_52 : decode cX12_readFact 52 = .ok (.dup, 1) := by decide +kernel
theorem dX12_readFact_53 : decode cX12_readFact 53 = .ok (.getfield 179, 3) := by decide +kernel
theorem dX12_readFact_56 : decode cX12_readFact 56 = .ok (.iconst 1, 1) := by decide +kernel
theorem dX12_readFact_57 : decode cX12_readFact 57 = .ok (.iadd, 1) := by decide +kernel
theorem dX12_readFact_58 : decode cX12_readFact 58 = .ok (.putfield 179, 3) := by decide +kernel
theorem dX12_readFact_61 : decode cX12_readFact 61 = .ok (.iload_n 1, 1) := by decide +kernel
theorem dX12_readFact_62 : decode cX12_readFact 62 = .ok (.bipush 13, 2) := by decide +kernel
theorem dX12_readFact_64 : decode cX12_readFact 64 = .ok (.if_icmp .ne 10, 3) := by decide +kernel
theorem dX12_readFact_67 : decode cX12_readFact 67 = .ok (.aload_n 0, 1) := by decide +kernel
theorem dX12_readFact_68 : decode cX12_readFact 68 = .ok (.invokevirtual 176, 3) := by decide +kernel
theorem dX12_readFact_71 : decode cX12_readFact 71 = .ok (.goto 7, 3) := by decide +kernel
theorem dX12_readFact_74 : decode cX12_readFact 74 = .ok (.aload_n 0, 1) := by decide +kernel
theorem dX12_readFact_75 : decode cX12_readFact 75 = .ok (.invokevirtual 182, 3) := by decide +kernel
theorem dX12_readFact_78 : decode cX12_readFact 78 = .ok (.aload_n 0, 1) := by decide +kernel
theorem dX12_readFact_79 : decode cX12_readFact 79 = .ok (.dup, 1) := by decide +kernel
theorem dX12_readFact_80 : decode cX12_readFact 80 = .ok (.getfield 179, 3) := by decide +kernel
theorem dX12_readFact_83 : decode cX12_readFact 83 = .ok (.iconst 1, 1) := by decide +kernel
theorem dX12_readFact_84 : decode cX12_readFact 84 = .ok (.isub, 1) := by decide +kernel
theorem dX12_readFact_85 : decode cX12_readFact 85 = .ok (.putfield 179, 3) := by decide +kernel
theorem dX12_readFact_88 : decode cX12_readFact 88 = .ok (.iload_n 1, 1) := by decide +kernel
theorem dX12_readFact_89 : decode cX12_readFact 89 = .ok (.bipush 23, 2) := by decide +kernel
theorem dX12_readFact_91 : decode cX12_readFact 91 = .ok (.if_icmp .ne 12, 3) := by decide +kernel
theorem dX12_readFact_94 : decode cX12_readFact 94 = .ok (.aload_n 0, 1) := by decide +kernel
theorem dX12_readFact_95 : decode cX12_readFact 95 = .ok (.bipush 24, 2) := by decide +kernel
theorem dX12_readFact_97 : decode cX12_readFact 97 = .ok (.invokevirtual 150, 3) := by decide +kernel
theorem dX12_readFact_100 : decode cX12_readFact 100 = .ok (.goto 17, 3) := by decide +kernel
theorem dX12_readFact_103 : decode cX12_readFact 103 = .ok (.aload_n 0, 1) := by decide +kernel
theorem dX12_readFact_104 : decode cX12_readFact 104 = .ok (.getfield 123, 3) := by decide +kernel
theorem dX12_readFact_107 : decode cX12_readFact 107 = .ok (.ifCond .ne 10, 3) := by decide +kernel
theorem dX12_readFact_110 : decode cX12_readFact 110 = .ok (.aload_n 0, 1) := by decide +kernel
theorem dX12_readFact_111 : decode cX12_readFact 111 = .ok (.bipush 13, 2) := by decide +kernel
theorem dX12_readFact_113 : decode cX12_readFact 113 = .ok (.iconst 0, 1) := by decide +kernel
theorem dX12_readFact_114 : decode cX12_readFact 114 = .ok (.invokevirtual 172, 3) := by decide +kernel
theorem dX12_readFact_117 : decode cX12_readFact 117 = .ok (.return_, 1) := by decide +kernel
theorem dX12_readFact_118 : decode cX12_readFact 118 = .ok (.iload_n 1, 1) := by decide +kernel
theorem dX12_readFact_119 : decode cX12_readFact 119 = .ok (.i2l, 1) := by decide +kernel
theorem dX12_readFact_120 : decode cX12_readFact 120 = .ok (.ldc2_w 185, 3) := by decide +kernel
theorem dX12_readFact_123 : decode cX12_readFact 123 = .ok (.ldc2_w 187, 3) := by decide +kernel
theorem dX12_readFact_126 : decode cX12_readFact 126 = .ok (.invokestatic 142, 3) := by decide +kernel
theorem dX12_readFact_129 : decode cX12_readFact 129 = .ok (.ifCond .ne 8, 3) := by decide +kernel
theorem dX12_readFact_132 : decode cX12_readFact 132 = .ok (.aload_n 0, 1) := by decide +kernel
theorem dX12_readFact_133 : decode cX12_readFact 133 = .ok (.iconst 2, 1) := by decide +kernel
theorem dX12_readFact_134 : decode cX12_readFact 134 = .ok (.invokevirtual 138, 3) := by decide +kernel
theorem dX12_readFact_137 : decode cX12_readFact 137 = .ok (.aload_n 0, 1) := by decide +kernel
theorem dX12_readFact_138 : decode cX12_readFact 138 = .ok (.getfield 123, 3) := by decide +kernel
theorem dX12_readFact_141 : decode cX12_readFact 141 = .ok (.ifCond .eq 4, 3) := by decide +kernel
theorem dX12_readFact_144 : decode cX12_readFact 144 = .ok (.return_, 1) := by decide +kernel
theorem dX12_readFact_145 : decode cX12_readFact 145 = .ok (.aload_n 0, 1) := by decide +kernel
theorem dX12_readFact_146 : decode cX12_readFact 146 = .ok (.invokevirtual 132, 3) := by decide +kernel
theorem dX12_readFact_149 : decode cX12_readFact 149 = .ok (.iload_n 1, 1) := by decide +kernel
theorem dX12_readFact_150 : decode cX12_readFact 150 = .ok (.bipush 14, 2) := by decide +kernel
theorem dX12_readFact_152 : decode cX12_readFact 152 = .ok (.if_icmp .ne 7, 3) := by decide +kernel
theorem dX12_readFact_155 : decode cX12_readFact 155 = .ok (.iconst 0, 1) := by decide +kernel
theorem dX12_readFact_156 : decode cX12_readFact 156 = .ok (.goto 76, 3) := by decide +kernel
theorem dX12_readFact_159 : decode cX12_readFact 159 = .ok (.iload_n 1, 1) := by decide +kernel
theorem dX12_readFact_160 : decode cX12_readFact 160 = .ok (.bipush 15, 2) := by decide +kernel
theorem dX12_readFact_162 : decode cX12_readFact 162 = .ok (.if_icmp .ne 13, 3) := by decide +kernel
theorem dX12_readFact_165 : decode cX12_readFact 165 = .ok (.aload_n 0, 1) := by decide +kernel
theorem dX12_readFact_166 : decode cX12_readFact 166 = .ok (.iconst 0, 1) := by decide +kernel
theorem dX12_readFact_167 : decode cX12_readFact 167 = .ok (.bipush 11, 2) := by decide +kernel
theorem dX12_readFact_169 : decode cX12_readFact 169 = .ok (.invokevirtual 146, 3) := by decide +kernel
theorem dX12_readFact_172 : decode cX12_readFact 172 = .ok (.goto 60, 3) := by decide +kernel
theorem dX12_readFact_175 : decode cX12_readFact 175 = .ok (.iload_n 1, 1) := by decide +kernel
theorem dX12_readFact_176 : decode cX12_readFact 176 = .ok (.bipush 16, 2) := by decide +kernel
theorem dX12_readFact_178 : decode cX12_readFact 178 = .ok (.if_icmp .ne 13, 3) := by decide +kernel
theorem dX12_readFact_181 : decode cX12_readFact 181 = .ok (.aload_n 0, 1) := by decide +kernel
theorem dX12_readFact_182 : decode cX12_readFact 182 = .ok (.iconst 1, 1) := by decide +kernel
theorem dX12_readFact_183 : decode cX12_readFact 183 = .ok (.bipush 9, 2) := by decide +kernel
theorem dX12_readFact_185 : decode cX12_readFact 185 = .ok (.invokevirtual 146, 3) := by decide +kernel
theorem dX12_readFact_188 : decode cX12_readFact 188 = .ok (.goto 44, 3) := by decide +kernel
theorem dX12_readFact_191 : decode cX12_readFact 191 = .ok (.iload_n 1, 1) := by decide +kernel
theorem dX12_readFact_192 : decode cX12_readFact 192 = .ok (.bipush 17, 2) := by decide +kernel
theorem dX12_readFact_194 : decode cX12_readFact 194 = .ok (.if_icmp .ne 14, 3) := by decide +kernel
theorem dX12_readFact_197 : decode cX12_readFact 197 = .ok (.aload_n 0, 1) := by decide +kernel
theorem dX12_readFact_198 : decode cX12_readFact 198 = .ok (.iconst 0, 1) := by decide +kernel
theorem dX12_readFact_199 : decode cX12_readFact 199 = .ok (.sipush 999, 3) := by decide +kernel
theorem dX12_readFact_202 : decode cX12_readFact 202 = .ok (.invokevirtual 146, 3) := by decide +kernel
theorem dX12_readFact_205 : decode cX12_readFact 205 = .ok (.goto 27, 3) := by decide +kernel
theorem dX12_readFact_208 : decode cX12_readFact 208 = .ok (.iload_n 1, 1) := by decide +kernel
theorem dX12_readFact_209 : decode cX12_readFact 209 = .ok (.bipush 18, 2) := by decide +kernel
theorem dX12_readFact_211 : decode cX12_readFact 211 = .ok (.if_icmp .ne 14, 3) := by decide +kernel
theorem dX12_readFact_214 : decode cX12_readFact 214 = .ok (.aload_n 0, 1) := by decide +kernel
theorem dX12_readFact_215 : decode cX12_readFact 215 = .ok (.iconst 0, 1) := by decide +kernel
theorem dX12_readFact_216 : decode cX12_readFact 216 = .ok (.sipush 300, 3) := by decide +kernel
theorem dX12_readFact_219 : decode cX12_readFact 219 = .ok (.invokevirtual 146, 3) := by decide +kernel
theorem dX12_readFact_222 : decode cX12_readFact 222 = .ok (.goto 10, 3) := by decide +kernel
theorem dX12_readFact_225 : decode cX12_readFact 225 = .ok (.aload_n 0, 1) := by decide +kernel
theorem dX12_readFact_226 : decode cX12_readFact 226 = .ok (.iconst 0, 1) := by decide +kernel
theorem dX12_readFact_227 : decode cX12_readFact 227 = .ok (.bipush 15, 2) := by decide +kernel
theorem dX12_readFact_229 : decode cX12_readFact 229 = .ok (.invokevirtual 146, 3) := by decide +kernel
theorem dX12_readFact_232 : decode cX12_readFact 232 = .ok (.istore_n 2, 1) := by decide +kernel
theorem dX12_readFact_233 : decode cX12_readFact 233 = .ok (.aload_n 0, 1) := by decide +kernel
theorem dX12_readFact_234 : decode cX12_readFact 234 = .ok (.getfield 123, 3) := by decide +kernel
theorem dX12_readFact_237 : decode cX12_readFact 237 = .ok (.ifCond .ne 9, 3) := by decide +kernel
theorem dX12_readFact_240 : decode cX12_readFact 240 = .ok (.aload_n 0, 1) := by decide +kernel
theorem dX12_readFact_241 : decode cX12_readFact 241 = .ok (.iload_n 1, 1) := by decide +kernel
theorem dX12_readFact_242 : decode cX12_readFact 242 = .ok (.iload_n 2, 1) := by decide +kernel
theorem dX12_readFact_243 : decode cX12_readFact 243 = .ok (.invokevirtual 172, 3) := by decide +kernel
theorem dX12_readFact_246 : decode cX12_readFact 246 = .ok (.return_, 1) := by decide +kernel
theorem dX12_readLook_0 : decode cX12_readLook 0 = .ok (.aload_n 0, 1) := by decide +kernel
theorem dX12_readLook_1 : decode cX12_readLook 1 = .ok (.bipush 9, 2) := by decide +kernel
theorem dX12_readLook_3 : decode cX12_readLook 3 = .ok (.invokevirtual 129, 3) := by decide +kernel
theorem dX12_readLook_6 : decode cX12_readLook 6 = .ok (.ifCond .ne 8, 3) := by decide +kernel
theorem dX12_readLook_9 : decode cX12_readLook 9 = .ok (.aload_n 0, 1) := by decide +kernel
theorem dX12_readLook_10 : decode cX12_readLook 10 = .ok (.iconst 2, 1) := by decide +kernel
theorem dX12_readLook_11 : decode cX12_readLook 11 = .ok (.invokevirtual 138, 3) := by decide +kernel
theorem dX12_readLook_14 : decode cX12_readLook 14 = .ok (.aload_n 0, 1) := by decide +kernel
theorem dX12_readLook_15 : decode cX12_readLook 15 = .ok (.getfield 24, 3) := by decide +kernel
theorem dX12_readLook_18 : decode cX12_readLook 18 = .ok (.bipush 65, 2) := by decide +kernel
theorem dX12_readLook_20 : decode cX12_readLook 20 = .ok (.iaload, 1) := by decide +kernel
theorem dX12_readLook_21 : decode cX12_readLook 21 = .ok (.istore_n 1, 1) := by decide +kernel
theorem dX12_readLook_22 : decode cX12_readLook 22 = .ok (.iload_n 1, 1) := by decide +kernel
theorem dX12_readLook_23 : decode cX12_readLook 23 = .ok (.bipush 8, 2) := by decide +kernel
theorem dX12_readLook_25 : decode cX12_readLook 25 = .ok (.if_icmp .ne 8, 3) := by decide +kernel
theorem dX12_readLook_28 : decode cX12_readLook 28 = .ok (.aload_n 0, 1) := by decide +kernel
theorem dX12_readLook_29 : decode cX12_readLook 29 = .ok (.iconst 4, 1) := by decide +kernel
theorem dX12_readLook_30 : decode cX12_readLook 30 = .ok (.invokevirtual 138, 3) := by decide +kernel
theorem dX12_readLook_33 : decode cX12_readLook 33 = .ok (.aload_n 0, 1) := by decide +kernel
theorem dX12_readLook_34 : decode cX12_readLook 34 = .ok (.getfield 123, 3) := by decide +kernel
theorem dX12_readLook_37 : decode cX12_readLook 37 = .ok (.ifCond .eq 4, 3) := by decide +kernel
theorem dX12_readLook_40 : decode cX12_readLook 40 = .ok (.return_, 1) := by decide +kernel
theorem dX12_readLook_41 : decode cX12_readLook 41 = .ok (.aload_n 0, 1) := by decide +kernel
theorem dX12_readLook_42 : decode cX12_readLook 42 = .ok (.invokevirtual 132, 3) := by decide +kernel
theorem dX12_readLook_45 : decode cX12_readLook 45 = .ok (.aload_n 0, 1) := by decide +kernel
theorem dX12_readLook_46 : decode cX12_readLook 46 = .ok (.bipush 10, 2) := by decide +kernel
theorem dX12_readLook_48 : decode cX12_readLook 48 = .ok (.invokevirtual 150, 3) := by decide +kernel
theorem dX12_readLook_51 : decode cX12_readLook 51 = .ok (.aload_n 0, 1) := by decide +kernel
theorem dX12_readLook_52 : decode cX12_readLook 52 = .ok (.getfield 24, 3) := by decide +kernel
theorem dX12_readLook_55 : decode cX12_readLook 55 = .ok (.bipush 66, 2) := by decide +kernel
theorem dX12_readLook_57 : decode cX12_readLook 57 = .ok (.iload_n 1, 1) := by decide +kernel
theorem dX12_readLook_58 : decode cX12_readLook 58 = .ok (.iadd, 1) := by decide +kernel
theorem dX12_readLook_59 : decode cX12_readLook 59 = .ok (.aload_n 0, 1) := by decide +kernel
theorem dX12_readLook_60 : decode cX12_readLook 60 = .ok (.getfield 166, 3) := by decide +kernel
theorem dX12_readLook_63 : decode cX12_readLook 63 = .ok (.iastore, 1) := by decide +kernel
theorem dX12_readLook_64 : decode cX12_readLook 64 = .ok (.aload_n 0, 1) := by decide +kernel
theorem dX12_readLook_65 : decode cX12_readLook 65 = .ok (.invokevirtual 182, 3) := by decide +kernel
theorem dX12_readLook_68 : decode cX12_readLook 68 = .ok (.aload_n 0, 1) := by decide +kernel
theorem dX12_readLook_69 : decode cX12_readLook 69 = .ok (.getfield 24, 3) := by decide +kernel
theorem dX12_readLook_72 : decode cX12_readLook 72 = .ok (.bipush 74, 2) := by decide +kernel
theorem dX12_readLook_74 : decode cX12_readLook 74 = .ok (.iload_n 1, 1) := by decide +kernel
theorem dX12_readLook_75 : decode cX12_readLook 75 = .ok (.iadd, 1) := by decide +kernel
theorem dX12_readLook_76 : decode cX12_readLook 76 = .ok (.aload_n 0, 1) := by decide +kernel
theorem dX12_readLook_77 : decode cX12_readLook 77 = .ok (.getfield 166, 3) := by decide +kernel
theorem dX12_readLook_80 : decode cX12_readLook 80 = .ok (.iastore, 1) := by decide +kernel
theorem dX12_readLook_81 : decode cX12_readLook 81 = .ok (.aload_n 0, 1) := by decide +kernel
theorem dX12_readLook_82 : decode cX12_readLook 82 = .ok (.bipush 22, 2) := by decide +kernel
theorem dX12_readLook_84 : decode cX12_readLook 84 = .ok (.invokevirtual 150, 3) := by decide +kernel
theorem dX12_readLook_87 : decode cX12_readLook 87 = .ok (.aload_n 0, 1) := by decide +kernel
theorem dX12_readLook_88 : decode cX12_readLook 88 = .ok (.getfield 24, 3) := by decide +kernel
theorem dX12_readLook_91 : decode cX12_readLook 91 = .ok (.bipush 65, 2) := by decide +kernel
theorem dX12_readLook_93 : decode cX12_readLook 93 = .ok (.dup2, 1) := by decide +kernel
theorem dX12_readLook_94 : decode cX12_readLook 94 = .ok (.iaload, 1) := by decide +kernel
theorem dX12_readLook_95 : decode cX12_readLook 95 = .ok (.iconst 1, 1) := by decide +kernel
theorem dX12_readLook_96 : decode cX12_readLook 96 = .ok (.iadd, 1) := by decide +kernel
theorem dX12_readLook_97 : decode cX12_readLook 97 = .ok (.iastore, 1) := by decide +kernel
theorem dX12_readLook_98 : decode cX12_readLook 98 = .ok (.return_, 1) := by decide +kernel
theorem dX12_text_0 : decode cX12_text 0 = .ok (.aload_n 0, 1) := by decide +kernel
theorem dX12_text_1 : decode cX12_text 1 = .ok (.iconst 0, 1) := by decide +kernel
theorem dX12_text_2 : decode cX12_text 2 = .ok (.putfield 1, 3) := by decide +kernel
theorem dX12_text_5 : decode cX12_text 5 = .ok (.iload_n 1, 1) := by decide +kernel
theorem dX12_text_6 : decode cX12_text 6 = .ok (.i2l, 1) := by decide +kernel
theorem dX12_text_7 : decode cX12_text 7 = .ok (.lconst 0, 1) := by decide +kernel
theorem dX12_text_8 : decode cX12_text 8 = .ok (.lconst 1, 1) := by decide +kernel
theorem dX12_text_9 : decode cX12_text 9 = .ok (.invokestatic 142, 3) := by decide +kernel
theorem dX12_text_12 : decode cX12_text 12 = .ok (.ifCond .ne 6, 3) := by decide +kernel
theorem dX12_text_15 : decode cX12_text 15 = .ok (.bipush (-2), 2) := by decide +kernel
theorem dX12_text_17 : decode cX12_text 17 = .ok (.ireturn, 1) := by decide +kernel
theorem dX12_text_18 : decode cX12_text 18 = .ok (.iload_n 2, 1) := by decide +kernel
theorem dX12_text_19 : decode cX12_text 19 = .ok (.i2l, 1) := by decide +kernel
theorem dX12_text_20 : decode cX12_text 20 = .ok (.lconst 0, 1) := by decide +kernel
theorem dX12_text_21 : decode cX12_text 21 = .ok (.aload_n 0, 1) := by decide +kernel
theorem dX12_text_22 : decode cX12_text 22 = .ok (.getfield 79, 3) := by decide +kernel
theorem dX12_text_25 : decode cX12_text 25 = .ok (.i2l, 1) := by decide +kernel
theorem dX12_text_26 : decode cX12_text 26 = .ok (.invokestatic 142, 3) := by decide +kernel
theorem dX12_text_29 : decode cX12_text 29 = .ok (.ifCond .ne 6, 3) := by decide +kernel
theorem dX12_text_32 : decode cX12_text 32 = .ok (.bipush (-3), 2) := by decide +kernel
theorem dX12_text_34 : decode cX12_text 34 = .ok (.ireturn, 1) := by decide +kernel
theorem dX12_text_35 : decode cX12_text 35 = .ok (.aload_n 0, 1) := by decide +kernel
theorem dX12_text_36 : decode cX12_text 36 = .ok (.iload_n 2, 1) := by decide +kernel
theorem dX12_text_37 : decode cX12_text 37 = .ok (.putfield 82, 3) := by decide +kernel
theorem dX12_text_40 : decode cX12_text 40 = .ok (.aload_n 0, 1) := by decide +kernel
theorem dX12_text_41 : decode cX12_text 41 = .ok (.iconst 0, 1) := by decide +kernel
theorem dX12_text_42 : decode cX12_text 42 = .ok (.putfield 79, 3) := by decide +kernel
theorem dX12_text_45 : decode cX12_text 45 = .ok (.aload_n 0, 1) := by decide +kernel
theorem dX12_text_46 : decode cX12_text 46 = .ok (.iconst 0, 1) := by decide +kernel
theorem dX12_text_47 : decode cX12_text 47 = .ok (.putfield 100, 3) := by decide +kernel
theorem dX12_text_50 : decode cX12_text 50 = .ok (.aload_n 0, 1) := by decide +kernel
theorem dX12_text_51 : decode cX12_text 51 = .ok (.iconst 0, 1) := by decide +kernel
theorem dX12_text_52 : decode cX12_text 52 = .ok (.putfield 123, 3) := by decide +kernel
theorem dX12_text_55 : decode cX12_text 55 = .ok (.aload_n 0, 1) := by decide +kernel
theorem dX12_text_56 : decode cX12_text 56 = .ok (.iconst 0, 1) := by decide +kernel
theorem dX12_text_57 : decode cX12_text 57 = .ok (.putfield 179, 3) := by decide +kernel
theorem dX12_text_60 : decode cX12_text 60 = .ok (.aload_n 0, 1) := by decide +kernel
theorem dX12_text_61 : decode cX12_text 61 = .ok (.iconst 0, 1) := by decide +kernel
theorem dX12_text_62 : decode cX12_text 62 = .ok (.putfield 166, 3) := by decide +kernel
theorem dX12_text_65 : decode cX12_text 65 = .ok (.aload_n 0, 1) := by decide +kernel
theorem dX12_text_66 : decode cX12_text 66 = .ok (.iconst 0, 1) := by decide +kernel
theorem dX12_text_67 : decode cX12_text 67 = .ok (.putfield 153, 3) := by decide +kernel
theorem dX12_text_70 : decode cX12_text 70 = .ok (.iconst 0, 1) := by decide +kernel
theorem dX12_text_71 : decode cX12_text 71 = .ok (.istore_n 3, 1) := by decide +kernel
theorem dX12_text_72 : decode cX12_text 72 = .ok (.iload_n 3, 1) := by decide +kernel
theorem dX12_text_73 : decode cX12_text 73 = .ok (.sipush 582, 3) := by decide +kernel
theorem dX12_text_76 : decode cX12_text 76 = .ok (.if_icmp .ge 37, 3) := by decide +kernel
theorem dX12_text_79 : decode cX12_text 79 = .ok (.aload_n 0, 1) := by decide +kernel
theorem dX12_text_80 : decode cX12_text 80 = .ok (.getfield 24, 3) := by decide +kernel
theorem dX12_text_83 : decode cX12_text 83 = .ok (.iload_n 3, 1) := by decide +kernel
theorem dX12_text_84 : decode cX12_text 84 = .ok (.iload_n 3, 1) := by decide +kernel
theorem dX12_text_85 : decode cX12_text 85 = .ok (.bipush 28, 2) := by decide +kernel
theorem dX12_text_87 : decode cX12_text 87 = .ok (.if_icmp .ne 8, 3) := by decide +kernel
theorem dX12_text_90 : decode cX12_text 90 = .ok (.bipush 52, 2) := by decide +kernel
theorem dX12_text_92 : decode cX12_text 92 = .ok (.goto 14, 3) := by decide +kernel
theorem dX12_text_95 : decode cX12_text 95 = .ok (.iload_n 3, 1) := by decide +kernel
theorem dX12_text_96 : decode cX12_text 96 = .ok (.bipush 30, 2) := by decide +kernel
theorem dX12_text_98 : decode cX12_text 98 = .ok (.if_icmp .ne 7, 3) := by decide +kernel
theorem dX12_text_101 : decode cX12_text 101 = .ok (.iconst 2, 1) := by decide +kernel
theorem dX12_text_102 : decode cX12_text 102 = .ok (.goto 4, 3) := by decide +kernel
theorem dX12_text_105 : decode cX12_text 105 = .ok (.iconst 0, 1) := by decide +kernel
theorem dX12_text_106 : decode cX12_text 106 = .ok (.iastore, 1) := by decide +kernel
theorem dX12_text_107 : decode cX12_text 107 = .ok (.iinc 3 1, 3) := by decide +kernel
theorem dX12_text_110 : decode cX12_text 110 = .ok (.goto (-38), 3) := by decide +kernel
theorem dX12_text_113 : decode cX12_text 113 = .ok (.aload_n 0, 1) := by decide +kernel
theorem dX12_text_114 : decode cX12_text 114 = .ok (.invokevirtual 132, 3) := by decide +kernel
theorem dX12_text_117 : decode cX12_text 117 = .ok (.aload_n 0, 1) := by decide +kernel
theorem dX12_text_118 : decode cX12_text 118 = .ok (.getfield 123, 3) := by decide +kernel
theorem dX12_text_121 : decode cX12_text 121 = .ok (.ifCond .ne 30, 3) := by decide +kernel
theorem dX12_text_124 : decode cX12_text 124 = .ok (.aload_n 0, 1) := by decide +kernel
theorem dX12_text_125 : decode cX12_text 125 = .ok (.getfield 107, 3) := by decide +kernel
theorem dX12_text_128 : decode cX12_text 128 = .ok (.bipush 25, 2) := by decide +kernel
theorem dX12_text_130 : decode cX12_text 130 = .ok (.if_icmp .eq 21, 3) := by decide +kernel
theorem dX12_text_133 : decode cX12_text 133 = .ok (.iload_n 1, 1) := by decide +kernel
theorem dX12_text_134 : decode cX12_text 134 = .ok (.ifCond .ne 10, 3) := by decide +kernel
theorem dX12_text_137 : decode cX12_text 137 = .ok (.aload_n 0, 1) := by decide +kernel
theorem dX12_text_138 : decode cX12_text 138 = .ok (.invokevirtual 189, 3) := by decide +kernel
theorem dX12_text_141 : decode cX12_text 141 = .ok (.goto (-24), 3) := by decide +kernel
theorem dX12_text_144 : decode cX12_text 144 = .ok (.aload_n 0, 1) := by decide +kernel
theorem dX12_text_145 : decode cX12_text 145 = .ok (.invokevirtual 192, 3) := by decide +kernel
theorem dX12_text_148 : decode cX12_text 148 = .ok (.goto (-31), 3) := by decide +kernel
theorem dX12_text_151 : decode cX12_text 151 = .ok (.aload_n 0, 1) := by decide +kernel
theorem dX12_text_152 : decode cX12_text 152 = .ok (.aload_n 0, 1) := by decide +kernel
theorem dX12_text_153 : decode cX12_text 153 = .ok (.getfield 123, 3) := by decide +kernel
theorem dX12_text_156 : decode cX12_text 156 = .ok (.putfield 195, 3) := by decide +kernel
theorem dX12_text_159 : decode cX12_text 159 = .ok (.aload_n 0, 1) := by decide +kernel
theorem dX12_text_160 : decode cX12_text 160 = .ok (.aload_n 0, 1) := by decide +kernel
theorem dX12_text_161 : decode cX12_text 161 = .ok (.getfield 123, 3) := by decide +kernel
theorem dX12_text_164 : decode cX12_text 164 = .ok (.ifCond .ne 7, 3) := by decide +kernel
theorem dX12_text_167 : decode cX12_text 167 = .ok (.iconst (-1), 1) := by decide +kernel
theorem dX12_text_168 : decode cX12_text 168 = .ok (.goto 7, 3) := by decide +kernel
theorem dX12_text_171 : decode cX12_text 171 = .ok (.aload_n 0, 1) := by decide +kernel
theorem dX12_text_172 : decode cX12_text 172 = .ok (.getfield 126, 3) := by decide +kernel
theorem dX12_text_175 : decode cX12_text 175 = .ok (.putfield 27, 3) := by decide +kernel
theorem dX12_text_178 : decode cX12_text 178 = .ok (.aload_n 0, 1) := by decide +kernel
theorem dX12_text_179 : decode cX12_text 179 = .ok (.getfield 123, 3) := by decide +kernel
theorem dX12_text_182 : decode cX12_text 182 = .ok (.ifCond .eq 11, 3) := by decide +kernel
theorem dX12_text_185 : decode cX12_text 185 = .ok (.bipush (-10), 2) := by decide +kernel
theorem dX12_text_187 : decode cX12_text 187 = .ok (.aload_n 0, 1) := by decide +kernel
theorem dX12_text_188 : decode cX12_text 188 = .ok (.getfield 123, 3) := by decide +kernel
theorem dX12_text_191 : decode cX12_text 191 = .ok (.isub, 1) := by decide +kernel
theorem dX12_text_192 : decode cX12_text 192 = .ok (.ireturn, 1) := by decide +kernel
theorem dX12_text_193 : decode cX12_text 193 = .ok (.iload_n 1, 1) := by decide +kernel
theorem dX12_text_194 : decode cX12_text 194 = .ok (.ifCond .ne 7, 3) := by decide +kernel
theorem dX12_text_197 : decode cX12_text 197 = .ok (.iconst 0, 1) := by decide +kernel
theorem dX12_text_198 : decode cX12_text 198 = .ok (.goto 5, 3) := by decide +kernel
theorem dX12_text_201 : decode cX12_text 201 = .ok (.bipush 65, 2) := by decide +kernel
theorem dX12_text_203 : decode cX12_text 203 = .ok (.istore_n 3, 1) := by decide +kernel
theorem dX12_text_204 : decode cX12_text 204 = .ok (.iload_n 1, 1) := by decide +kernel
theorem dX12_text_205 : decode cX12_text 205 = .ok (.ifCond .ne 8, 3) := by decide +kernel
theorem dX12_text_208 : decode cX12_text 208 = .ok (.bipush 32, 2) := by decide +kernel
theorem dX12_text_210 : decode cX12_text 210 = .ok (.goto 6, 3) := by decide +kernel
theorem dX12_text_213 : decode cX12_text 213 = .ok (.sipush 582, 3) := by decide +kernel
theorem dX12_text_216 : decode cX12_text 216 = .ok (.istore 4, 2) := by decide +kernel
theorem dX12_text_218 : decode cX12_text 218 = .ok (.iload_n 3, 1) := by decide +kernel
theorem dX12_text_219 : decode cX12_text 219 = .ok (.istore 5, 2) := by decide +kernel
theorem dX12_text_221 : decode cX12_text 221 = .ok (.iload 5, 2) := by decide +kernel
theorem dX12_text_223 : decode cX12_text 223 = .ok (.iload 4, 2) := by decide +kernel
theorem dX12_text_225 : decode cX12_text 225 = .ok (.if_icmp .ge 23, 3) := by decide +kernel
theorem dX12_text_228 : decode cX12_text 228 = .ok (.aload_n 0, 1) := by decide +kernel
theorem dX12_text_229 : decode cX12_text 229 = .ok (.getfield 13, 3) := by decide +kernel
theorem dX12_text_232 : decode cX12_text 232 = .ok (.iload 5, 2) := by decide +kernel
theorem dX12_text_234 : decode cX12_text 234 = .ok (.aload_n 0, 1) := by decide +kernel
theorem dX12_text_235 : decode cX12_text 235 = .ok (.getfield 24, 3) := by decide +kernel
theorem dX12_text_238 : decode cX12_text 238 = .ok (.iload 5, 2) := by decide +kernel
theorem dX12_text_240 : decode cX12_text 240 = .ok (.iaload, 1) := by decide +kernel
theorem dX12_text_241 : decode cX12_text 241 = .ok (.iastore, 1) := by decide +kernel
theorem dX12_text_242 : decode cX12_text 242 = .ok (.iinc 5 1, 3) := by decide +kernel
theorem dX12_text_245 : decode cX12_text 245 = .ok (.goto (-24), 3) := by decide +kernel
theorem dX12_text_248 : decode cX12_text 248 = .ok (.iload_n 1, 1) := by decide +kernel
theorem dX12_text_249 : decode cX12_text 249 = .ok (.ifCond .ne 13, 3) := by decide +kernel
theorem dX12_text_252 : decode cX12_text 252 = .ok (.aload_n 0, 1) := by decide +kernel
theorem dX12_text_253 : decode cX12_text 253 = .ok (.getfield 13, 3) := by decide +kernel
theorem dX12_text_256 : decode cX12_text 256 = .ok (.bipush 31, 2) := by decide +kernel
theorem dX12_text_258 : decode cX12_text 258 = .ok (.iaload, 1) := by decide +kernel
theorem dX12_text_259 : decode cX12_text 259 = .ok (.goto 10, 3) := by decide +kernel
theorem dX12_text_262 : decode cX12_text 262 = .ok (.aload_n 0, 1) := by decide +kernel
theorem dX12_text_263 : decode cX12_text 263 = .ok (.getfield 13, 3) := by decide +kernel
theorem dX12_text_266 : decode cX12_text 266 = .ok (.bipush 65, 2) := by decide +kernel
theorem dX12_text_268 : decode cX12_text 268 = .ok (.iaload, 1) := by decide +kernel
theorem dX12_text_269 : decode cX12_text 269 = .ok (.ireturn, 1) := by decide +kernel
theorem dX12_fault_0 : decode cX12_fault 0 = .ok (.aload_n 0, 1) := by decide +kernel
theorem dX12_fault_1 : decode cX12_fault 1 = .ok (.iconst 0, 1) := by decide +kernel
theorem dX12_fault_2 : decode cX12_fault 2 = .ok (.putfield 1, 3) := by decide +kernel
theorem dX12_fault_5 : decode cX12_fault 5 = .ok (.iload_n 1, 1) := by decide +kernel
theorem dX12_fault_6 : decode cX12_fault 6 = .ok (.ifCond .ne 10, 3) := by decide +kernel
theorem dX12_fault_9 : decode cX12_fault 9 = .ok (.aload_n 0, 1) := by decide +kernel
theorem dX12_fault_10 : decode cX12_fault 10 = .ok (.getfield 195, 3) := by decide +kernel
theorem dX12_fault_13 : decode cX12_fault 13 = .ok (.goto 16, 3) := by decide +kernel
theorem dX12_fault_16 : decode cX12_fault 16 = .ok (.iload_n 1, 1) := by decide +kernel
theorem dX12_fault_17 : decode cX12_fault 17 = .ok (.iconst 1, 1) := by decide +kernel
theorem dX12_fault_18 : decode cX12_fault 18 = .ok (.if_icmp .ne 10, 3) := by decide +kernel
theorem dX12_fault_21 : decode cX12_fault 21 = .ok (.aload_n 0, 1) := by decide +kernel
theorem dX12_fault_22 : decode cX12_fault 22 = .ok (.getfield 27, 3) := by decide +kernel
theorem dX12_fault_25 : decode cX12_fault 25 = .ok (.goto 4, 3) := by decide +kernel
theorem dX12_fault_28 : decode cX12_fault 28 = .ok (.iconst (-1), 1) := by decide +kernel
theorem dX12_fault_29 : decode cX12_fault 29 = .ok (.ireturn, 1) := by decide +kernel
theorem dX12_other_0 : decode cX12_other 0 = .ok (.aload_n 0, 1) := by decide +kernel
theorem dX12_other_1 : decode cX12_other 1 = .ok (.iconst 0, 1) := by decide +kernel
theorem dX12_other_2 : decode cX12_other 2 = .ok (.putfield 1, 3) := by decide +kernel
theorem dX12_other_5 : decode cX12_other 5 = .ok (.iconst 0, 1) := by decide +kernel
theorem dX12_other_6 : decode cX12_other 6 = .ok (.istore_n 1, 1) := by decide +kernel
theorem dX12_other_7 : decode cX12_other 7 = .ok (.iload_n 1, 1) := by decide +kernel
theorem dX12_other_8 : decode cX12_other 8 = .ok (.bipush 32, 2) := by decide +kernel
theorem dX12_other_10 : decode cX12_other 10 = .ok (.if_icmp .ge 24, 3) := by decide +kernel
theorem dX12_other_13 : decode cX12_other 13 = .ok (.aload_n 0, 1) := by decide +kernel
theorem dX12_other_14 : decode cX12_other 14 = .ok (.getfield 13, 3) := by decide +kernel
theorem dX12_other_17 : decode cX12_other 17 = .ok (.bipush 32, 2) := by decide +kernel
theorem dX12_other_19 : decode cX12_other 19 = .ok (.iload_n 1, 1) := by decide +kernel
theorem dX12_other_20 : decode cX12_other 20 = .ok (.iadd, 1) := by decide +kernel
theorem dX12_other_21 : decode cX12_other 21 = .ok (.aload_n 0, 1) := by decide +kernel
theorem dX12_other_22 : decode cX12_other 22 = .ok (.getfield 13, 3) := by decide +kernel
theorem dX12_other_25 : decode cX12_other 25 = .ok (.iload_n 1, 1) := by decide +kernel
theorem dX12_other_26 : decode cX12_other 26 = .ok (.iaload, 1) := by decide +kernel
theorem dX12_other_27 : decode cX12_other 27 = .ok (.iastore, 1) := by decide +kernel
theorem dX12_other_28 : decode cX12_other 28 = .ok (.iinc 1 1, 3) := by decide +kernel
theorem dX12_other_31 : decode cX12_other 31 = .ok (.goto (-24), 3) := by decide +kernel
theorem dX12_other_34 : decode cX12_other 34 = .ok (.aload_n 0, 1) := by decide +kernel
theorem dX12_other_35 : decode cX12_other 35 = .ok (.getfield 13, 3) := by decide +kernel
theorem dX12_other_38 : decode cX12_other 38 = .ok (.bipush 64, 2) := by decide +kernel
theorem dX12_other_40 : decode cX12_other 40 = .ok (.iconst 1, 1) := by decide +kernel
theorem dX12_other_41 : decode cX12_other 41 = .ok (.iastore, 1) := by decide +kernel
theorem dX12_other_42 : decode cX12_other 42 = .ok (.iconst 0, 1) := by decide +kernel
theorem dX12_other_43 : decode cX12_other 43 = .ok (.ireturn, 1) := by decide +kernel
theorem dX12_interestBy_0 : decode cX12_interestBy 0 = .ok (.iconst 0, 1) := by decide +kernel
theorem dX12_interestBy_1 : decode cX12_interestBy 1 = .ok (.istore 4, 2) := by decide +kernel
theorem dX12_interestBy_3 : decode cX12_interestBy 3 = .ok (.iload 4, 2) := by decide +kernel
theorem dX12_interestBy_5 : decode cX12_interestBy 5 = .ok (.aload_n 0, 1) := by decide +kernel
theorem dX12_interestBy_6 : decode cX12_interestBy 6 = .ok (.getfield 13, 3) := by decide +kernel
theorem dX12_interestBy_9 : decode cX12_interestBy 9 = .ok (.iload_n 1, 1) := by decide +kernel
theorem dX12_interestBy_10 : decode cX12_interestBy 10 = .ok (.iconst 0, 1) := by decide +kernel
theorem dX12_interestBy_11 : decode cX12_interestBy 11 = .ok (.iadd, 1) := by decide +kernel
theorem dX12_interestBy_12 : decode cX12_interestBy 12 = .ok (.iaload, 1) := by decide +kernel
theorem dX12_interestBy_13 : decode cX12_interestBy 13 = .ok (.if_icmp .ge 96, 3) := by decide +kernel
theorem dX12_interestBy_16 : decode cX12_interestBy 16 = .ok (.aload_n 0, 1) := by decide +kernel
theorem dX12_interestBy_17 : decode cX12_interestBy 17 = .ok (.getfield 13, 3) := by decide +kernel
theorem dX12_interestBy_20 : decode cX12_interestBy 20 = .ok (.iload_n 1, 1) := by decide +kernel
theorem dX12_interestBy_21 : decode cX12_interestBy 21 = .ok (.iconst 1, 1) := by decide +kernel
theorem dX12_interestBy_22 : decode cX12_interestBy 22 = .ok (.iadd, 1) := by decide +kernel
theorem dX12_interestBy_23 : decode cX12_interestBy 23 = .ok (.iload 4, 2) := by decide +kernel
theorem dX12_interestBy_25 : decode cX12_interestBy 25 = .ok (.iadd, 1) := by decide +kernel
theorem dX12_interestBy_26 : decode cX12_interestBy 26 = .ok (.iaload, 1) := by decide +kernel
theorem dX12_interestBy_27 : decode cX12_interestBy 27 = .ok (.iload_n 2, 1) := by decide +kernel
theorem dX12_interestBy_28 : decode cX12_interestBy 28 = .ok (.if_icmp .ge 6, 3) := by decide +kernel
theorem dX12_interestBy_31 : decode cX12_interestBy 31 = .ok (.goto 72, 3) := by decide +kernel
theorem dX12_interestBy_34 : decode cX12_interestBy 34 = .ok (.aload_n 0, 1) := by decide +kernel
theorem dX12_interestBy_35 : decode cX12_interestBy 35 = .ok (.getfield 13, 3) := by decide +kernel
theorem dX12_interestBy_38 : decode cX12_interestBy 38 = .ok (.iload_n 1, 1) := by decide +kernel
theorem dX12_interestBy_39 : decode cX12_interestBy 39 = .ok (.bipush 17, 2) := by decide +kernel
theorem dX12_interestBy_41 : decode cX12_interestBy 41 = .ok (.iadd, 1) := by decide +kernel
theorem dX12_interestBy_42 : decode cX12_interestBy 42 = .ok (.iload 4, 2) := by decide +kernel
theorem dX12_interestBy_44 : decode cX12_interestBy 44 = .ok (.iadd, 1) := by decide +kernel
theorem dX12_interestBy_45 : decode cX12_interestBy 45 = .ok (.iaload, 1) := by decide +kernel
theorem dX12_interestBy_46 : decode cX12_interestBy 46 = .ok (.istore 5, 2) := by decide +kernel
theorem dX12_interestBy_48 : decode cX12_interestBy 48 = .ok (.iload_n 3, 1) := by decide +kernel
theorem dX12_interestBy_49 : decode cX12_interestBy 49 = .ok (.aload_n 0, 1) := by decide +kernel
theorem dX12_interestBy_50 : decode cX12_interestBy 50 = .ok (.getfield 13, 3) := by decide +kernel
theorem dX12_interestBy_53 : decode cX12_interestBy 53 = .ok (.iload_n 1, 1) := by decide +kernel
theorem dX12_interestBy_54 : decode cX12_interestBy 54 = .ok (.bipush 9, 2) := by decide +kernel
theorem dX12_interestBy_56 : decode cX12_interestBy 56 = .ok (.iadd, 1) := by decide +kernel
theorem dX12_interestBy_57 : decode cX12_interestBy 57 = .ok (.iload 4, 2) := by decide +kernel
theorem dX12_interestBy_59 : decode cX12_interestBy 59 = .ok (.iadd, 1) := by decide +kernel
theorem dX12_interestBy_60 : decode cX12_interestBy 60 = .ok (.iaload, 1) := by decide +kernel
theorem dX12_interestBy_61 : decode cX12_interestBy 61 = .ok (.imul, 1) := by decide +kernel
theorem dX12_interestBy_62 : decode cX12_interestBy 62 = .ok (.iload_n 2, 1) := by decide +kernel
theorem dX12_interestBy_63 : decode cX12_interestBy 63 = .ok (.iload 5, 2) := by decide +kernel
theorem dX12_interestBy_65 : decode cX12_interestBy 65 = .ok (.iadd, 1) := by decide +kernel
theorem dX12_interestBy_66 : decode cX12_interestBy 66 = .ok (.iconst 1, 1) := by decide +kernel
theorem dX12_interestBy_67 : decode cX12_interestBy 67 = .ok (.isub, 1) := by decide +kernel
theorem dX12_interestBy_68 : decode cX12_interestBy 68 = .ok (.iload 5, 2) := by decide +kernel
theorem dX12_interestBy_70 : decode cX12_interestBy 70 = .ok (.idiv, 1) := by decide +kernel
theorem dX12_interestBy_71 : decode cX12_interestBy 71 = .ok (.imul, 1) := by decide +kernel
theorem dX12_interestBy_72 : decode cX12_interestBy 72 = .ok (.istore 6, 2) := by decide +kernel
theorem dX12_interestBy_74 : decode cX12_interestBy 74 = .ok (.iload 6, 2) := by decide +kernel
theorem dX12_interestBy_76 : decode cX12_interestBy 76 = .ok (.aload_n 0, 1) := by decide +kernel
theorem dX12_interestBy_77 : decode cX12_interestBy 77 = .ok (.getfield 13, 3) := by decide +kernel
theorem dX12_interestBy_80 : decode cX12_interestBy 80 = .ok (.iload_n 1, 1) := by decide +kernel
theorem dX12_interestBy_81 : decode cX12_interestBy 81 = .ok (.bipush 25, 2) := by decide +kernel
theorem dX12_interestBy_83 : decode cX12_interestBy 83 = .ok (.iadd, 1) := by decide +kernel
theorem dX12_interestBy_84 : decode cX12_interestBy 84 = .ok (.iaload, 1) := by decide +kernel
theorem dX12_interestBy_85 : decode cX12_interestBy 85 = .ok (.if_icmp .ge 15, 3) := by decide +kernel
theorem dX12_interestBy_88 : decode cX12_interestBy 88 = .ok (.aload_n 0, 1) := by decide +kernel
theorem dX12_interestBy_89 : decode cX12_interestBy 89 = .ok (.getfield 13, 3) := by decide +kernel
theorem dX12_interestBy_92 : decode cX12_interestBy 92 = .ok (.iload_n 1, 1) := by decide +kernel
theorem dX12_interestBy_93 : decode cX12_interestBy 93 = .ok (.bipush 25, 2) := by decide +kernel
theorem dX12_interestBy_95 : decode cX12_interestBy 95 = .ok (.iadd, 1) := by decide +kernel
theorem dX12_interestBy_96 : decode cX12_interestBy 96 = .ok (.iaload, 1) := by decide +kernel
theorem dX12_interestBy_97 : decode cX12_interestBy 97 = .ok (.goto 5, 3) := by decide +kernel
theorem dX12_interestBy_100 : decode cX12_interestBy 100 = .ok (.iload 6, 2) := by decide +kernel
theorem dX12_interestBy_102 : decode cX12_interestBy 102 = .ok (.ireturn, 1) := by decide +kernel
theorem dX12_interestBy_103 : decode cX12_interestBy 103 = .ok (.iinc 4 1, 3) := by decide +kernel
theorem dX12_interestBy_106 : decode cX12_interestBy 106 = .ok (.goto (-103), 3) := by decide +kernel
theorem dX12_interestBy_109 : decode cX12_interestBy 109 = .ok (.iconst (-1), 1) := by decide +kernel
theorem dX12_interestBy_110 : decode cX12_interestBy 110 = .ok (.ireturn, 1) := by decide +kernel
theorem dX12_halvesOf_0 : decode cX12_halvesOf 0 = .ok (.iconst 1, 1) := by decide +kernel
theorem dX12_halvesOf_1 : decode cX12_halvesOf 1 = .ok (.iload_n 0, 1) := by decide +kernel
theorem dX12_halvesOf_2 : decode cX12_halvesOf 2 = .ok (.iconst 2, 1) := by decide +kernel
theorem dX12_halvesOf_3 : decode cX12_halvesOf 3 = .ok (.idiv, 1) := by decide +kernel
theorem dX12_halvesOf_4 : decode cX12_halvesOf 4 = .ok (.iadd, 1) := by decide +kernel
theorem dX12_halvesOf_5 : decode cX12_halvesOf 5 = .ok (.ireturn, 1) := by decide +kernel
theorem dX12_interest_0 : decode cX12_interest 0 = .ok (.aload_n 0, 1) := by decide +kernel
theorem dX12_interest_1 : decode cX12_interest 1 = .ok (.iconst 0, 1) := by decide +kernel
theorem dX12_interest_2 : decode cX12_interest 2 = .ok (.putfield 1, 3) := by decide +kernel
theorem dX12_interest_5 : decode cX12_interest 5 = .ok (.iload_n 1, 1) := by decide +kernel
theorem dX12_interest_6 : decode cX12_interest 6 = .ok (.i2l, 1) := by decide +kernel
theorem dX12_interest_7 : decode cX12_interest 7 = .ok (.lconst 0, 1) := by decide +kernel
theorem dX12_interest_8 : decode cX12_interest 8 = .ok (.lconst 1, 1) := by decide +kernel
theorem dX12_interest_9 : decode cX12_interest 9 = .ok (.invokestatic 142, 3) := by decide +kernel
theorem dX12_interest_12 : decode cX12_interest 12 = .ok (.ifCond .ne 6, 3) := by decide +kernel
theorem dX12_interest_15 : decode cX12_interest 15 = .ok (.bipush (-2), 2) := by decide +kernel
theorem dX12_interest_17 : decode cX12_interest 17 = .ok (.ireturn, 1) := by decide +kernel
theorem dX12_interest_18 : decode cX12_interest 18 = .ok (.iload_n 2, 1) := by decide +kernel
theorem dX12_interest_19 : decode cX12_interest 19 = .ok (.i2l, 1) := by decide +kernel
theorem dX12_interest_20 : decode cX12_interest 20 = .ok (.lconst 1, 1) := by decide +kernel
theorem dX12_interest_21 : decode cX12_interest 21 = .ok (.ldc2_w 198, 3) := by decide +kernel
theorem dX12_interest_24 : decode cX12_interest 24 = .ok (.invokestatic 142, 3) := by decide +kernel
theorem dX12_interest_27 : decode cX12_interest 27 = .ok (.ifCond .eq 29, 3) := by decide +kernel
theorem dX12_interest_30 : decode cX12_interest 30 = .ok (.iload_n 3, 1) := by decide +kernel
theorem dX12_interest_31 : decode cX12_interest 31 = .ok (.i2l, 1) := by decide +kernel
theorem dX12_interest_32 : decode cX12_interest 32 = .ok (.lconst 0, 1) := by decide +kernel
theorem dX12_interest_33 : decode cX12_interest 33 = .ok (.ldc2_w 200, 3) := by decide +kernel
theorem dX12_interest_36 : decode cX12_interest 36 = .ok (.invokestatic 142, 3) := by decide +kernel
theorem dX12_interest_39 : decode cX12_interest 39 = .ok (.ifCond .eq 17, 3) := by decide +kernel
theorem dX12_interest_42 : decode cX12_interest 42 = .ok (.iload 4, 2) := by decide +kernel
theorem dX12_interest_44 : decode cX12_interest 44 = .ok (.i2l, 1) := by decide +kernel
theorem dX12_interest_45 : decode cX12_interest 45 = .ok (.iload_n 3, 1) := by decide +kernel
theorem dX12_interest_46 : decode cX12_interest 46 = .ok (.i2l, 1) := by decide +kernel
theorem dX12_interest_47 : decode cX12_interest 47 = .ok (.ldc2_w 200, 3) := by decide +kernel
theorem dX12_interest_50 : decode cX12_interest 50 = .ok (.invokestatic 142, 3) := by decide +kernel
theorem dX12_interest_53 : decode cX12_interest 53 = .ok (.ifCond .ne 6, 3) := by decide +kernel
theorem dX12_interest_56 : decode cX12_interest 56 = .ok (.bipush (-3), 2) := by decide +kernel
theorem dX12_interest_58 : decode cX12_interest 58 = .ok (.ireturn, 1) := by decide +kernel
theorem dX12_interest_59 : decode cX12_interest 59 = .ok (.iload_n 1, 1) := by decide +kernel
theorem dX12_interest_60 : decode cX12_interest 60 = .ok (.iconst 1, 1) := by decide +kernel
theorem dX12_interest_61 : decode cX12_interest 61 = .ok (.if_icmp .ne 17, 3) := by decide +kernel
theorem dX12_interest_64 : decode cX12_interest 64 = .ok (.aload_n 0, 1) := by decide +kernel
theorem dX12_interest_65 : decode cX12_interest 65 = .ok (.getfield 13, 3) := by decide +kernel
theorem dX12_interest_68 : decode cX12_interest 68 = .ok (.bipush 64, 2) := by decide +kernel
theorem dX12_interest_70 : decode cX12_interest 70 = .ok (.iaload, 1) := by decide +kernel
theorem dX12_interest_71 : decode cX12_interest 71 = .ok (.ifCond .ne 7, 3) := by decide +kernel
theorem dX12_interest_74 : decode cX12_interest 74 = .ok (.iconst (-1), 1) := by decide +kernel
theorem dX12_interest_75 : decode cX12_interest 75 = .ok (.goto 25, 3) := by decide +kernel
theorem dX12_interest_78 : decode cX12_interest 78 = .ok (.aload_n 0, 1) := by decide +kernel
theorem dX12_interest_79 : decode cX12_interest 79 = .ok (.iload_n 1, 1) := by decide +kernel
theorem dX12_interest_80 : decode cX12_interest 80 = .ok (.ifCond .ne 7, 3) := by decide +kernel
theorem dX12_interest_83 : decode cX12_interest 83 = .ok (.iconst 0, 1) := by decide +kernel
theorem dX12_interest_84 : decode cX12_interest 84 = .ok (.goto 5, 3) := by decide +kernel
theorem dX12_interest_87 : decode cX12_interest 87 = .ok (.bipush 32, 2) := by decide +kernel
theorem dX12_interest_89 : decode cX12_interest 89 = .ok (.iload_n 2, 1) := by decide +kernel
theorem dX12_interest_90 : decode cX12_interest 90 = .ok (.iload 4, 2) := by decide +kernel
theorem dX12_interest_92 : decode cX12_interest 92 = .ok (.iload_n 3, 1) := by decide +kernel
theorem dX12_interest_93 : decode cX12_interest 93 = .ok (.isub, 1) := by decide +kernel
theorem dX12_interest_94 : decode cX12_interest 94 = .ok (.invokestatic 202, 3) := by decide +kernel
theorem dX12_interest_97 : decode cX12_interest 97 = .ok (.invokevirtual 205, 3) := by decide +kernel
theorem dX12_interest_100 : decode cX12_interest 100 = .ok (.istore 5, 2) := by decide +kernel
theorem dX12_interest_102 : decode cX12_interest 102 = .ok (.iload 5, 2) := by decide +kernel
theorem dX12_interest_104 : decode cX12_interest 104 = .ok (.iconst (-1), 1) := by decide +kernel
theorem dX12_interest_105 : decode cX12_interest 105 = .ok (.if_icmp .ne 8, 3) := by decide +kernel
theorem dX12_interest_108 : decode cX12_interest 108 = .ok (.bipush (-5), 2) := by decide +kernel
theorem dX12_interest_110 : decode cX12_interest 110 = .ok (.goto 5, 3) := by decide +kernel
theorem dX12_interest_113 : decode cX12_interest 113 = .ok (.iload 5, 2) := by decide +kernel
theorem dX12_interest_115 : decode cX12_interest 115 = .ok (.ireturn, 1) := by decide +kernel
theorem dX12_kind_0 : decode cX12_kind 0 = .ok (.aload_n 0, 1) := by decide +kernel
theorem dX12_kind_1 : decode cX12_kind 1 = .ok (.iconst 0, 1) := by decide +kernel
theorem dX12_kind_2 : decode cX12_kind 2 = .ok (.putfield 1, 3) := by decide +kernel
theorem dX12_kind_5 : decode cX12_kind 5 = .ok (.iload_n 1, 1) := by decide +kernel
theorem dX12_kind_6 : decode cX12_kind 6 = .ok (.i2l, 1) := by decide +kernel
theorem dX12_kind_7 : decode cX12_kind 7 = .ok (.lconst 1, 1) := by decide +kernel
theorem dX12_kind_8 : decode cX12_kind 8 = .ok (.ldc2_w 209, 3) := by decide +kernel
theorem dX12_kind_11 : decode cX12_kind 11 = .ok (.invokestatic 142, 3) := by decide +kernel
theorem dX12_kind_14 : decode cX12_kind 14 = .ok (.ifCond .eq 41, 3) := by decide +kernel
theorem dX12_kind_17 : decode cX12_kind 17 = .ok (.iload_n 2, 1) := by decide +kernel
theorem dX12_kind_18 : decode cX12_kind 18 = .ok (.i2l, 1) := by decide +kernel
theorem dX12_kind_19 : decode cX12_kind 19 = .ok (.lconst 1, 1) := by decide +kernel
theorem dX12_kind_20 : decode cX12_kind 20 = .ok (.ldc2_w 198, 3) := by decide +kernel
theorem dX12_kind_23 : decode cX12_kind 23 = .ok (.invokestatic 142, 3) := by decide +kernel
theorem dX12_kind_26 : decode cX12_kind 26 = .ok (.ifCond .eq 29, 3) := by decide +kernel
theorem dX12_kind_29 : decode cX12_kind 29 = .ok (.iload_n 3, 1) := by decide +kernel
theorem dX12_kind_30 : decode cX12_kind 30 = .ok (.i2l, 1) := by decide +kernel
theorem dX12_kind_31 : decode cX12_kind 31 = .ok (.iload_n 2, 1) := by decide +kernel
theorem dX12_kind_32 : decode cX12_kind 32 = .ok (.i2l, 1) := by decide +kernel
theorem dX12_kind_33 : decode cX12_kind 33 = .ok (.ldc2_w 198, 3) := by decide +kernel
theorem dX12_kind_36 : decode cX12_kind 36 = .ok (.invokestatic 142, 3) := by decide +kernel
theorem dX12_kind_39 : decode cX12_kind 39 = .ok (.ifCond .eq 16, 3) := by decide +kernel
theorem dX12_kind_42 : decode cX12_kind 42 = .ok (.iload 4, 2) := by decide +kernel
theorem dX12_kind_44 : decode cX12_kind 44 = .ok (.i2l, 1) := by decide +kernel
theorem dX12_kind_45 : decode cX12_kind 45 = .ok (.lconst 0, 1) := by decide +kernel
theorem dX12_kind_46 : decode cX12_kind 46 = .ok (.ldc2_w 211, 3) := by decide +kernel
theorem dX12_kind_49 : decode cX12_kind 49 = .ok (.invokestatic 142, 3) := by decide +kernel
theorem dX12_kind_52 : decode cX12_kind 52 = .ok (.ifCond .ne 6, 3) := by decide +kernel
theorem dX12_kind_55 : decode cX12_kind 55 = .ok (.bipush (-3), 2) := by decide +kernel
theorem dX12_kind_57 : decode cX12_kind 57 = .ok (.ireturn, 1) := by decide +kernel
theorem dX12_kind_58 : decode cX12_kind 58 = .ok (.aload_n 0, 1) := by decide +kernel
theorem dX12_kind_59 : decode cX12_kind 59 = .ok (.getfield 13, 3) := by decide +kernel
theorem dX12_kind_62 : decode cX12_kind 62 = .ok (.sipush 582, 3) := by decide +kernel
theorem dX12_kind_65 : decode cX12_kind 65 = .ok (.iaload, 1) := by decide +kernel
theorem dX12_kind_66 : decode cX12_kind 66 = .ok (.istore 6, 2) := by decide +kernel
theorem dX12_kind_68 : decode cX12_kind 68 = .ok (.iload 6, 2) := by decide +kernel
theorem dX12_kind_70 : decode cX12_kind 70 = .ok (.bipush 12, 2) := by decide +kernel
theorem dX12_kind_72 : decode cX12_kind 72 = .ok (.if_icmp .ne 6, 3) := by decide +kernel
theorem dX12_kind_75 : decode cX12_kind 75 = .ok (.bipush (-4), 2) := by decide +kernel
theorem dX12_kind_77 : decode cX12_kind 77 = .ok (.ireturn, 1) := by decide +kernel
theorem dX12_kind_78 : decode cX12_kind 78 = .ok (.aload_n 0, 1) := by decide +kernel
theorem dX12_kind_79 : decode cX12_kind 79 = .ok (.getfield 13, 3) := by decide +kernel
theorem dX12_kind_82 : decode cX12_kind 82 = .ok (.sipush 583, 3) := by decide +kernel
theorem dX12_kind_85 : decode cX12_kind 85 = .ok (.iload 6, 2) := by decide +kernel
theorem dX12_kind_87 : decode cX12_kind 87 = .ok (.iadd, 1) := by decide +kernel
theorem dX12_kind_88 : decode cX12_kind 88 = .ok (.iload_n 1, 1) := by decide +kernel
theorem dX12_kind_89 : decode cX12_kind 89 = .ok (.iastore, 1) := by decide +kernel
theorem dX12_kind_90 : decode cX12_kind 90 = .ok (.aload_n 0, 1) := by decide +kernel
theorem dX12_kind_91 : decode cX12_kind 91 = .ok (.getfield 13, 3) := by decide +kernel
theorem dX12_kind_94 : decode cX12_kind 94 = .ok (.sipush 595, 3) := by decide +kernel
theorem dX12_kind_97 : decode cX12_kind 97 = .ok (.iload 6, 2) := by decide +kernel
theorem dX12_kind_99 : decode cX12_kind 99 = .ok (.iadd, 1) := by decide +kernel
theorem dX12_kind_100 : decode cX12_kind 100 = .ok (.iload_n 2, 1) := by decide +kernel
theorem dX12_kind_101 : decode cX12_kind 101 = .ok (.iastore, 1) := by decide +kernel
theorem dX12_kind_102 : decode cX12_kind 102 = .ok (.aload_n 0, 1) := by decide +kernel
theorem dX12_kind_103 : decode cX12_kind 103 = .ok (.getfield 13, 3) := by decide +kernel
theorem dX12_kind_106 : decode cX12_kind 106 = .ok (.sipush 607, 3) := by decide +kernel
theorem dX12_kind_109 : decode cX12_kind 109 = .ok (.iload 6, 2) := by decide +kernel
theorem dX12_kind_111 : decode cX12_kind 111 = .ok (.iadd, 1) := by decide +kernel
theorem dX12_kind_112 : decode cX12_kind 112 = .ok (.iload_n 3, 1) := by decide +kernel
theorem dX12_kind_113 : decode cX12_kind 113 = .ok (.iastore, 1) := by decide +kernel
theorem dX12_kind_114 : decode cX12_kind 114 = .ok (.aload_n 0, 1) := by decide +kernel
theorem dX12_kind_115 : decode cX12_kind 115 = .ok (.getfield 13, 3) := by decide +kernel
theorem dX12_kind_118 : decode cX12_kind 118 = .ok (.sipush 619, 3) := by decide +kernel
theorem dX12_kind_121 : decode cX12_kind 121 = .ok (.iload 6, 2) := by decide +kernel
theorem dX12_kind_123 : decode cX12_kind 123 = .ok (.iadd, 1) := by decide +kernel
theorem dX12_kind_124 : decode cX12_kind 124 = .ok (.iload 4, 2) := by decide +kernel
theorem dX12_kind_126 : decode cX12_kind 126 = .ok (.iastore, 1) := by decide +kernel
theorem dX12_kind_127 : decode cX12_kind 127 = .ok (.aload_n 0, 1) := by decide +kernel
theorem dX12_kind_128 : decode cX12_kind 128 = .ok (.getfield 13, 3) := by decide +kernel
theorem dX12_kind_131 : decode cX12_kind 131 = .ok (.sipush 631, 3) := by decide +kernel
theorem dX12_kind_134 : decode cX12_kind 134 = .ok (.iload 6, 2) := by decide +kernel
theorem dX12_kind_136 : decode cX12_kind 136 = .ok (.iadd, 1) := by decide +kernel
theorem dX12_kind_137 : decode cX12_kind 137 = .ok (.iload 5, 2) := by decide +kernel
theorem dX12_kind_139 : decode cX12_kind 139 = .ok (.ifCond .eq 7, 3) := by decide +kernel
theorem dX12_kind_142 : decode cX12_kind 142 = .ok (.iconst 1, 1) := by decide +kernel
theorem dX12_kind_143 : decode cX12_kind 143 = .ok (.goto 4, 3) := by decide +kernel
theorem dX12_kind_146 : decode cX12_kind 146 = .ok (.iconst 0, 1) := by decide +kernel
theorem dX12_kind_147 : decode cX12_kind 147 = .ok (.iastore, 1) := by decide +kernel
theorem dX12_kind_148 : decode cX12_kind 148 = .ok (.aload_n 0, 1) := by decide +kernel
theorem dX12_kind_149 : decode cX12_kind 149 = .ok (.getfield 13, 3) := by decide +kernel
theorem dX12_kind_152 : decode cX12_kind 152 = .ok (.sipush 582, 3) := by decide +kernel
theorem dX12_kind_155 : decode cX12_kind 155 = .ok (.dup2, 1) := by decide +kernel
theorem dX12_kind_156 : decode cX12_kind 156 = .ok (.iaload, 1) := by decide +kernel
theorem dX12_kind_157 : decode cX12_kind 157 = .ok (.iconst 1, 1) := by decide +kernel
theorem dX12_kind_158 : decode cX12_kind 158 = .ok (.iadd, 1) := by decide +kernel
theorem dX12_kind_159 : decode cX12_kind 159 = .ok (.iastore, 1) := by decide +kernel
theorem dX12_kind_160 : decode cX12_kind 160 = .ok (.iload 6, 2) := by decide +kernel
theorem dX12_kind_162 : decode cX12_kind 162 = .ok (.ireturn, 1) := by decide +kernel
theorem dX12_person_0 : decode cX12_person 0 = .ok (.aload_n 0, 1) := by decide +kernel
theorem dX12_person_1 : decode cX12_person 1 = .ok (.iconst 0, 1) := by decide +kernel
theorem dX12_person_2 : decode cX12_person 2 = .ok (.putfield 1, 3) := by decide +kernel
theorem dX12_person_5 : decode cX12_person 5 = .ok (.iload_n 1, 1) := by decide +kernel
theorem dX12_person_6 : decode cX12_person 6 = .ok (.i2l, 1) := by decide +kernel
theorem dX12_person_7 : decode cX12_person 7 = .ok (.lconst 0, 1) := by decide +kernel
theorem dX12_person_8 : decode cX12_person 8 = .ok (.ldc2_w 198, 3) := by decide +kernel
theorem dX12_person_11 : decode cX12_person 11 = .ok (.invokestatic 142, 3) := by decide +kernel
theorem dX12_person_14 : decode cX12_person 14 = .ok (.ifCond .eq 40, 3) := by decide +kernel
theorem dX12_person_17 : decode cX12_person 17 = .ok (.iload_n 2, 1) := by decide +kernel
theorem dX12_person_18 : decode cX12_person 18 = .ok (.i2l, 1) := by decide +kernel
theorem dX12_person_19 : decode cX12_person 19 = .ok (.lconst 0, 1) := by decide +kernel
theorem dX12_person_20 : decode cX12_person 20 = .ok (.ldc2_w 198, 3) := by decide +kernel
theorem dX12_person_23 : decode cX12_person 23 = .ok (.invokestatic 142, 3) := by decide +kernel
theorem dX12_person_26 : decode cX12_person 26 = .ok (.ifCond .eq 28, 3) := by decide +kernel
theorem dX12_person_29 : decode cX12_person 29 = .ok (.iload_n 3, 1) := by decide +kernel
theorem dX12_person_30 : decode cX12_person 30 = .ok (.i2l, 1) := by decide +kernel
theorem dX12_person_31 : decode cX12_person 31 = .ok (.lconst 0, 1) := by decide +kernel
theorem dX12_person_32 : decode cX12_person 32 = .ok (.ldc2_w 198, 3) := by decide +kernel
theorem dX12_person_35 : decode cX12_person 35 = .ok (.invokestatic 142, 3) := by decide +kernel
theorem dX12_person_38 : decode cX12_person 38 = .ok (.ifCond .eq 16, 3) := by decide +kernel
theorem dX12_person_41 : decode cX12_person 41 = .ok (.iload 4, 2) := by decide +kernel
theorem dX12_person_43 : decode cX12_person 43 = .ok (.i2l, 1) := by decide +kernel
theorem dX12_person_44 : decode cX12_person 44 = .ok (.lconst 0, 1) := by decide +kernel
theorem dX12_person_45 : decode cX12_person 45 = .ok (.ldc2_w 213, 3) := by decide +kernel
theorem dX12_person_48 : decode cX12_person 48 = .ok (.invokestatic 142, 3) := by decide +kernel
theorem dX12_person_51 : decode cX12_person 51 = .ok (.ifCond .ne 6, 3) := by decide +kernel
theorem dX12_person_54 : decode cX12_person 54 = .ok (.bipush (-3), 2) := by decide +kernel
theorem dX12_person_56 : decode cX12_person 56 = .ok (.ireturn, 1) := by decide +kernel
theorem dX12_person_57 : decode cX12_person 57 = .ok (.aload_n 0, 1) := by decide +kernel
theorem dX12_person_58 : decode cX12_person 58 = .ok (.getfield 13, 3) := by decide +kernel
theorem dX12_person_61 : decode cX12_person 61 = .ok (.sipush 643, 3) := by decide +kernel
theorem dX12_person_64 : decode cX12_person 64 = .ok (.iaload, 1) := by decide +kernel
theorem dX12_person_65 : decode cX12_person 65 = .ok (.istore 5, 2) := by decide +kernel
theorem dX12_person_67 : decode cX12_person 67 = .ok (.iload 5, 2) := by decide +kernel
theorem dX12_person_69 : decode cX12_person 69 = .ok (.bipush 16, 2) := by decide +kernel
theorem dX12_person_71 : decode cX12_person 71 = .ok (.if_icmp .ne 6, 3) := by decide +kernel
theorem dX12_person_74 : decode cX12_person 74 = .ok (.bipush (-4), 2) := by decide +kernel
theorem dX12_person_76 : decode cX12_person 76 = .ok (.ireturn, 1) := by decide +kernel
theorem dX12_person_77 : decode cX12_person 77 = .ok (.aload_n 0, 1) := by decide +kernel
theorem dX12_person_78 : decode cX12_person 78 = .ok (.getfield 13, 3) := by decide +kernel
theorem dX12_person_81 : decode cX12_person 81 = .ok (.sipush 644, 3) := by decide +kernel
theorem dX12_person_84 : decode cX12_person 84 = .ok (.iload 5, 2) := by decide +kernel
theorem dX12_person_86 : decode cX12_person 86 = .ok (.iadd, 1) := by decide +kernel
theorem dX12_person_87 : decode cX12_person 87 = .ok (.iload_n 1, 1) := by decide +kernel
theorem dX12_person_88 : decode cX12_person 88 = .ok (.iastore, 1) := by decide +kernel
theorem dX12_person_89 : decode cX12_person 89 = .ok (.aload_n 0, 1) := by decide +kernel
theorem dX12_person_90 : decode cX12_person 90 = .ok (.getfield 13, 3) := by decide +kernel
theorem dX12_person_93 : decode cX12_person 93 = .ok (.sipush 660, 3) := by decide +kernel
theorem dX12_person_96 : decode cX12_person 96 = .ok (.iload 5, 2) := by decide +kernel
theorem dX12_person_98 : decode cX12_person 98 = .ok (.iadd, 1) := by decide +kernel
theorem dX12_person_99 : decode cX12_person 99 = .ok (.iload_n 2, 1) := by decide +kernel
theorem dX12_person_100 : decode cX12_person 100 = .ok (.iastore, 1) := by decide +kernel
theorem dX12_person_101 : decode cX12_person 101 = .ok (.aload_n 0, 1) := by decide +kernel
theorem dX12_person_102 : decode cX12_person 102 = .ok (.getfield 13, 3) := by decide +kernel
theorem dX12_person_105 : decode cX12_person 105 = .ok (.sipush 676, 3) := by decide +kernel
theorem dX12_person_108 : decode cX12_person 108 = .ok (.iload 5, 2) := by decide +kernel
theorem dX12_person_110 : decode cX12_person 110 = .ok (.iadd, 1) := by decide +kernel
theorem dX12_person_111 : decode cX12_person 111 = .ok (.iload_n 3, 1) := by decide +kernel
theorem dX12_person_112 : decode cX12_person 112 = .ok (.iastore, 1) := by decide +kernel
theorem dX12_person_113 : decode cX12_person 113 = .ok (.aload_n 0, 1) := by decide +kernel
theorem dX12_person_114 : decode cX12_person 114 = .ok (.getfield 13, 3) := by decide +kernel
theorem dX12_person_117 : decode cX12_person 117 = .ok (.sipush 692, 3) := by decide +kernel
theorem dX12_person_120 : decode cX12_person 120 = .ok (.iload 5, 2) := by decide +kernel
theorem dX12_person_122 : decode cX12_person 122 = .ok (.iadd, 1) := by decide +kernel
theorem dX12_person_123 : decode cX12_person 123 = .ok (.iconst 2, 1) := by decide +kernel
theorem dX12_person_124 : decode cX12_person 124 = .ok (.iload 4, 2) := by decide +kernel
theorem dX12_person_126 : decode cX12_person 126 = .ok (.imul, 1) := by decide +kernel
theorem dX12_person_127 : decode cX12_person 127 = .ok (.iastore, 1) := by decide +kernel
theorem dX12_person_128 : decode cX12_person 128 = .ok (.aload_n 0, 1) := by decide +kernel
theorem dX12_person_129 : decode cX12_person 129 = .ok (.getfield 13, 3) := by decide +kernel
theorem dX12_person_132 : decode cX12_person 132 = .ok (.sipush 3759, 3) := by decide +kernel
theorem dX12_person_135 : decode cX12_person 135 = .ok (.iload 5, 2) := by decide +kernel
theorem dX12_person_137 : decode cX12_person 137 = .ok (.iadd, 1) := by decide +kernel
theorem dX12_person_138 : decode cX12_person 138 = .ok (.iconst 0, 1) := by decide +kernel
theorem dX12_person_139 : decode cX12_person 139 = .ok (.iastore, 1) := by decide +kernel
theorem dX12_person_140 : decode cX12_person 140 = .ok (.aload_n 0, 1) := by decide +kernel
theorem dX12_person_141 : decode cX12_person 141 = .ok (.getfield 13, 3) := by decide +kernel
theorem dX12_person_144 : decode cX12_person 144 = .ok (.sipush 643, 3) := by decide +kernel
theorem dX12_person_147 : decode cX12_person 147 = .ok (.dup2, 1) := by decide +kernel
theorem dX12_person_148 : decode cX12_person 148 = .ok (.iaload, 1) := by decide +kernel
theorem dX12_person_149 : decode cX12_person 149 = .ok (.iconst 1, 1) := by decide +kernel
theorem dX12_person_150 : decode cX12_person 150 = .ok (.iadd, 1) := by decide +kernel
theorem dX12_person_151 : decode cX12_person 151 = .ok (.iastore, 1) := by decide +kernel
theorem dX12_person_152 : decode cX12_person 152 = .ok (.iload 5, 2) := by decide +kernel
theorem dX12_person_154 : decode cX12_person 154 = .ok (.ireturn, 1) := by decide +kernel
theorem dX12_isPerson_0 : decode cX12_isPerson 0 = .ok (.iload_n 1, 1) := by decide +kernel
theorem dX12_isPerson_1 : decode cX12_isPerson 1 = .ok (.ifCond .lt 19, 3) := by decide +kernel
theorem dX12_isPerson_4 : decode cX12_isPerson 4 = .ok (.iload_n 1, 1) := by decide +kernel
theorem dX12_isPerson_5 : decode cX12_isPerson 5 = .ok (.aload_n 0, 1) := by decide +kernel
theorem dX12_isPerson_6 : decode cX12_isPerson 6 = .ok (.getfield 13, 3) := by decide +kernel
theorem dX12_isPerson_9 : decode cX12_isPerson 9 = .ok (.sipush 643, 3) := by decide +kernel
theorem dX12_isPerson_12 : decode cX12_isPerson 12 = .ok (.iaload, 1) := by decide +kernel
theorem dX12_isPerson_13 : decode cX12_isPerson 13 = .ok (.if_icmp .ge 7, 3) := by decide +kernel
theorem dX12_isPerson_16 : decode cX12_isPerson 16 = .ok (.iconst 1, 1) := by decide +kernel
theorem dX12_isPerson_17 : decode cX12_isPerson 17 = .ok (.goto 4, 3) := by decide +kernel
theorem dX12_isPerson_20 : decode cX12_isPerson 20 = .ok (.iconst 0, 1) := by decide +kernel
theorem dX12_isPerson_21 : decode cX12_isPerson 21 = .ok (.ireturn, 1) := by decide +kernel
theorem dX12_isKind_0 : decode cX12_isKind 0 = .ok (.iload_n 1, 1) := by decide +kernel
theorem dX12_isKind_1 : decode cX12_isKind 1 = .ok (.ifCond .lt 19, 3) := by decide +kernel
theorem dX12_isKind_4 : decode cX12_isKind 4 = .ok (.iload_n 1, 1) := by decide +kernel
theorem dX12_isKind_5 : decode cX12_isKind 5 = .ok (.aload_n 0, 1) := by decide +kernel
theorem dX12_isKind_6 : decode cX12_isKind 6 = .ok (.getfield 13, 3) := by decide +kernel
theorem dX12_isKind_9 : decode cX12_isKind 9 = .ok (.sipush 582, 3) := by decide +kernel
theorem dX12_isKind_12 : decode cX12_isKind 12 = .ok (.iaload, 1) := by decide +kernel
theorem dX12_isKind_13 : decode cX12_isKind 13 = .ok (.if_icmp .ge 7, 3) := by decide +kernel
theorem dX12_isKind_16 : decode cX12_isKind 16 = .ok (.iconst 1, 1) := by decide +kernel
theorem dX12_isKind_17 : decode cX12_isKind 17 = .ok (.goto 4, 3) := by decide +kernel
theorem dX12_isKind_20 : decode cX12_isKind 20 = .ok (.iconst 0, 1) := by decide +kernel
theorem dX12_isKind_21 : decode cX12_isKind 21 = .ok (.ireturn, 1) := by decide +kernel
theorem dX12_isPledge_0 : decode cX12_isPledge 0 = .ok (.iload_n 1, 1) := by decide +kernel
theorem dX12_isPledge_1 : decode cX12_isPledge 1 = .ok (.ifCond .lt 19, 3) := by decide +kernel
theorem dX12_isPledge_4 : decode cX12_isPledge 4 = .ok (.iload_n 1, 1) := by decide +kernel
theorem dX12_isPledge_5 : decode cX12_isPledge 5 = .ok (.aload_n 0, 1) := by decide +kernel
theorem dX12_isPledge_6 : decode cX12_isPledge 6 = .ok (.getfield 13, 3) := by decide +kernel
theorem dX12_isPledge_9 : decode cX12_isPledge 9 = .ok (.sipush 709, 3) := by decide +kernel
theorem dX12_isPledge_12 : decode cX12_isPledge 12 = .ok (.iaload, 1) := by decide +kernel
theorem dX12_isPledge_13 : decode cX12_isPledge 13 = .ok (.if_icmp .ge 7, 3) := by decide +kernel
theorem dX12_isPledge_16 : decode cX12_isPledge 16 = .ok (.iconst 1, 1) := by decide +kernel
theorem dX12_isPledge_17 : decode cX12_isPledge 17 = .ok (.goto 4, 3) := by decide +kernel
theorem dX12_isPledge_20 : decode cX12_isPledge 20 = .ok (.iconst 0, 1) := by decide +kernel
theorem dX12_isPledge_21 : decode cX12_isPledge 21 = .ok (.ireturn, 1) := by decide +kernel
theorem dX12_purse_0 : decode cX12_purse 0 = .ok (.aload_n 0, 1) := by decide +kernel
theorem dX12_purse_1 : decode cX12_purse 1 = .ok (.iconst 0, 1) := by decide +kernel
theorem dX12_purse_2 : decode cX12_purse 2 = .ok (.putfield 1, 3) := by decide +kernel
theorem dX12_purse_5 : decode cX12_purse 5 = .ok (.aload_n 0, 1) := by decide +kernel
theorem dX12_purse_6 : decode cX12_purse 6 = .ok (.iload_n 1, 1) := by decide +kernel
theorem dX12_purse_7 : decode cX12_purse 7 = .ok (.invokevirtual 215, 3) := by decide +kernel
theorem dX12_purse_10 : decode cX12_purse 10 = .ok (.ifCond .eq 16, 3) := by decide +kernel
theorem dX12_purse_13 : decode cX12_purse 13 = .ok (.aload_n 0, 1) := by decide +kernel
theorem dX12_purse_14 : decode cX12_purse 14 = .ok (.getfield 13, 3) := by decide +kernel
theorem dX12_purse_17 : decode cX12_purse 17 = .ok (.sipush 692, 3) := by decide +kernel
theorem dX12_purse_20 : decode cX12_purse 20 = .ok (.iload_n 1, 1) := by decide +kernel
theorem dX12_purse_21 : decode cX12_purse 21 = .ok (.iadd, 1) := by decide +kernel
theorem dX12_purse_22 : decode cX12_purse 22 = .ok (.iaload, 1) := by decide +kernel
theorem dX12_purse_23 : decode cX12_purse 23 = .ok (.goto 5, 3) := by decide +kernel
theorem dX12_purse_26 : decode cX12_purse 26 = .ok (.ldc 218, 2) := by decide +kernel
theorem dX12_purse_28 : decode cX12_purse 28 = .ok (.ireturn, 1) := by decide +kernel
theorem dX12_weeks_0 : decode cX12_weeks 0 = .ok (.aload_n 0, 1) := by decide +kernel
theorem dX12_weeks_1 : decode cX12_weeks 1 = .ok (.iconst 0, 1) := by decide +kernel
theorem dX12_weeks_2 : decode cX12_weeks 2 = .ok (.putfield 1, 3) := by decide +kernel
theorem dX12_weeks_5 : decode cX12_weeks 5 = .ok (.iload_n 1, 1) := by decide +kernel
theorem dX12_weeks_6 : decode cX12_weeks 6 = .ok (.i2l, 1) := by decide +kernel
theorem dX12_weeks_7 : decode cX12_weeks 7 = .ok (.lconst 1, 1) := by decide +kernel
theorem dX12_weeks_8 : decode cX12_weeks 8 = .ok (.ldc2_w 219, 3) := by decide +kernel
theorem dX12_weeks_11 : decode cX12_weeks 11 = .ok (.invokestatic 142, 3) := by decide +kernel
theorem dX12_weeks_14 : decode cX12_weeks 14 = .ok (.ifCond .ne 6, 3) := by decide +kernel
theorem dX12_weeks_17 : decode cX12_weeks 17 = .ok (.bipush (-3), 2) := by decide +kernel
theorem dX12_weeks_19 : decode cX12_weeks 19 = .ok (.ireturn, 1) := by decide +kernel
theorem dX12_weeks_20 : decode cX12_weeks 20 = .ok (.aload_n 0, 1) := by decide +kernel
theorem dX12_weeks_21 : decode cX12_weeks 21 = .ok (.getfield 13, 3) := by decide +kernel
theorem dX12_weeks_24 : decode cX12_weeks 24 = .ok (.sipush 708, 3) := by decide +kernel
theorem dX12_weeks_27 : decode cX12_weeks 27 = .ok (.iaload, 1) := by decide +kernel
theorem dX12_weeks_28 : decode cX12_weeks 28 = .ok (.iload_n 1, 1) := by decide +kernel
theorem dX12_weeks_29 : decode cX12_weeks 29 = .ok (.iadd, 1) := by decide +kernel
theorem dX12_weeks_30 : decode cX12_weeks 30 = .ok (.sipush 300, 3) := by decide +kernel
theorem dX12_weeks_33 : decode cX12_weeks 33 = .ok (.if_icmp .le 6, 3) := by decide +kernel
theorem dX12_weeks_36 : decode cX12_weeks 36 = .ok (.bipush (-5), 2) := by decide +kernel
theorem dX12_weeks_38 : decode cX12_weeks 38 = .ok (.ireturn, 1) := by decide +kernel
theorem dX12_weeks_39 : decode cX12_weeks 39 = .ok (.aload_n 0, 1) := by decide +kernel
theorem dX12_weeks_40 : decode cX12_weeks 40 = .ok (.getfield 13, 3) := by decide +kernel
theorem dX12_weeks_43 : decode cX12_weeks 43 = .ok (.sipush 708, 3) := by decide +kernel
theorem dX12_weeks_46 : decode cX12_weeks 46 = .ok (.dup2, 1) := by decide +kernel
theorem dX12_weeks_47 : decode cX12_weeks 47 = .ok (.iaload, 1) := by decide +kernel
theorem dX12_weeks_48 : decode cX12_weeks 48 = .ok (.iload_n 1, 1) := by decide +kernel
theorem dX12_weeks_49 : decode cX12_weeks 49 = .ok (.iadd, 1) := by decide +kernel
theorem dX12_weeks_50 : decode cX12_weeks 50 = .ok (.iastore, 1) := by decide +kernel
theorem dX12_weeks_51 : decode cX12_weeks 51 = .ok (.aload_n 0, 1) := by decide +kernel
theorem dX12_weeks_52 : decode cX12_weeks 52 = .ok (.getfield 13, 3) := by decide +kernel
theorem dX12_weeks_55 : decode cX12_weeks 55 = .ok (.sipush 708, 3) := by decide +kernel
theorem dX12_weeks_58 : decode cX12_weeks 58 = .ok (.iaload, 1) := by decide +kernel
theorem dX12_weeks_59 : decode cX12_weeks 59 = .ok (.ireturn, 1) := by decide +kernel
theorem dX12_numberOf_0 : decode cX12_numberOf 0 = .ok (.bipush 100, 2) := by decide +kernel
theorem dX12_numberOf_2 : decode cX12_numberOf 2 = .ok (.iload_n 0, 1) := by decide +kernel
theorem dX12_numberOf_3 : decode cX12_numberOf 3 = .ok (.imul, 1) := by decide +kernel
theorem dX12_numberOf_4 : decode cX12_numberOf 4 = .ok (.bipush 31, 2) := by decide +kernel
theorem dX12_numberOf_6 : decode cX12_numberOf 6 = .ok (.iload_n 0, 1) := by decide +kernel
theorem dX12_numberOf_7 : decode cX12_numberOf 7 = .ok (.imul, 1) := by decide +kernel
theorem dX12_numberOf_8 : decode cX12_numberOf 8 = .ok (.bipush 17, 2) := by decide +kernel
theorem dX12_numberOf_10 : decode cX12_numberOf 10 = .ok (.iadd, 1) := by decide +kernel
theorem dX12_numberOf_11 : decode cX12_numberOf 11 = .ok (.bipush 97, 2) := by decide +kernel
theorem dX12_numberOf_13 : decode cX12_numberOf 13 = .ok (.irem, 1) := by decide +kernel
theorem dX12_numberOf_14 : decode cX12_numberOf 14 = .ok (.iadd, 1) := by decide +kernel
theorem dX12_numberOf_15 : decode cX12_numberOf 15 = .ok (.ireturn, 1) := by decide +kernel
theorem dX12_gives_0 : decode cX12_gives 0 = .ok (.aload_n 0, 1) := by decide +kernel
theorem dX12_gives_1 : decode cX12_gives 1 = .ok (.getfield 13, 3) := by decide +kernel
theorem dX12_gives_4 : decode cX12_gives 4 = .ok (.sipush 1310, 3) := by decide +kernel
theorem dX12_gives_7 : decode cX12_gives 7 = .ok (.iaload, 1) := by decide +kernel
theorem dX12_gives_8 : decode cX12_gives 8 = .ok (.istore_n 3, 1) := by decide +kernel
theorem dX12_gives_9 : decode cX12_gives 9 = .ok (.aload_n 0, 1) := by decide +kernel
theorem dX12_gives_10 : decode cX12_gives 10 = .ok (.getfield 13, 3) := by decide +kernel
theorem dX12_gives_13 : decode cX12_gives 13 = .ok (.sipush 1311, 3) := by decide +kernel
theorem dX12_gives_16 : decode cX12_gives 16 = .ok (.iload_n 3, 1) := by decide +kernel
theorem dX12_gives_17 : decode cX12_gives 17 = .ok (.iadd, 1) := by decide +kernel
theorem dX12_gives_18 : decode cX12_gives 18 = .ok (.iload_n 1, 1) := by decide +kernel
theorem dX12_gives_19 : decode cX12_gives 19 = .ok (.iastore, 1) := by decide +kernel
theorem dX12_gives_20 : decode cX12_gives 20 = .ok (.aload_n 0, 1) := by decide +kernel
theorem dX12_gives_21 : decode cX12_gives 21 = .ok (.getfield 13, 3) := by decide +kernel
theorem dX12_gives_24 : decode cX12_gives 24 = .ok (.sipush 1461, 3) := by decide +kernel
theorem dX12_gives_27 : decode cX12_gives 27 = .ok (.iload_n 3, 1) := by decide +kernel
theorem dX12_gives_28 : decode cX12_gives 28 = .ok (.iadd, 1) := by decide +kernel
theorem dX12_gives_29 : decode cX12_gives 29 = .ok (.iload_n 2, 1) := by decide +kernel
theorem dX12_gives_30 : decode cX12_gives 30 = .ok (.iastore, 1) := by decide +kernel
theorem dX12_gives_31 : decode cX12_gives 31 = .ok (.aload_n 0, 1) := by decide +kernel
theorem dX12_gives_32 : decode cX12_gives 32 = .ok (.getfield 13, 3) := by decide +kernel
theorem dX12_gives_35 : decode cX12_gives 35 = .ok (.sipush 1611, 3) := by decide +kernel
theorem dX12_gives_38 : decode cX12_gives 38 = .ok (.iload_n 3, 1) := by decide +kernel
theorem dX12_gives_39 : decode cX12_gives 39 = .ok (.iadd, 1) := by decide +kernel
theorem dX12_gives_40 : decode cX12_gives 40 = .ok (.iconst 1, 1) := by decide +kernel
theorem dX12_gives_41 : decode cX12_gives 41 = .ok (.iastore, 1) := by decide +kernel
theorem dX12_gives_42 : decode cX12_gives 42 = .ok (.aload_n 0, 1) := by decide +kernel
theorem dX12_gives_43 : decode cX12_gives 43 = .ok (.getfield 13, 3) := by decide +kernel
theorem dX12_gives_46 : decode cX12_gives 46 = .ok (.sipush 3609, 3) := by decide +kernel
theorem dX12_gives_49 : decode cX12_gives 49 = .ok (.iload_n 3, 1) := by decide +kernel
theorem dX12_gives_50 : decode cX12_gives 50 = .ok (.iadd, 1) := by decide +kernel
theorem dX12_gives_51 : decode cX12_gives 51 = .ok (.aload_n 0, 1) := by decide +kernel
theorem dX12_gives_52 : decode cX12_gives 52 = .ok (.getfield 13, 3) := by decide +kernel
theorem dX12_gives_55 : decode cX12_gives 55 = .ok (.sipush 3608, 3) := by decide +kernel
theorem dX12_gives_58 : decode cX12_gives 58 = .ok (.iaload, 1) := by decide +kernel
theorem dX12_gives_59 : decode cX12_gives 59 = .ok (.iastore, 1) := by decide +kernel
theorem dX12_gives_60 : decode cX12_gives 60 = .ok (.aload_n 0, 1) := by decide +kernel
theorem dX12_gives_61 : decode cX12_gives 61 = .ok (.getfield 13, 3) := by decide +kernel
theorem dX12_gives_64 : decode cX12_gives 64 = .ok (.sipush 1310, 3) := by decide +kernel
theorem dX12_gives_67 : decode cX12_gives 67 = .ok (.dup2, 1) := by decide +kernel
theorem dX12_gives_68 : decode cX12_gives 68 = .ok (.iaload, 1) := by decide +kernel
theorem dX12_gives_69 : decode cX12_gives 69 = .ok (.iconst 1, 1) := by decide +kernel
theorem dX12_gives_70 : decode cX12_gives 70 = .ok (.iadd, 1) := by decide +kernel
theorem dX12_gives_71 : decode cX12_gives 71 = .ok (.iastore, 1) := by decide +kernel
theorem dX12_gives_72 : decode cX12_gives 72 = .ok (.iload_n 3, 1) := by decide +kernel
theorem dX12_gives_73 : decode cX12_gives 73 = .ok (.iconst 1, 1) := by decide +kernel
theorem dX12_gives_74 : decode cX12_gives 74 = .ok (.iadd, 1) := by decide +kernel
theorem dX12_gives_75 : decode cX12_gives 75 = .ok (.invokestatic 221, 3) := by decide +kernel
theorem dX12_gives_78 : decode cX12_gives 78 = .ok (.ireturn, 1) := by decide +kernel
theorem dX12_pledges_0 : decode cX12_pledges 0 = .ok (.lload_n 1, 1) := by decide +kernel
theorem dX12_pledges_1 : decode cX12_pledges 1 = .ok (.lconst 0, 1) := by decide +kernel
theorem dX12_pledges_2 : decode cX12_pledges 2 = .ok (.aload_n 0, 1) := by decide +kernel
theorem dX12_pledges_3 : decode cX12_pledges 3 = .ok (.getfield 13, 3) := by decide +kernel
theorem dX12_pledges_6 : decode cX12_pledges 6 = .ok (.sipush 582, 3) := by decide +kernel
theorem dX12_pledges_9 : decode cX12_pledges 9 = .ok (.iaload, 1) := by decide +kernel
theorem dX12_pledges_10 : decode cX12_pledges 10 = .ok (.iconst 1, 1) := by decide +kernel
theorem dX12_pledges_11 : decode cX12_pledges 11 = .ok (.isub, 1) := by decide +kernel
theorem dX12_pledges_12 : decode cX12_pledges 12 = .ok (.i2l, 1) := by decide +kernel
theorem dX12_pledges_13 : decode cX12_pledges 13 = .ok (.invokestatic 142, 3) := by decide +kernel
theorem dX12_pledges_16 : decode cX12_pledges 16 = .ok (.ifCond .eq 22, 3) := by decide +kernel
theorem dX12_pledges_19 : decode cX12_pledges 19 = .ok (.lload_n 3, 1) := by decide +kernel
theorem dX12_pledges_20 : decode cX12_pledges 20 = .ok (.lconst 0, 1) := by decide +kernel
theorem dX12_pledges_21 : decode cX12_pledges 21 = .ok (.aload_n 0, 1) := by decide +kernel
theorem dX12_pledges_22 : decode cX12_pledges 22 = .ok (.getfield 13, 3) := by decide +kernel
theorem dX12_pledges_25 : decode cX12_pledges 25 = .ok (.sipush 643, 3) := by decide +kernel
theorem dX12_pledges_28 : decode cX12_pledges 28 = .ok (.iaload, 1) := by decide +kernel
theorem dX12_pledges_29 : decode cX12_pledges 29 = .ok (.iconst 1, 1) := by decide +kernel
theorem dX12_pledges_30 : decode cX12_pledges 30 = .ok (.isub, 1) := by decide +kernel
theorem dX12_pledges_31 : decode cX12_pledges 31 = .ok (.i2l, 1) := by decide +kernel
theorem dX12_pledges_32 : decode cX12_pledges 32 = .ok (.invokestatic 142, 3) := by decide +kernel
theorem dX12_pledges_35 : decode cX12_pledges 35 = .ok (.ifCond .ne 6, 3) := by decide +kernel
theorem dX12_pledges_38 : decode cX12_pledges 38 = .ok (.bipush (-2), 2) := by decide +kernel
theorem dX12_pledges_40 : decode cX12_pledges 40 = .ok (.ireturn, 1) := by decide +kernel
theorem dX12_pledges_41 : decode cX12_pledges 41 = .ok (.lload 5, 2) := by decide +kernel
theorem dX12_pledges_43 : decode cX12_pledges 43 = .ok (.lconst 1, 1) := by decide +kernel
theorem dX12_pledges_44 : decode cX12_pledges 44 = .ok (.ldc2_w 198, 3) := by decide +kernel
theorem dX12_pledges_47 : decode cX12_pledges 47 = .ok (.invokestatic 142, 3) := by decide +kernel
theorem dX12_pledges_50 : decode cX12_pledges 50 = .ok (.ifCond .ne 6, 3) := by decide +kernel
theorem dX12_pledges_53 : decode cX12_pledges 53 = .ok (.bipush (-3), 2) := by decide +kernel
theorem dX12_pledges_55 : decode cX12_pledges 55 = .ok (.ireturn, 1) := by decide +kernel
theorem dX12_pledges_56 : decode cX12_pledges 56 = .ok (.aload_n 0, 1) := by decide +kernel
theorem dX12_pledges_57 : decode cX12_pledges 57 = .ok (.getfield 13, 3) := by decide +kernel
theorem dX12_pledges_60 : decode cX12_pledges 60 = .ok (.sipush 709, 3) := by decide +kernel
theorem dX12_pledges_63 : decode cX12_pledges 63 = .ok (.iaload, 1) := by decide +kernel
theorem dX12_pledges_64 : decode cX12_pledges 64 = .ok (.bipush 60, 2) := by decide +kernel
theorem dX12_pledges_66 : decode cX12_pledges 66 = .ok (.if_icmp .eq 17, 3) := by decide +kernel
theorem dX12_pledges_69 : decode cX12_pledges 69 = .ok (.aload_n 0, 1) := by decide +kernel
theorem dX12_pledges_70 : decode cX12_pledges 70 = .ok (.getfield 13, 3) := by decide +kernel
theorem dX12_pledges_73 : decode cX12_pledges 73 = .ok (.sipush 1310, 3) := by decide +kernel
theorem dX12_pledges_76 : decode cX12_pledges 76 = .ok (.iaload, 1) := by decide +kernel
theorem dX12_pledges_77 : decode cX12_pledges 77 = .ok (.sipush 150, 3) := by decide +kernel
theorem dX12_pledges_80 : decode cX12_pledges 80 = .ok (.if_icmp .ne 6, 3) := by decide +kernel
theorem dX12_pledges_83 : decode cX12_pledges 83 = .ok (.bipush (-4), 2) := by decide +kernel
theorem dX12_pledges_85 : decode cX12_pledges 85 = .ok (.ireturn, 1) := by decide +kernel
theorem dX12_pledges_86 : decode cX12_pledges 86 = .ok (.lload 5, 2) := by decide +kernel
theorem dX12_pledges_88 : decode cX12_pledges 88 = .ok (.l2i, 1) := by decide +kernel
theorem dX12_pledges_89 : decode cX12_pledges 89 = .ok (.istore 7, 2) := by decide +kernel
theorem dX12_pledges_91 : decode cX12_pledges 91 = .ok (.aload_n 0, 1) := by decide +kernel
theorem dX12_pledges_92 : decode cX12_pledges 92 = .ok (.iconst 0, 1) := by decide +kernel
theorem dX12_pledges_93 : decode cX12_pledges 93 = .ok (.iload 7, 2) := by decide +kernel
theorem dX12_pledges_95 : decode cX12_pledges 95 = .ok (.iconst 1, 1) := by decide +kernel
theorem dX12_pledges_96 : decode cX12_pledges 96 = .ok (.invokevirtual 205, 3) := by decide +kernel
theorem dX12_pledges_99 : decode cX12_pledges 99 = .ok (.iconst (-1), 1) := by decide +kernel
theorem dX12_pledges_100 : decode cX12_pledges 100 = .ok (.if_icmp .ne 6, 3) := by decide +kernel
theorem dX12_pledges_103 : decode cX12_pledges 103 = .ok (.bipush (-5), 2) := by decide +kernel
theorem dX12_pledges_105 : decode cX12_pledges 105 = .ok (.ireturn, 1) := by decide +kernel
theorem dX12_pledges_106 : decode cX12_pledges 106 = .ok (.aload_n 0, 1) := by decide +kernel
theorem dX12_pledges_107 : decode cX12_pledges 107 = .ok (.getfield 13, 3) := by decide +kernel
theorem dX12_pledges_110 : decode cX12_pledges 110 = .ok (.sipush 709, 3) := by decide +kernel
theorem dX12_pledges_113 : decode cX12_pledges 113 = .ok (.iaload, 1) := by decide +kernel
theorem dX12_pledges_114 : decode cX12_pledges 114 = .ok (.istore 8, 2) := by decide +kernel
theorem dX12_pledges_116 : decode cX12_pledges 116 = .ok (.aload_n 0, 1) := by decide +kernel
theorem dX12_pledges_117 : decode cX12_pledges 117 = .ok (.getfield 13, 3) := by decide +kernel
theorem dX12_pledges_120 : decode cX12_pledges 120 = .ok (.sipush 710, 3) := by decide +kernel
theorem dX12_pledges_123 : decode cX12_pledges 123 = .ok (.iload 8, 2) := by decide +kernel
theorem dX12_pledges_125 : decode cX12_pledges 125 = .ok (.iadd, 1) := by decide +kernel
theorem dX12_pledges_126 : decode cX12_pledges 126 = .ok (.lload_n 1, 1) := by decide +kernel
theorem dX12_pledges_127 : decode cX12_pledges 127 = .ok (.l2i, 1) := by decide +kernel
theorem dX12_pledges_128 : decode cX12_pledges 128 = .ok (.iastore, 1) := by decide +kernel
theorem dX12_pledges_129 : decode cX12_pledges 129 = .ok (.aload_n 0, 1) := by decide +kernel
theorem dX12_pledges_130 : decode cX12_pledges 130 = .ok (.getfield 13, 3) := by decide +kernel
theorem dX12_pledges_133 : decode cX12_pledges 133 = .ok (.sipush 770, 3) := by decide +kernel
theorem dX12_pledges_136 : decode cX12_pledges 136 = .ok (.iload 8, 2) := by decide +kernel
theorem dX12_pledges_138 : decode cX12_pledges 138 = .ok (.iadd, 1) := by decide +kernel
theorem dX12_pledges_139 : decode cX12_pledges 139 = .ok (.lload_n 3, 1) := by decide +kernel
theorem dX12_pledges_140 : decode cX12_pledges 140 = .ok (.l2i, 1) := by decide +kernel
theorem dX12_pledges_141 : decode cX12_pledges 141 = .ok (.iastore, 1) := by decide +kernel
theorem dX12_pledges_142 : decode cX12_pledges 142 = .ok (.aload_n 0, 1) := by decide +kernel
theorem dX12_pledges_143 : decode cX12_pledges 143 = .ok (.getfield 13, 3) := by decide +kernel
theorem dX12_pledges_146 : decode cX12_pledges 146 = .ok (.sipush 830, 3) := by decide +kernel
theorem dX12_pledges_149 : decode cX12_pledges 149 = .ok (.iload 8, 2) := by decide +kernel
theorem dX12_pledges_151 : decode cX12_pledges 151 = .ok (.iadd, 1) := by decide +kernel
theorem dX12_pledges_152 : decode cX12_pledges 152 = .ok (.iload 7, 2) := by decide +kernel
theorem dX12_pledges_154 : decode cX12_pledges 154 = .ok (.iastore, 1) := by decide +kernel
theorem dX12_pledges_155 : decode cX12_pledges 155 = .ok (.aload_n 0, 1) := by decide +kernel
theorem dX12_pledges_156 : decode cX12_pledges 156 = .ok (.getfield 13, 3) := by decide +kernel
theorem dX12_pledges_159 : decode cX12_pledges 159 = .ok (.sipush 890, 3) := by decide +kernel
theorem dX12_pledges_162 : decode cX12_pledges 162 = .ok (.iload 8, 2) := by decide +kernel
theorem dX12_pledges_164 : decode cX12_pledges 164 = .ok (.iadd, 1) := by decide +kernel
theorem dX12_pledges_165 : decode cX12_pledges 165 = .ok (.aload_n 0, 1) := by decide +kernel
theorem dX12_pledges_166 : decode cX12_pledges 166 = .ok (.getfield 13, 3) := by decide +kernel
theorem dX12_pledges_169 : decode cX12_pledges 169 = .ok (.sipush 708, 3) := by decide +kernel
theorem dX12_pledges_172 : decode cX12_pledges 172 = .ok (.iaload, 1) := by decide +kernel
theorem dX12_pledges_173 : decode cX12_pledges 173 = .ok (.iastore, 1) := by decide +kernel
theorem dX12_pledges_174 : decode cX12_pledges 174 = .ok (.aload_n 0, 1) := by decide +kernel
theorem dX12_pledges_175 : decode cX12_pledges 175 = .ok (.getfield 13, 3) := by decide +kernel
theorem dX12_pledges_178 : decode cX12_pledges 178 = .ok (.sipush 1130, 3) := by decide +kernel
theorem dX12_pledges_181 : decode cX12_pledges 181 = .ok (.iload 8, 2) := by decide +kernel
theorem dX12_pledges_183 : decode cX12_pledges 183 = .ok (.iadd, 1) := by decide +kernel
theorem dX12_pledges_184 : decode cX12_pledges 184 = .ok (.aload_n 0, 1) := by decide +kernel
theorem dX12_pledges_185 : decode cX12_pledges 185 = .ok (.getfield 13, 3) := by decide +kernel
theorem dX12_pledges_188 : decode cX12_pledges 188 = .ok (.sipush 708, 3) := by decide +kernel
theorem dX12_pledges_191 : decode cX12_pledges 191 = .ok (.iaload, 1) := by decide +kernel
theorem dX12_pledges_192 : decode cX12_pledges 192 = .ok (.iastore, 1) := by decide +kernel
theorem dX12_pledges_193 : decode cX12_pledges 193 = .ok (.aload_n 0, 1) := by decide +kernel
theorem dX12_pledges_194 : decode cX12_pledges 194 = .ok (.getfield 13, 3) := by decide +kernel
theorem dX12_pledges_197 : decode cX12_pledges 197 = .ok (.sipush 950, 3) := by decide +kernel
theorem dX12_pledges_200 : decode cX12_pledges 200 = .ok (.iload 8, 2) := by decide +kernel
theorem dX12_pledges_202 : decode cX12_pledges 202 = .ok (.iadd, 1) := by decide +kernel
theorem dX12_pledges_203 : decode cX12_pledges 203 = .ok (.iconst (-1), 1) := by decide +kernel
theorem dX12_pledges_204 : decode cX12_pledges 204 = .ok (.iastore, 1) := by decide +kernel
theorem dX12_pledges_205 : decode cX12_pledges 205 = .ok (.aload_n 0, 1) := by decide +kernel
theorem dX12_pledges_206 : decode cX12_pledges 206 = .ok (.getfield 13, 3) := by decide +kernel
theorem dX12_pledges_209 : decode cX12_pledges 209 = .ok (.sipush 1010, 3) := by decide +kernel
theorem dX12_pledges_212 : decode cX12_pledges 212 = .ok (.iload 8, 2) := by decide +kernel
theorem dX12_pledges_214 : decode cX12_pledges 214 = .ok (.iadd, 1) := by decide +kernel
theorem dX12_pledges_215 : decode cX12_pledges 215 = .ok (.iconst 0, 1) := by decide +kernel
theorem dX12_pledges_216 : decode cX12_pledges 216 = .ok (.iastore, 1) := by decide +kernel
theorem dX12_pledges_217 : decode cX12_pledges 217 = .ok (.aload_n 0, 1) := by decide +kernel
theorem dX12_pledges_218 : decode cX12_pledges 218 = .ok (.getfield 13, 3) := by decide +kernel
theorem dX12_pledges_221 : decode cX12_pledges 221 = .ok (.sipush 1070, 3) := by decide +kernel
theorem dX12_pledges_224 : decode cX12_pledges 224 = .ok (.iload 8, 2) := by decide +kernel
theorem dX12_pledges_226 : decode cX12_pledges 226 = .ok (.iadd, 1) := by decide +kernel
theorem dX12_pledges_227 : decode cX12_pledges 227 = .ok (.iconst 0, 1) := by decide +kernel
theorem dX12_pledges_228 : decode cX12_pledges 228 = .ok (.iastore, 1) := by decide +kernel
theorem dX12_pledges_229 : decode cX12_pledges 229 = .ok (.aload_n 0, 1) := by decide +kernel
theorem dX12_pledges_230 : decode cX12_pledges 230 = .ok (.getfield 13, 3) := by decide +kernel
theorem dX12_pledges_233 : decode cX12_pledges 233 = .ok (.sipush 1190, 3) := by decide +kernel
theorem dX12_pledges_236 : decode cX12_pledges 236 = .ok (.iload 8, 2) := by decide +kernel
theorem dX12_pledges_238 : decode cX12_pledges 238 = .ok (.iadd, 1) := by decide +kernel
theorem dX12_pledges_239 : decode cX12_pledges 239 = .ok (.iconst (-1), 1) := by decide +kernel
theorem dX12_pledges_240 : decode cX12_pledges 240 = .ok (.iastore, 1) := by decide +kernel
theorem dX12_pledges_241 : decode cX12_pledges 241 = .ok (.aload_n 0, 1) := by decide +kernel
theorem dX12_pledges_242 : decode cX12_pledges 242 = .ok (.getfield 13, 3) := by decide +kernel
theorem dX12_pledges_245 : decode cX12_pledges 245 = .ok (.sipush 1250, 3) := by decide +kernel
theorem dX12_pledges_248 : decode cX12_pledges 248 = .ok (.iload 8, 2) := by decide +kernel
theorem dX12_pledges_250 : decode cX12_pledges 250 = .ok (.iadd, 1) := by decide +kernel
theorem dX12_pledges_251 : decode cX12_pledges 251 = .ok (.iconst 0, 1) := by decide +kernel
theorem dX12_pledges_252 : decode cX12_pledges 252 = .ok (.iastore, 1) := by decide +kernel
theorem dX12_pledges_253 : decode cX12_pledges 253 = .ok (.aload_n 0, 1) := by decide +kernel
theorem dX12_pledges_254 : decode cX12_pledges 254 = .ok (.getfield 13, 3) := by decide +kernel
theorem dX12_pledges_257 : decode cX12_pledges 257 = .ok (.sipush 3775, 3) := by decide +kernel
theorem dX12_pledges_260 : decode cX12_pledges 260 = .ok (.iload 8, 2) := by decide +kernel
theorem dX12_pledges_262 : decode cX12_pledges 262 = .ok (.iadd, 1) := by decide +kernel
theorem dX12_pledges_263 : decode cX12_pledges 263 = .ok (.iconst 0, 1) := by decide +kernel
theorem dX12_pledges_264 : decode cX12_pledges 264 = .ok (.iastore, 1) := by decide +kernel
theorem dX12_pledges_265 : decode cX12_pledges 265 = .ok (.aload_n 0, 1) := by decide +kernel
theorem dX12_pledges_266 : decode cX12_pledges 266 = .ok (.getfield 13, 3) := by decide +kernel
theorem dX12_pledges_269 : decode cX12_pledges 269 = .ok (.sipush 3835, 3) := by decide +kernel
theorem dX12_pledges_272 : decode cX12_pledges 272 = .ok (.iload 8, 2) := by decide +kernel
theorem dX12_pledges_274 : decode cX12_pledges 274 = .ok (.iadd, 1) := by decide +kernel
theorem dX12_pledges_275 : decode cX12_pledges 275 = .ok (.iconst 0, 1) := by decide +kernel
theorem dX12_pledges_276 : decode cX12_pledges 276 = .ok (.iastore, 1) := by decide +kernel
theorem dX12_pledges_277 : decode cX12_pledges 277 = .ok (.aload_n 0, 1) := by decide +kernel
theorem dX12_pledges_278 : decode cX12_pledges 278 = .ok (.getfield 13, 3) := by decide +kernel
theorem dX12_pledges_281 : decode cX12_pledges 281 = .ok (.sipush 709, 3) := by decide +kernel
theorem dX12_pledges_284 : decode cX12_pledges 284 = .ok (.dup2, 1) := by decide +kernel
theorem dX12_pledges_285 : decode cX12_pledges 285 = .ok (.iaload, 1) := by decide +kernel
theorem dX12_pledges_286 : decode cX12_pledges 286 = .ok (.iconst 1, 1) := by decide +kernel
theorem dX12_pledges_287 : decode cX12_pledges 287 = .ok (.iadd, 1) := by decide +kernel
theorem dX12_pledges_288 : decode cX12_pledges 288 = .ok (.iastore, 1) := by decide +kernel
theorem dX12_pledges_289 : decode cX12_pledges 289 = .ok (.aload_n 0, 1) := by decide +kernel
theorem dX12_pledges_290 : decode cX12_pledges 290 = .ok (.getfield 13, 3) := by decide +kernel
theorem dX12_pledges_293 : decode cX12_pledges 293 = .ok (.sipush 692, 3) := by decide +kernel
theorem dX12_pledges_296 : decode cX12_pledges 296 = .ok (.lload_n 3, 1) := by decide +kernel
theorem dX12_pledges_297 : decode cX12_pledges 297 = .ok (.l2i, 1) := by decide +kernel
theorem dX12_pledges_298 : decode cX12_pledges 298 = .ok (.iadd, 1) := by decide +kernel
theorem dX12_pledges_299 : decode cX12_pledges 299 = .ok (.dup2, 1) := by decide +kernel
theorem dX12_pledges_300 : decode cX12_pledges 300 = .ok (.iaload, 1) := by decide +kernel
theorem dX12_pledges_301 : decode cX12_pledges 301 = .ok (.iconst 2, 1) := by decide +kernel
theorem dX12_pledges_302 : decode cX12_pledges 302 = .ok (.iload 7, 2) := by decide +kernel
theorem dX12_pledges_304 : decode cX12_pledges 304 = .ok (.imul, 1) := by decide +kernel
theorem dX12_pledges_305 : decode cX12_pledges 305 = .ok (.aload_n 0, 1) := by decide +kernel
theorem dX12_pledges_306 : decode cX12_pledges 306 = .ok (.getfield 13, 3) := by decide +kernel
theorem dX12_pledges_309 : decode cX12_pledges 309 = .ok (.bipush 26, 2) := by decide +kernel
theorem dX12_pledges_311 : decode cX12_pledges 311 = .ok (.iaload, 1) := by decide +kernel
theorem dX12_pledges_312 : decode cX12_pledges 312 = .ok (.isub, 1) := by decide +kernel
theorem dX12_pledges_313 : decode cX12_pledges 313 = .ok (.iadd, 1) := by decide +kernel
theorem dX12_pledges_314 : decode cX12_pledges 314 = .ok (.iastore, 1) := by decide +kernel
theorem dX12_pledges_315 : decode cX12_pledges 315 = .ok (.aload_n 0, 1) := by decide +kernel
theorem dX12_pledges_316 : decode cX12_pledges 316 = .ok (.getfield 13, 3) := by decide +kernel
theorem dX12_pledges_319 : decode cX12_pledges 319 = .ok (.sipush 1782, 3) := by decide +kernel
theorem dX12_pledges_322 : decode cX12_pledges 322 = .ok (.aload_n 0, 1) := by decide +kernel
theorem dX12_pledges_323 : decode cX12_pledges 323 = .ok (.getfield 13, 3) := by decide +kernel
theorem dX12_pledges_326 : decode cX12_pledges 326 = .ok (.sipush 708, 3) := by decide +kernel
theorem dX12_pledges_329 : decode cX12_pledges 329 = .ok (.iaload, 1) := by decide +kernel
theorem dX12_pledges_330 : decode cX12_pledges 330 = .ok (.iadd, 1) := by decide +kernel
theorem dX12_pledges_331 : decode cX12_pledges 331 = .ok (.dup2, 1) := by decide +kernel
theorem dX12_pledges_332 : decode cX12_pledges 332 = .ok (.iaload, 1) := by decide +kernel
theorem dX12_pledges_333 : decode cX12_pledges 333 = .ok (.iconst 2, 1) := by decide +kernel
theorem dX12_pledges_334 : decode cX12_pledges 334 = .ok (.iload 7, 2) := by decide +kernel
theorem dX12_pledges_336 : decode cX12_pledges 336 = .ok (.imul, 1) := by decide +kernel
theorem dX12_pledges_337 : decode cX12_pledges 337 = .ok (.iadd, 1) := by decide +kernel
theorem dX12_pledges_338 : decode cX12_pledges 338 = .ok (.iastore, 1) := by decide +kernel
theorem dX12_pledges_339 : decode cX12_pledges 339 = .ok (.aload_n 0, 1) := by decide +kernel
theorem dX12_pledges_340 : decode cX12_pledges 340 = .ok (.getfield 13, 3) := by decide +kernel
theorem dX12_pledges_343 : decode cX12_pledges 343 = .ok (.sipush 2384, 3) := by decide +kernel
theorem dX12_pledges_346 : decode cX12_pledges 346 = .ok (.aload_n 0, 1) := by decide +kernel
theorem dX12_pledges_347 : decode cX12_pledges 347 = .ok (.getfield 13, 3) := by decide +kernel
theorem dX12_pledges_350 : decode cX12_pledges 350 = .ok (.sipush 708, 3) := by decide +kernel
theorem dX12_pledges_353 : decode cX12_pledges 353 = .ok (.iaload, 1) := by decide +kernel
theorem dX12_pledges_354 : decode cX12_pledges 354 = .ok (.iadd, 1) := by decide +kernel
theorem dX12_pledges_355 : decode cX12_pledges 355 = .ok (.dup2, 1) := by decide +kernel
theorem dX12_pledges_356 : decode cX12_pledges 356 = .ok (.iaload, 1) := by decide +kernel
theorem dX12_pledges_357 : decode cX12_pledges 357 = .ok (.iconst 1, 1) := by decide +kernel
theorem dX12_pledges_358 : decode cX12_pledges 358 = .ok (.iadd, 1) := by decide +kernel
theorem dX12_pledges_359 : decode cX12_pledges 359 = .ok (.iastore, 1) := by decide +kernel
theorem dX12_pledges_360 : decode cX12_pledges 360 = .ok (.aload_n 0, 1) := by decide +kernel
theorem dX12_pledges_361 : decode cX12_pledges 361 = .ok (.iload 8, 2) := by decide +kernel
theorem dX12_pledges_363 : decode cX12_pledges 363 = .ok (.lload_n 3, 1) := by decide +kernel
theorem dX12_pledges_364 : decode cX12_pledges 364 = .ok (.l2i, 1) := by decide +kernel
theorem dX12_pledges_365 : decode cX12_pledges 365 = .ok (.invokevirtual 224, 3) := by decide +kernel
theorem dX12_pledges_368 : decode cX12_pledges 368 = .ok (.ireturn, 1) := by decide +kernel
theorem dX12_pledge_0 : decode cX12_pledge 0 = .ok (.aload_n 0, 1) := by decide +kernel
theorem dX12_pledge_1 : decode cX12_pledge 1 = .ok (.iconst 0, 1) := by decide +kernel
theorem dX12_pledge_2 : decode cX12_pledge 2 = .ok (.putfield 1, 3) := by decide +kernel
theorem dX12_pledge_5 : decode cX12_pledge 5 = .ok (.aload_n 0, 1) := by decide +kernel
theorem dX12_pledge_6 : decode cX12_pledge 6 = .ok (.iload_n 1, 1) := by decide +kernel
theorem dX12_pledge_7 : decode cX12_pledge 7 = .ok (.i2l, 1) := by decide +kernel
theorem dX12_pledge_8 : decode cX12_pledge 8 = .ok (.iload_n 2, 1) := by decide +kernel
theorem dX12_pledge_9 : decode cX12_pledge 9 = .ok (.i2l, 1) := by decide +kernel
theorem dX12_pledge_10 : decode cX12_pledge 10 = .ok (.iload_n 3, 1) := by decide +kernel
theorem dX12_pledge_11 : decode cX12_pledge 11 = .ok (.i2l, 1) := by decide +kernel
theorem dX12_pledge_12 : decode cX12_pledge 12 = .ok (.invokevirtual 227, 3) := by decide +kernel
theorem dX12_pledge_15 : decode cX12_pledge 15 = .ok (.ireturn, 1) := by decide +kernel
theorem dX12_stateOf_0 : decode cX12_stateOf 0 = .ok (.iload_n 1, 1) := by decide +kernel
theorem dX12_stateOf_1 : decode cX12_stateOf 1 = .ok (.bipush 100, 2) := by decide +kernel
theorem dX12_stateOf_3 : decode cX12_stateOf 3 = .ok (.idiv, 1) := by decide +kernel
theorem dX12_stateOf_4 : decode cX12_stateOf 4 = .ok (.istore_n 2, 1) := by decide +kernel
theorem dX12_stateOf_5 : decode cX12_stateOf 5 = .ok (.iload_n 1, 1) := by decide +kernel
theorem dX12_stateOf_6 : decode cX12_stateOf 6 = .ok (.bipush 100, 2) := by decide +kernel
theorem dX12_stateOf_8 : decode cX12_stateOf 8 = .ok (.if_icmp .lt 26, 3) := by decide +kernel
theorem dX12_stateOf_11 : decode cX12_stateOf 11 = .ok (.iload_n 1, 1) := by decide +kernel
theorem dX12_stateOf_12 : decode cX12_stateOf 12 = .ok (.bipush 100, 2) := by decide +kernel
theorem dX12_stateOf_14 : decode cX12_stateOf 14 = .ok (.irem, 1) := by decide +kernel
theorem dX12_stateOf_15 : decode cX12_stateOf 15 = .ok (.i2l, 1) := by decide +kernel
theorem dX12_stateOf_16 : decode cX12_stateOf 16 = .ok (.ldc2_w 231, 3) := by decide +kernel
theorem dX12_stateOf_19 : decode cX12_stateOf 19 = .ok (.iload_n 2, 1) := by decide +kernel
theorem dX12_stateOf_20 : decode cX12_stateOf 20 = .ok (.i2l, 1) := by decide +kernel
theorem dX12_stateOf_21 : decode cX12_stateOf 21 = .ok (.lmul, 1) := by decide +kernel
theorem dX12_stateOf_22 : decode cX12_stateOf 22 = .ok (.ldc2_w 233, 3) := by decide +kernel
theorem dX12_stateOf_25 : decode cX12_stateOf 25 = .ok (.ladd, 1) := by decide +kernel
theorem dX12_stateOf_26 : decode cX12_stateOf 26 = .ok (.ldc2_w 235, 3) := by decide +kernel
theorem dX12_stateOf_29 : decode cX12_stateOf 29 = .ok (.lrem, 1) := by decide +kernel
theorem dX12_stateOf_30 : decode cX12_stateOf 30 = .ok (.lcmp, 1) := by decide +kernel
theorem dX12_stateOf_31 : decode cX12_stateOf 31 = .ok (.ifCond .eq 5, 3) := by decide +kernel
theorem dX12_stateOf_34 : decode cX12_stateOf 34 = .ok (.iconst 2, 1) := by decide +kernel
theorem dX12_stateOf_35 : decode cX12_stateOf 35 = .ok (.ireturn, 1) := by decide +kernel
theorem dX12_stateOf_36 : decode cX12_stateOf 36 = .ok (.iload_n 2, 1) := by decide +kernel
theorem dX12_stateOf_37 : decode cX12_stateOf 37 = .ok (.aload_n 0, 1) := by decide +kernel
theorem dX12_stateOf_38 : decode cX12_stateOf 38 = .ok (.getfield 13, 3) := by decide +kernel
theorem dX12_stateOf_41 : decode cX12_stateOf 41 = .ok (.sipush 1310, 3) := by decide +kernel
theorem dX12_stateOf_44 : decode cX12_stateOf 44 = .ok (.iaload, 1) := by decide +kernel
theorem dX12_stateOf_45 : decode cX12_stateOf 45 = .ok (.if_icmp .le 5, 3) := by decide +kernel
theorem dX12_stateOf_48 : decode cX12_stateOf 48 = .ok (.iconst 3, 1) := by decide +kernel
theorem dX12_stateOf_49 : decode cX12_stateOf 49 = .ok (.ireturn, 1) := by decide +kernel
theorem dX12_stateOf_50 : decode cX12_stateOf 50 = .ok (.iconst 1, 1) := by decide +kernel
theorem dX12_stateOf_51 : decode cX12_stateOf 51 = .ok (.aload_n 0, 1) := by decide +kernel
theorem dX12_stateOf_52 : decode cX12_stateOf 52 = .ok (.getfield 13, 3) := by decide +kernel
theorem dX12_stateOf_55 : decode cX12_stateOf 55 = .ok (.sipush 1611, 3) := by decide +kernel
theorem dX12_stateOf_58 : decode cX12_stateOf 58 = .ok (.iload_n 2, 1) := by decide +kernel
theorem dX12_stateOf_59 : decode cX12_stateOf 59 = .ok (.iadd, 1) := by decide +kernel
theorem dX12_stateOf_60 : decode cX12_stateOf 60 = .ok (.iconst 1, 1) := by decide +kernel
theorem dX12_stateOf_61 : decode cX12_stateOf 61 = .ok (.isub, 1) := by decide +kernel
theorem dX12_stateOf_62 : decode cX12_stateOf 62 = .ok (.iaload, 1) := by decide +kernel
theorem dX12_stateOf_63 : decode cX12_stateOf 63 = .ok (.isub, 1) := by decide +kernel
theorem dX12_stateOf_64 : decode cX12_stateOf 64 = .ok (.ireturn, 1) := by decide +kernel
theorem dX12_ticket_0 : decode cX12_ticket 0 = .ok (.aload_n 0, 1) := by decide +kernel
theorem dX12_ticket_1 : decode cX12_ticket 1 = .ok (.iconst 0, 1) := by decide +kernel
theorem dX12_ticket_2 : decode cX12_ticket 2 = .ok (.putfield 1, 3) := by decide +kernel
theorem dX12_ticket_5 : decode cX12_ticket 5 = .ok (.aload_n 0, 1) := by decide +kernel
theorem dX12_ticket_6 : decode cX12_ticket 6 = .ok (.iload_n 1, 1) := by decide +kernel
theorem dX12_ticket_7 : decode cX12_ticket 7 = .ok (.invokevirtual 237, 3) := by decide +kernel
theorem dX12_ticket_10 : decode cX12_ticket 10 = .ok (.ireturn, 1) := by decide +kernel
theorem dX12_interestOf_0 : decode cX12_interestOf 0 = .ok (.aload_n 0, 1) := by decide +kernel
theorem dX12_interestOf_1 : decode cX12_interestOf 1 = .ok (.iconst 0, 1) := by decide +kernel
theorem dX12_interestOf_2 : decode cX12_interestOf 2 = .ok (.aload_n 0, 1) := by decide +kernel
theorem dX12_interestOf_3 : decode cX12_interestOf 3 = .ok (.getfield 13, 3) := by decide +kernel
theorem dX12_interestOf_6 : decode cX12_interestOf 6 = .ok (.sipush 830, 3) := by decide +kernel
theorem dX12_interestOf_9 : decode cX12_interestOf 9 = .ok (.iload_n 1, 1) := by decide +kernel
theorem dX12_interestOf_10 : decode cX12_interestOf 10 = .ok (.iadd, 1) := by decide +kernel
theorem dX12_interestOf_11 : decode cX12_interestOf 11 = .ok (.iaload, 1) := by decide +kernel
theorem dX12_interestOf_12 : decode cX12_interestOf 12 = .ok (.aload_n 0, 1) := by decide +kernel
theorem dX12_interestOf_13 : decode cX12_interestOf 13 = .ok (.getfield 13, 3) := by decide +kernel
theorem dX12_interestOf_16 : decode cX12_interestOf 16 = .ok (.sipush 708, 3) := by decide +kernel
theorem dX12_interestOf_19 : decode cX12_interestOf 19 = .ok (.iaload, 1) := by decide +kernel
theorem dX12_interestOf_20 : decode cX12_interestOf 20 = .ok (.aload_n 0, 1) := by decide +kernel
theorem dX12_interestOf_21 : decode cX12_interestOf 21 = .ok (.getfield 13, 3) := by decide +kernel
theorem dX12_interestOf_24 : decode cX12_interestOf 24 = .ok (.sipush 890, 3) := by decide +kernel
theorem dX12_interestOf_27 : decode cX12_interestOf 27 = .ok (.iload_n 1, 1) := by decide +kernel
theorem dX12_interestOf_28 : decode cX12_interestOf 28 = .ok (.iadd, 1) := by decide +kernel
theorem dX12_interestOf_29 : decode cX12_interestOf 29 = .ok (.iaload, 1) := by decide +kernel
theorem dX12_interestOf_30 : decode cX12_interestOf 30 = .ok (.isub, 1) := by decide +kernel
theorem dX12_interestOf_31 : decode cX12_interestOf 31 = .ok (.invokestatic 202, 3) := by decide +kernel
theorem dX12_interestOf_34 : decode cX12_interestOf 34 = .ok (.invokevirtual 205, 3) := by decide +kernel
theorem dX12_interestOf_37 : decode cX12_interestOf 37 = .ok (.istore_n 2, 1) := by decide +kernel
theorem dX12_interestOf_38 : decode cX12_interestOf 38 = .ok (.iload_n 2, 1) := by decide +kernel
theorem dX12_interestOf_39 : decode cX12_interestOf 39 = .ok (.iconst (-1), 1) := by decide +kernel
theorem dX12_interestOf_40 : decode cX12_interestOf 40 = .ok (.if_icmp .ne 13, 3) := by decide +kernel
theorem dX12_interestOf_43 : decode cX12_interestOf 43 = .ok (.aload_n 0, 1) := by decide +kernel
theorem dX12_interestOf_44 : decode cX12_interestOf 44 = .ok (.getfield 13, 3) := by decide +kernel
theorem dX12_interestOf_47 : decode cX12_interestOf 47 = .ok (.bipush 25, 2) := by decide +kernel
theorem dX12_interestOf_49 : decode cX12_interestOf 49 = .ok (.iaload, 1) := by decide +kernel
theorem dX12_interestOf_50 : decode cX12_interestOf 50 = .ok (.goto 4, 3) := by decide +kernel
theorem dX12_interestOf_53 : decode cX12_interestOf 53 = .ok (.iload_n 2, 1) := by decide +kernel
theorem dX12_interestOf_54 : decode cX12_interestOf 54 = .ok (.ireturn, 1) := by decide +kernel
theorem dX12_dueOf_0 : decode cX12_dueOf 0 = .ok (.iconst 2, 1) := by decide +kernel
theorem dX12_dueOf_1 : decode cX12_dueOf 1 = .ok (.aload_n 0, 1) := by decide +kernel
theorem dX12_dueOf_2 : decode cX12_dueOf 2 = .ok (.getfield 13, 3) := by decide +kernel
theorem dX12_dueOf_5 : decode cX12_dueOf 5 = .ok (.sipush 830, 3) := by decide +kernel
theorem dX12_dueOf_8 : decode cX12_dueOf 8 = .ok (.iload_n 1, 1) := by decide +kernel
theorem dX12_dueOf_9 : decode cX12_dueOf 9 = .ok (.iadd, 1) := by decide +kernel
theorem dX12_dueOf_10 : decode cX12_dueOf 10 = .ok (.iaload, 1) := by decide +kernel
theorem dX12_dueOf_11 : decode cX12_dueOf 11 = .ok (.imul, 1) := by decide +kernel
theorem dX12_dueOf_12 : decode cX12_dueOf 12 = .ok (.aload_n 0, 1) := by decide +kernel
theorem dX12_dueOf_13 : decode cX12_dueOf 13 = .ok (.iload_n 1, 1) := by decide +kernel
theorem dX12_dueOf_14 : decode cX12_dueOf 14 = .ok (.invokevirtual 240, 3) := by decide +kernel
theorem dX12_dueOf_17 : decode cX12_dueOf 17 = .ok (.iadd, 1) := by decide +kernel
theorem dX12_dueOf_18 : decode cX12_dueOf 18 = .ok (.ireturn, 1) := by decide +kernel
theorem dX12_held_0 : decode cX12_held 0 = .ok (.aload_n 0, 1) := by decide +kernel
theorem dX12_held_1 : decode cX12_held 1 = .ok (.iconst 0, 1) := by decide +kernel
theorem dX12_held_2 : decode cX12_held 2 = .ok (.putfield 1, 3) := by decide +kernel
theorem dX12_held_5 : decode cX12_held 5 = .ok (.iload_n 2, 1) := by decide +kernel
theorem dX12_held_6 : decode cX12_held 6 = .ok (.i2l, 1) := by decide +kernel
theorem dX12_held_7 : decode cX12_held 7 = .ok (.lconst 0, 1) := by decide +kernel
theorem dX12_held_8 : decode cX12_held 8 = .ok (.ldc2_w 243, 3) := by decide +kernel
theorem dX12_held_11 : decode cX12_held 11 = .ok (.invokestatic 142, 3) := by decide +kernel
theorem dX12_held_14 : decode cX12_held 14 = .ok (.ifCond .eq 11, 3) := by decide +kernel
theorem dX12_held_17 : decode cX12_held 17 = .ok (.aload_n 0, 1) := by decide +kernel
theorem dX12_held_18 : decode cX12_held 18 = .ok (.iload_n 1, 1) := by decide +kernel
theorem dX12_held_19 : decode cX12_held 19 = .ok (.invokevirtual 237, 3) := by decide +kernel
theorem dX12_held_22 : decode cX12_held 22 = .ok (.ifCond .eq 6, 3) := by decide +kernel
theorem dX12_held_25 : decode cX12_held 25 = .ok (.bipush (-2), 2) := by decide +kernel
theorem dX12_held_27 : decode cX12_held 27 = .ok (.ireturn, 1) := by decide +kernel
theorem dX12_held_28 : decode cX12_held 28 = .ok (.iload_n 1, 1) := by decide +kernel
theorem dX12_held_29 : decode cX12_held 29 = .ok (.bipush 100, 2) := by decide +kernel
theorem dX12_held_31 : decode cX12_held 31 = .ok (.idiv, 1) := by decide +kernel
theorem dX12_held_32 : decode cX12_held 32 = .ok (.iconst 1, 1) := by decide +kernel
theorem dX12_held_33 : decode cX12_held 33 = .ok (.isub, 1) := by decide +kernel
theorem dX12_held_34 : decode cX12_held 34 = .ok (.istore_n 3, 1) := by decide +kernel
theorem dX12_held_35 : decode cX12_held 35 = .ok (.iload_n 2, 1) := by decide +kernel
theorem dX12_held_36 : decode cX12_held 36 = .ok (.ifCond .ne 16, 3) := by decide +kernel
theorem dX12_held_39 : decode cX12_held 39 = .ok (.aload_n 0, 1) := by decide +kernel
theorem dX12_held_40 : decode cX12_held 40 = .ok (.getfield 13, 3) := by decide +kernel
theorem dX12_held_43 : decode cX12_held 43 = .ok (.sipush 1311, 3) := by decide +kernel
theorem dX12_held_46 : decode cX12_held 46 = .ok (.iload_n 3, 1) := by decide +kernel
theorem dX12_held_47 : decode cX12_held 47 = .ok (.iadd, 1) := by decide +kernel
theorem dX12_held_48 : decode cX12_held 48 = .ok (.iaload, 1) := by decide +kernel
theorem dX12_held_49 : decode cX12_held 49 = .ok (.goto 35, 3) := by decide +kernel
theorem dX12_held_52 : decode cX12_held 52 = .ok (.iload_n 2, 1) := by decide +kernel
theorem dX12_held_53 : decode cX12_held 53 = .ok (.iconst 1, 1) := by decide +kernel
theorem dX12_held_54 : decode cX12_held 54 = .ok (.if_icmp .ne 16, 3) := by decide +kernel
theorem dX12_held_57 : decode cX12_held 57 = .ok (.aload_n 0, 1) := by decide +kernel
theorem dX12_held_58 : decode cX12_held 58 = .ok (.getfield 13, 3) := by decide +kernel
theorem dX12_held_61 : decode cX12_held 61 = .ok (.sipush 1461, 3) := by decide +kernel
theorem dX12_held_64 : decode cX12_held 64 = .ok (.iload_n 3, 1) := by decide +kernel
theorem dX12_held_65 : decode cX12_held 65 = .ok (.iadd, 1) := by decide +kernel
theorem dX12_held_66 : decode cX12_held 66 = .ok (.iaload, 1) := by decide +kernel
theorem dX12_held_67 : decode cX12_held 67 = .ok (.goto 17, 3) := by decide +kernel
theorem dX12_held_70 : decode cX12_held 70 = .ok (.aload_n 0, 1) := by decide +kernel
theorem dX12_held_71 : decode cX12_held 71 = .ok (.aload_n 0, 1) := by decide +kernel
theorem dX12_held_72 : decode cX12_held 72 = .ok (.getfield 13, 3) := by decide +kernel
theorem dX12_held_75 : decode cX12_held 75 = .ok (.sipush 1311, 3) := by decide +kernel
theorem dX12_held_78 : decode cX12_held 78 = .ok (.iload_n 3, 1) := by decide +kernel
theorem dX12_held_79 : decode cX12_held 79 = .ok (.iadd, 1) := by decide +kernel
theorem dX12_held_80 : decode cX12_held 80 = .ok (.iaload, 1) := by decide +kernel
theorem dX12_held_81 : decode cX12_held 81 = .ok (.invokevirtual 245, 3) := by decide +kernel
theorem dX12_held_84 : decode cX12_held 84 = .ok (.ireturn, 1) := by decide +kernel
theorem dX12_isHeld_0 : decode cX12_isHeld 0 = .ok (.aload_n 0, 1) := by decide +kernel
theorem dX12_isHeld_1 : decode cX12_isHeld 1 = .ok (.getfield 13, 3) := by decide +kernel
theorem dX12_isHeld_4 : decode cX12_isHeld 4 = .ok (.sipush 708, 3) := by decide +kernel
theorem dX12_isHeld_7 : decode cX12_isHeld 7 = .ok (.iaload, 1) := by decide +kernel
theorem dX12_isHeld_8 : decode cX12_isHeld 8 = .ok (.aload_n 0, 1) := by decide +kernel
theorem dX12_isHeld_9 : decode cX12_isHeld 9 = .ok (.getfield 13, 3) := by decide +kernel
theorem dX12_isHeld_12 : decode cX12_isHeld 12 = .ok (.sipush 1070, 3) := by decide +kernel
theorem dX12_isHeld_15 : decode cX12_isHeld 15 = .ok (.iload_n 1, 1) := by decide +kernel
theorem dX12_isHeld_16 : decode cX12_isHeld 16 = .ok (.iadd, 1) := by decide +kernel
theorem dX12_isHeld_17 : decode cX12_isHeld 17 = .ok (.iaload, 1) := by decide +kernel
theorem dX12_isHeld_18 : decode cX12_isHeld 18 = .ok (.if_icmp .ge 7, 3) := by decide +kernel
theorem dX12_isHeld_21 : decode cX12_isHeld 21 = .ok (.iconst 1, 1) := by decide +kernel
theorem dX12_isHeld_22 : decode cX12_isHeld 22 = .ok (.goto 4, 3) := by decide +kernel
theorem dX12_isHeld_25 : decode cX12_isHeld 25 = .ok (.iconst 0, 1) := by decide +kernel
theorem dX12_isHeld_26 : decode cX12_isHeld 26 = .ok (.ireturn, 1) := by decide +kernel
theorem dX12_kills_0 : decode cX12_kills 0 = .ok (.iconst 0, 1) := by decide +kernel
theorem dX12_kills_1 : decode cX12_kills 1 = .ok (.istore_n 2, 1) := by decide +kernel
theorem dX12_kills_2 : decode cX12_kills 2 = .ok (.iload_n 2, 1) := by decide +kernel
theorem dX12_kills_3 : decode cX12_kills 3 = .ok (.aload_n 0, 1) := by decide +kernel
theorem dX12_kills_4 : decode cX12_kills 4 = .ok (.getfield 13, 3) := by decide +kernel
theorem dX12_kills_7 : decode cX12_kills 7 = .ok (.sipush 1310, 3) := by decide +kernel
theorem dX12_kills_10 : decode cX12_kills 10 = .ok (.iaload, 1) := by decide +kernel
theorem dX12_kills_11 : decode cX12_kills 11 = .ok (.if_icmp .ge 34, 3) := by decide +kernel
theorem dX12_kills_14 : decode cX12_kills 14 = .ok (.aload_n 0, 1) := by decide +kernel
theorem dX12_kills_15 : decode cX12_kills 15 = .ok (.getfield 13, 3) := by decide +kernel
theorem dX12_kills_18 : decode cX12_kills 18 = .ok (.sipush 1311, 3) := by decide +kernel
theorem dX12_kills_21 : decode cX12_kills 21 = .ok (.iload_n 2, 1) := by decide +kernel
theorem dX12_kills_22 : decode cX12_kills 22 = .ok (.iadd, 1) := by decide +kernel
theorem dX12_kills_23 : decode cX12_kills 23 = .ok (.iaload, 1) := by decide +kernel
theorem dX12_kills_24 : decode cX12_kills 24 = .ok (.iload_n 1, 1) := by decide +kernel
theorem dX12_kills_25 : decode cX12_kills 25 = .ok (.if_icmp .ne 14, 3) := by decide +kernel
theorem dX12_kills_28 : decode cX12_kills 28 = .ok (.aload_n 0, 1) := by decide +kernel
theorem dX12_kills_29 : decode cX12_kills 29 = .ok (.getfield 13, 3) := by decide +kernel
theorem dX12_kills_32 : decode cX12_kills 32 = .ok (.sipush 1611, 3) := by decide +kernel
theorem dX12_kills_35 : decode cX12_kills 35 = .ok (.iload_n 2, 1) := by decide +kernel
theorem dX12_kills_36 : decode cX12_kills 36 = .ok (.iadd, 1) := by decide +kernel
theorem dX12_kills_37 : decode cX12_kills 37 = .ok (.iconst 0, 1) := by decide +kernel
theorem dX12_kills_38 : decode cX12_kills 38 = .ok (.iastore, 1) := by decide +kernel
theorem dX12_kills_39 : decode cX12_kills 39 = .ok (.iinc 2 1, 3) := by decide +kernel
theorem dX12_kills_42 : decode cX12_kills 42 = .ok (.goto (-40), 3) := by decide +kernel
theorem dX12_kills_45 : decode cX12_kills 45 = .ok (.return_, 1) := by decide +kernel
theorem dX12_leaves_0 : decode cX12_leaves 0 = .ok (.aload_n 0, 1) := by decide +kernel
theorem dX12_leaves_1 : decode cX12_leaves 1 = .ok (.getfield 13, 3) := by decide +kernel
theorem dX12_leaves_4 : decode cX12_leaves 4 = .ok (.sipush 1010, 3) := by decide +kernel
theorem dX12_leaves_7 : decode cX12_leaves 7 = .ok (.iload_n 1, 1) := by decide +kernel
theorem dX12_leaves_8 : decode cX12_leaves 8 = .ok (.iadd, 1) := by decide +kernel
theorem dX12_leaves_9 : decode cX12_leaves 9 = .ok (.iload_n 2, 1) := by decide +kernel
theorem dX12_leaves_10 : decode cX12_leaves 10 = .ok (.iastore, 1) := by decide +kernel
theorem dX12_leaves_11 : decode cX12_leaves 11 = .ok (.aload_n 0, 1) := by decide +kernel
theorem dX12_leaves_12 : decode cX12_leaves 12 = .ok (.getfield 13, 3) := by decide +kernel
theorem dX12_leaves_15 : decode cX12_leaves 15 = .ok (.sipush 1190, 3) := by decide +kernel
theorem dX12_leaves_18 : decode cX12_leaves 18 = .ok (.iload_n 1, 1) := by decide +kernel
theorem dX12_leaves_19 : decode cX12_leaves 19 = .ok (.iadd, 1) := by decide +kernel
theorem dX12_leaves_20 : decode cX12_leaves 20 = .ok (.aload_n 0, 1) := by decide +kernel
theorem dX12_leaves_21 : decode cX12_leaves 21 = .ok (.getfield 13, 3) := by decide +kernel
theorem dX12_leaves_24 : decode cX12_leaves 24 = .ok (.sipush 708, 3) := by decide +kernel
theorem dX12_leaves_27 : decode cX12_leaves 27 = .ok (.iaload, 1) := by decide +kernel
theorem dX12_leaves_28 : decode cX12_leaves 28 = .ok (.iastore, 1) := by decide +kernel
theorem dX12_leaves_29 : decode cX12_leaves 29 = .ok (.aload_n 0, 1) := by decide +kernel
theorem dX12_leaves_30 : decode cX12_leaves 30 = .ok (.getfield 13, 3) := by decide +kernel
theorem dX12_leaves_33 : decode cX12_leaves 33 = .ok (.sipush 950, 3) := by decide +kernel
theorem dX12_leaves_36 : decode cX12_leaves 36 = .ok (.iload_n 1, 1) := by decide +kernel
theorem dX12_leaves_37 : decode cX12_leaves 37 = .ok (.iadd, 1) := by decide +kernel
theorem dX12_leaves_38 : decode cX12_leaves 38 = .ok (.iconst (-1), 1) := by decide +kernel
theorem dX12_leaves_39 : decode cX12_leaves 39 = .ok (.iastore, 1) := by decide +kernel
theorem dX12_leaves_40 : decode cX12_leaves 40 = .ok (.aload_n 0, 1) := by decide +kernel
theorem dX12_leaves_41 : decode cX12_leaves 41 = .ok (.iload_n 1, 1) := by decide +kernel
theorem dX12_leaves_42 : decode cX12_leaves 42 = .ok (.invokevirtual 248, 3) := by decide +kernel
theorem dX12_leaves_45 : decode cX12_leaves 45 = .ok (.return_, 1) := by decide +kernel
theorem dX12_fetch_0 : decode cX12_fetch 0 = .ok (.aload_n 0, 1) := by decide +kernel
theorem dX12_fetch_1 : decode cX12_fetch 1 = .ok (.iconst 0, 1) := by decide +kernel
theorem dX12_fetch_2 : decode cX12_fetch 2 = .ok (.putfield 1, 3) := by decide +kernel
theorem dX12_fetch_5 : decode cX12_fetch 5 = .ok (.aload_n 0, 1) := by decide +kernel
theorem dX12_fetch_6 : decode cX12_fetch 6 = .ok (.iload_n 1, 1) := by decide +kernel
theorem dX12_fetch_7 : decode cX12_fetch 7 = .ok (.invokevirtual 237, 3) := by decide +kernel
theorem dX12_fetch_10 : decode cX12_fetch 10 = .ok (.ifCond .eq 6, 3) := by decide +kernel
theorem dX12_fetch_13 : decode cX12_fetch 13 = .ok (.bipush (-2), 2) := by decide +kernel
theorem dX12_fetch_15 : decode cX12_fetch 15 = .ok (.ireturn, 1) := by decide +kernel
theorem dX12_fetch_16 : decode cX12_fetch 16 = .ok (.iload_n 1, 1) := by decide +kernel
theorem dX12_fetch_17 : decode cX12_fetch 17 = .ok (.bipush 100, 2) := by decide +kernel
theorem dX12_fetch_19 : decode cX12_fetch 19 = .ok (.idiv, 1) := by decide +kernel
theorem dX12_fetch_20 : decode cX12_fetch 20 = .ok (.iconst 1, 1) := by decide +kernel
theorem dX12_fetch_21 : decode cX12_fetch 21 = .ok (.isub, 1) := by decide +kernel
theorem dX12_fetch_22 : decode cX12_fetch 22 = .ok (.istore_n 2, 1) := by decide +kernel
theorem dX12_fetch_23 : decode cX12_fetch 23 = .ok (.aload_n 0, 1) := by decide +kernel
theorem dX12_fetch_24 : decode cX12_fetch 24 = .ok (.getfield 13, 3) := by decide +kernel
theorem dX12_fetch_27 : decode cX12_fetch 27 = .ok (.sipush 1311, 3) := by decide +kernel
theorem dX12_fetch_30 : decode cX12_fetch 30 = .ok (.iload_n 2, 1) := by decide +kernel
theorem dX12_fetch_31 : decode cX12_fetch 31 = .ok (.iadd, 1) := by decide +kernel
theorem dX12_fetch_32 : decode cX12_fetch 32 = .ok (.iaload, 1) := by decide +kernel
theorem dX12_fetch_33 : decode cX12_fetch 33 = .ok (.istore_n 3, 1) := by decide +kernel
theorem dX12_fetch_34 : decode cX12_fetch 34 = .ok (.aload_n 0, 1) := by decide +kernel
theorem dX12_fetch_35 : decode cX12_fetch 35 = .ok (.iload_n 3, 1) := by decide +kernel
theorem dX12_fetch_36 : decode cX12_fetch 36 = .ok (.invokevirtual 251, 3) := by decide +kernel
theorem dX12_fetch_39 : decode cX12_fetch 39 = .ok (.ifCond .eq 6, 3) := by decide +kernel
theorem dX12_fetch_42 : decode cX12_fetch 42 = .ok (.bipush (-5), 2) := by decide +kernel
theorem dX12_fetch_44 : decode cX12_fetch 44 = .ok (.ireturn, 1) := by decide +kernel
theorem dX12_fetch_45 : decode cX12_fetch 45 = .ok (.aload_n 0, 1) := by decide +kernel
theorem dX12_fetch_46 : decode cX12_fetch 46 = .ok (.iload_n 3, 1) := by decide +kernel
theorem dX12_fetch_47 : decode cX12_fetch 47 = .ok (.invokevirtual 245, 3) := by decide +kernel
theorem dX12_fetch_50 : decode cX12_fetch 50 = .ok (.istore 4, 2) := by decide +kernel
theorem dX12_fetch_52 : decode cX12_fetch 52 = .ok (.aload_n 0, 1) := by decide +kernel
theorem dX12_fetch_53 : decode cX12_fetch 53 = .ok (.getfield 13, 3) := by decide +kernel
theorem dX12_fetch_56 : decode cX12_fetch 56 = .ok (.sipush 692, 3) := by decide +kernel
theorem dX12_fetch_59 : decode cX12_fetch 59 = .ok (.aload_n 0, 1) := by decide +kernel
theorem dX12_fetch_60 : decode cX12_fetch 60 = .ok (.getfield 13, 3) := by decide +kernel
theorem dX12_fetch_63 : decode cX12_fetch 63 = .ok (.sipush 1461, 3) := by decide +kernel
theorem dX12_fetch_66 : decode cX12_fetch 66 = .ok (.iload_n 2, 1) := by decide +kernel
theorem dX12_fetch_67 : decode cX12_fetch 67 = .ok (.iadd, 1) := by decide +kernel
theorem dX12_fetch_68 : decode cX12_fetch 68 = .ok (.iaload, 1) := by decide +kernel
theorem dX12_fetch_69 : decode cX12_fetch 69 = .ok (.iadd, 1) := by decide +kernel
theorem dX12_fetch_70 : decode cX12_fetch 70 = .ok (.iaload, 1) := by decide +kernel
theorem dX12_fetch_71 : decode cX12_fetch 71 = .ok (.iload 4, 2) := by decide +kernel
theorem dX12_fetch_73 : decode cX12_fetch 73 = .ok (.if_icmp .ge 6, 3) := by decide +kernel
theorem dX12_fetch_76 : decode cX12_fetch 76 = .ok (.bipush (-8), 2) := by decide +kernel
theorem dX12_fetch_78 : decode cX12_fetch 78 = .ok (.ireturn, 1) := by decide +kernel
theorem dX12_fetch_79 : decode cX12_fetch 79 = .ok (.aload_n 0, 1) := by decide +kernel
theorem dX12_fetch_80 : decode cX12_fetch 80 = .ok (.getfield 13, 3) := by decide +kernel
theorem dX12_fetch_83 : decode cX12_fetch 83 = .ok (.sipush 692, 3) := by decide +kernel
theorem dX12_fetch_86 : decode cX12_fetch 86 = .ok (.aload_n 0, 1) := by decide +kernel
theorem dX12_fetch_87 : decode cX12_fetch 87 = .ok (.getfield 13, 3) := by decide +kernel
theorem dX12_fetch_90 : decode cX12_fetch 90 = .ok (.sipush 1461, 3) := by decide +kernel
theorem dX12_fetch_93 : decode cX12_fetch 93 = .ok (.iload_n 2, 1) := by decide +kernel
theorem dX12_fetch_94 : decode cX12_fetch 94 = .ok (.iadd, 1) := by decide +kernel
theorem dX12_fetch_95 : decode cX12_fetch 95 = .ok (.iaload, 1) := by decide +kernel
theorem dX12_fetch_96 : decode cX12_fetch 96 = .ok (.iadd, 1) := by decide +kernel
theorem dX12_fetch_97 : decode cX12_fetch 97 = .ok (.dup2, 1) := by decide +kernel
theorem dX12_fetch_98 : decode cX12_fetch 98 = .ok (.iaload, 1) := by decide +kernel
theorem dX12_fetch_99 : decode cX12_fetch 99 = .ok (.iload 4, 2) := by decide +kernel
theorem dX12_fetch_101 : decode cX12_fetch 101 = .ok (.isub, 1) := by decide +kernel
theorem dX12_fetch_102 : decode cX12_fetch 102 = .ok (.iastore, 1) := by decide +kernel
theorem dX12_fetch_103 : decode cX12_fetch 103 = .ok (.aload_n 0, 1) := by decide +kernel
theorem dX12_fetch_104 : decode cX12_fetch 104 = .ok (.getfield 13, 3) := by decide +kernel
theorem dX12_fetch_107 : decode cX12_fetch 107 = .ok (.sipush 2083, 3) := by decide +kernel
theorem dX12_fetch_110 : decode cX12_fetch 110 = .ok (.aload_n 0, 1) := by decide +kernel
theorem dX12_fetch_111 : decode cX12_fetch 111 = .ok (.getfield 13, 3) := by decide +kernel
theorem dX12_fetch_114 : decode cX12_fetch 114 = .ok (.sipush 708, 3) := by decide +kernel
theorem dX12_fetch_117 : decode cX12_fetch 117 = .ok (.iaload, 1) := by decide +kernel
theorem dX12_fetch_118 : decode cX12_fetch 118 = .ok (.iadd, 1) := by decide +kernel
theorem dX12_fetch_119 : decode cX12_fetch 119 = .ok (.dup2, 1) := by decide +kernel
theorem dX12_fetch_120 : decode cX12_fetch 120 = .ok (.iaload, 1) := by decide +kernel
theorem dX12_fetch_121 : decode cX12_fetch 121 = .ok (.aload_n 0, 1) := by decide +kernel
theorem dX12_fetch_122 : decode cX12_fetch 122 = .ok (.iload_n 3, 1) := by decide +kernel
theorem dX12_fetch_123 : decode cX12_fetch 123 = .ok (.invokevirtual 240, 3) := by decide +kernel
theorem dX12_fetch_126 : decode cX12_fetch 126 = .ok (.iadd, 1) := by decide +kernel
theorem dX12_fetch_127 : decode cX12_fetch 127 = .ok (.iastore, 1) := by decide +kernel
theorem dX12_fetch_128 : decode cX12_fetch 128 = .ok (.aload_n 0, 1) := by decide +kernel
theorem dX12_fetch_129 : decode cX12_fetch 129 = .ok (.getfield 13, 3) := by decide +kernel
theorem dX12_fetch_132 : decode cX12_fetch 132 = .ok (.sipush 2685, 3) := by decide +kernel
theorem dX12_fetch_135 : decode cX12_fetch 135 = .ok (.aload_n 0, 1) := by decide +kernel
theorem dX12_fetch_136 : decode cX12_fetch 136 = .ok (.getfield 13, 3) := by decide +kernel
theorem dX12_fetch_139 : decode cX12_fetch 139 = .ok (.sipush 708, 3) := by decide +kernel
theorem dX12_fetch_142 : decode cX12_fetch 142 = .ok (.iaload, 1) := by decide +kernel
theorem dX12_fetch_143 : decode cX12_fetch 143 = .ok (.iadd, 1) := by decide +kernel
theorem dX12_fetch_144 : decode cX12_fetch 144 = .ok (.dup2, 1) := by decide +kernel
theorem dX12_fetch_145 : decode cX12_fetch 145 = .ok (.iaload, 1) := by decide +kernel
theorem dX12_fetch_146 : decode cX12_fetch 146 = .ok (.iconst 1, 1) := by decide +kernel
theorem dX12_fetch_147 : decode cX12_fetch 147 = .ok (.iadd, 1) := by decide +kernel
theorem dX12_fetch_148 : decode cX12_fetch 148 = .ok (.iastore, 1) := by decide +kernel
theorem dX12_fetch_149 : decode cX12_fetch 149 = .ok (.aload_n 0, 1) := by decide +kernel
theorem dX12_fetch_150 : decode cX12_fetch 150 = .ok (.getfield 13, 3) := by decide +kernel
theorem dX12_fetch_153 : decode cX12_fetch 153 = .ok (.sipush 3287, 3) := by decide +kernel
theorem dX12_fetch_156 : decode cX12_fetch 156 = .ok (.aload_n 0, 1) := by decide +kernel
theorem dX12_fetch_157 : decode cX12_fetch 157 = .ok (.getfield 13, 3) := by decide +kernel
theorem dX12_fetch_160 : decode cX12_fetch 160 = .ok (.sipush 708, 3) := by decide +kernel
theorem dX12_fetch_163 : decode cX12_fetch 163 = .ok (.iaload, 1) := by decide +kernel
theorem dX12_fetch_164 : decode cX12_fetch 164 = .ok (.iadd, 1) := by decide +kernel
theorem dX12_fetch_165 : decode cX12_fetch 165 = .ok (.dup2, 1) := by decide +kernel
theorem dX12_fetch_166 : decode cX12_fetch 166 = .ok (.iaload, 1) := by decide +kernel
theorem dX12_fetch_167 : decode cX12_fetch 167 = .ok (.iload 4, 2) := by decide +kernel
theorem dX12_fetch_169 : decode cX12_fetch 169 = .ok (.iadd, 1) := by decide +kernel
theorem dX12_fetch_170 : decode cX12_fetch 170 = .ok (.iastore, 1) := by decide +kernel
theorem dX12_fetch_171 : decode cX12_fetch 171 = .ok (.aload_n 0, 1) := by decide +kernel
theorem dX12_fetch_172 : decode cX12_fetch 172 = .ok (.iload_n 3, 1) := by decide +kernel
theorem dX12_fetch_173 : decode cX12_fetch 173 = .ok (.iconst 1, 1) := by decide +kernel
theorem dX12_fetch_174 : decode cX12_fetch 174 = .ok (.invokevirtual 254, 3) := by decide +kernel
theorem dX12_fetch_177 : decode cX12_fetch 177 = .ok (.iload 4, 2) := by decide +kernel
theorem dX12_fetch_179 : decode cX12_fetch 179 = .ok (.ireturn, 1) := by decide +kernel
theorem dX12_renew_0 : decode cX12_renew 0 = .ok (.aload_n 0, 1) := by decide +kernel
theorem dX12_renew_1 : decode cX12_renew 1 = .ok (.iconst 0, 1) := by decide +kernel
theorem dX12_renew_2 : decode cX12_renew 2 = .ok (.putfield 1, 3) := by decide +kernel
theorem dX12_renew_5 : decode cX12_renew 5 = .ok (.aload_n 0, 1) := by decide +kernel
theorem dX12_renew_6 : decode cX12_renew 6 = .ok (.iload_n 1, 1) := by decide +kernel
theorem dX12_renew_7 : decode cX12_renew 7 = .ok (.invokevirtual 237, 3) := by decide +kernel
theorem dX12_renew_10 : decode cX12_renew 10 = .ok (.ifCond .eq 6, 3) := by decide +kernel
theorem dX12_renew_13 : decode cX12_renew 13 = .ok (.bipush (-2), 2) := by decide +kernel
theorem dX12_renew_15 : decode cX12_renew 15 = .ok (.ireturn, 1) := by decide +kernel
theorem dX12_renew_16 : decode cX12_renew 16 = .ok (.aload_n 0, 1) := by decide +kernel
theorem dX12_renew_17 : decode cX12_renew 17 = .ok (.getfield 13, 3) := by decide +kernel
theorem dX12_renew_20 : decode cX12_renew 20 = .ok (.sipush 1310, 3) := by decide +kernel
theorem dX12_renew_23 : decode cX12_renew 23 = .ok (.iaload, 1) := by decide +kernel
theorem dX12_renew_24 : decode cX12_renew 24 = .ok (.sipush 150, 3) := by decide +kernel
theorem dX12_renew_27 : decode cX12_renew 27 = .ok (.if_icmp .ne 6, 3) := by decide +kernel
theorem dX12_renew_30 : decode cX12_renew 30 = .ok (.bipush (-4), 2) := by decide +kernel
theorem dX12_renew_32 : decode cX12_renew 32 = .ok (.ireturn, 1) := by decide +kernel
theorem dX12_renew_33 : decode cX12_renew 33 = .ok (.iload_n 1, 1) := by decide +kernel
theorem dX12_renew_34 : decode cX12_renew 34 = .ok (.bipush 100, 2) := by decide +kernel
theorem dX12_renew_36 : decode cX12_renew 36 = .ok (.idiv, 1) := by decide +kernel
theorem dX12_renew_37 : decode cX12_renew 37 = .ok (.iconst 1, 1) := by decide +kernel
theorem dX12_renew_38 : decode cX12_renew 38 = .ok (.isub, 1) := by decide +kernel
theorem dX12_renew_39 : decode cX12_renew 39 = .ok (.istore_n 2, 1) := by decide +kernel
theorem dX12_renew_40 : decode cX12_renew 40 = .ok (.aload_n 0, 1) := by decide +kernel
theorem dX12_renew_41 : decode cX12_renew 41 = .ok (.getfield 13, 3) := by decide +kernel
theorem dX12_renew_44 : decode cX12_renew 44 = .ok (.sipush 1311, 3) := by decide +kernel
theorem dX12_renew_47 : decode cX12_renew 47 = .ok (.iload_n 2, 1) := by decide +kernel
theorem dX12_renew_48 : decode cX12_renew 48 = .ok (.iadd, 1) := by decide +kernel
theorem dX12_renew_49 : decode cX12_renew 49 = .ok (.iaload, 1) := by decide +kernel
theorem dX12_renew_50 : decode cX12_renew 50 = .ok (.istore_n 3, 1) := by decide +kernel
theorem dX12_renew_51 : decode cX12_renew 51 = .ok (.aload_n 0, 1) := by decide +kernel
theorem dX12_renew_52 : decode cX12_renew 52 = .ok (.getfield 13, 3) := by decide +kernel
theorem dX12_renew_55 : decode cX12_renew 55 = .ok (.sipush 1461, 3) := by decide +kernel
theorem dX12_renew_58 : decode cX12_renew 58 = .ok (.iload_n 2, 1) := by decide +kernel
theorem dX12_renew_59 : decode cX12_renew 59 = .ok (.iadd, 1) := by decide +kernel
theorem dX12_renew_60 : decode cX12_renew 60 = .ok (.iaload, 1) := by decide +kernel
theorem dX12_renew_61 : decode cX12_renew 61 = .ok (.istore 4, 2) := by decide +kernel
theorem dX12_renew_63 : decode cX12_renew 63 = .ok (.aload_n 0, 1) := by decide +kernel
theorem dX12_renew_64 : decode cX12_renew 64 = .ok (.iload_n 3, 1) := by decide +kernel
theorem dX12_renew_65 : decode cX12_renew 65 = .ok (.invokevirtual 240, 3) := by decide +kernel
theorem dX12_renew_68 : decode cX12_renew 68 = .ok (.istore 5, 2) := by decide +kernel
theorem dX12_renew_70 : decode cX12_renew 70 = .ok (.aload_n 0, 1) := by decide +kernel
theorem dX12_renew_71 : decode cX12_renew 71 = .ok (.getfield 13, 3) := by decide +kernel
theorem dX12_renew_74 : decode cX12_renew 74 = .ok (.sipush 692, 3) := by decide +kernel
theorem dX12_renew_77 : decode cX12_renew 77 = .ok (.iload 4, 2) := by decide +kernel
theorem dX12_renew_79 : decode cX12_renew 79 = .ok (.iadd, 1) := by decide +kernel
theorem dX12_renew_80 : decode cX12_renew 80 = .ok (.iaload, 1) := by decide +kernel
theorem dX12_renew_81 : decode cX12_renew 81 = .ok (.iload 5, 2) := by decide +kernel
theorem dX12_renew_83 : decode cX12_renew 83 = .ok (.aload_n 0, 1) := by decide +kernel
theorem dX12_renew_84 : decode cX12_renew 84 = .ok (.getfield 13, 3) := by decide +kernel
theorem dX12_renew_87 : decode cX12_renew 87 = .ok (.bipush 26, 2) := by decide +kernel
theorem dX12_renew_89 : decode cX12_renew 89 = .ok (.iaload, 1) := by decide +kernel
theorem dX12_renew_90 : decode cX12_renew 90 = .ok (.iadd, 1) := by decide +kernel
theorem dX12_renew_91 : decode cX12_renew 91 = .ok (.if_icmp .ge 6, 3) := by decide +kernel
theorem dX12_renew_94 : decode cX12_renew 94 = .ok (.bipush (-8), 2) := by decide +kernel
theorem dX12_renew_96 : decode cX12_renew 96 = .ok (.ireturn, 1) := by decide +kernel
theorem dX12_renew_97 : decode cX12_renew 97 = .ok (.aload_n 0, 1) := by decide +kernel
theorem dX12_renew_98 : decode cX12_renew 98 = .ok (.getfield 13, 3) := by decide +kernel
theorem dX12_renew_101 : decode cX12_renew 101 = .ok (.sipush 692, 3) := by decide +kernel
theorem dX12_renew_104 : decode cX12_renew 104 = .ok (.iload 4, 2) := by decide +kernel
theorem dX12_renew_106 : decode cX12_renew 106 = .ok (.iadd, 1) := by decide +kernel
theorem dX12_renew_107 : decode cX12_renew 107 = .ok (.dup2, 1) := by decide +kernel
theorem dX12_renew_108 : decode cX12_renew 108 = .ok (.iaload, 1) := by decide +kernel
theorem dX12_renew_109 : decode cX12_renew 109 = .ok (.iload 5, 2) := by decide +kernel
theorem dX12_renew_111 : decode cX12_renew 111 = .ok (.aload_n 0, 1) := by decide +kernel
theorem dX12_renew_112 : decode cX12_renew 112 = .ok (.getfield 13, 3) := by decide +kernel
theorem dX12_renew_115 : decode cX12_renew 115 = .ok (.bipush 26, 2) := by decide +kernel
theorem dX12_renew_117 : decode cX12_renew 117 = .ok (.iaload, 1) := by decide +kernel
theorem dX12_renew_118 : decode cX12_renew 118 = .ok (.iadd, 1) := by decide +kernel
theorem dX12_renew_119 : decode cX12_renew 119 = .ok (.isub, 1) := by decide +kernel
theorem dX12_renew_120 : decode cX12_renew 120 = .ok (.iastore, 1) := by decide +kernel
theorem dX12_renew_121 : decode cX12_renew 121 = .ok (.aload_n 0, 1) := by decide +kernel
theorem dX12_renew_122 : decode cX12_renew 122 = .ok (.getfield 13, 3) := by decide +kernel
theorem dX12_renew_125 : decode cX12_renew 125 = .ok (.sipush 2083, 3) := by decide +kernel
theorem dX12_renew_128 : decode cX12_renew 128 = .ok (.aload_n 0, 1) := by decide +kernel
theorem dX12_renew_129 : decode cX12_renew 129 = .ok (.getfield 13, 3) := by decide +kernel
theorem dX12_renew_132 : decode cX12_renew 132 = .ok (.sipush 708, 3) := by decide +kernel
theorem dX12_renew_135 : decode cX12_renew 135 = .ok (.iaload, 1) := by decide +kernel
theorem dX12_renew_136 : decode cX12_renew 136 = .ok (.iadd, 1) := by decide +kernel
theorem dX12_renew_137 : decode cX12_renew 137 = .ok (.dup2, 1) := by decide +kernel
theorem dX12_renew_138 : decode cX12_renew 138 = .ok (.iaload, 1) := by decide +kernel
theorem dX12_renew_139 : decode cX12_renew 139 = .ok (.iload 5, 2) := by decide +kernel
theorem dX12_renew_141 : decode cX12_renew 141 = .ok (.iadd, 1) := by decide +kernel
theorem dX12_renew_142 : decode cX12_renew 142 = .ok (.iastore, 1) := by decide +kernel
theorem dX12_renew_143 : decode cX12_renew 143 = .ok (.aload_n 0, 1) := by decide +kernel
theorem dX12_renew_144 : decode cX12_renew 144 = .ok (.getfield 13, 3) := by decide +kernel
theorem dX12_renew_147 : decode cX12_renew 147 = .ok (.sipush 3287, 3) := by decide +kernel
theorem dX12_renew_150 : decode cX12_renew 150 = .ok (.aload_n 0, 1) := by decide +kernel
theorem dX12_renew_151 : decode cX12_renew 151 = .ok (.getfield 13, 3) := by decide +kernel
theorem dX12_renew_154 : decode cX12_renew 154 = .ok (.sipush 708, 3) := by decide +kernel
theorem dX12_renew_157 : decode cX12_renew 157 = .ok (.iaload, 1) := by decide +kernel
theorem dX12_renew_158 : decode cX12_renew 158 = .ok (.iadd, 1) := by decide +kernel
theorem dX12_renew_159 : decode cX12_renew 159 = .ok (.dup2, 1) := by decide +kernel
theorem dX12_renew_160 : decode cX12_renew 160 = .ok (.iaload, 1) := by decide +kernel
theorem dX12_renew_161 : decode cX12_renew 161 = .ok (.iload 5, 2) := by decide +kernel
theorem dX12_renew_163 : decode cX12_renew 163 = .ok (.iadd, 1) := by decide +kernel
theorem dX12_renew_164 : decode cX12_renew 164 = .ok (.iastore, 1) := by decide +kernel
theorem dX12_renew_165 : decode cX12_renew 165 = .ok (.aload_n 0, 1) := by decide +kernel
theorem dX12_renew_166 : decode cX12_renew 166 = .ok (.getfield 13, 3) := by decide +kernel
theorem dX12_renew_169 : decode cX12_renew 169 = .ok (.sipush 890, 3) := by decide +kernel
theorem dX12_renew_172 : decode cX12_renew 172 = .ok (.iload_n 3, 1) := by decide +kernel
theorem dX12_renew_173 : decode cX12_renew 173 = .ok (.iadd, 1) := by decide +kernel
theorem dX12_renew_174 : decode cX12_renew 174 = .ok (.aload_n 0, 1) := by decide +kernel
theorem dX12_renew_175 : decode cX12_renew 175 = .ok (.getfield 13, 3) := by decide +kernel
theorem dX12_renew_178 : decode cX12_renew 178 = .ok (.sipush 708, 3) := by decide +kernel
theorem dX12_renew_181 : decode cX12_renew 181 = .ok (.iaload, 1) := by decide +kernel
theorem dX12_renew_182 : decode cX12_renew 182 = .ok (.iastore, 1) := by decide +kernel
theorem dX12_renew_183 : decode cX12_renew 183 = .ok (.aload_n 0, 1) := by decide +kernel
theorem dX12_renew_184 : decode cX12_renew 184 = .ok (.getfield 13, 3) := by decide +kernel
theorem dX12_renew_187 : decode cX12_renew 187 = .ok (.sipush 3775, 3) := by decide +kernel
theorem dX12_renew_190 : decode cX12_renew 190 = .ok (.iload_n 3, 1) := by decide +kernel
theorem dX12_renew_191 : decode cX12_renew 191 = .ok (.iadd, 1) := by decide +kernel
theorem dX12_renew_192 : decode cX12_renew 192 = .ok (.dup2, 1) := by decide +kernel
theorem dX12_renew_193 : decode cX12_renew 193 = .ok (.iaload, 1) := by decide +kernel
theorem dX12_renew_194 : decode cX12_renew 194 = .ok (.iconst 1, 1) := by decide +kernel
theorem dX12_renew_195 : decode cX12_renew 195 = .ok (.iadd, 1) := by decide +kernel
theorem dX12_renew_196 : decode cX12_renew 196 = .ok (.iastore, 1) := by decide +kernel
theorem dX12_renew_197 : decode cX12_renew 197 = .ok (.aload_n 0, 1) := by decide +kernel
theorem dX12_renew_198 : decode cX12_renew 198 = .ok (.getfield 13, 3) := by decide +kernel
theorem dX12_renew_201 : decode cX12_renew 201 = .ok (.sipush 3835, 3) := by decide +kernel
theorem dX12_renew_204 : decode cX12_renew 204 = .ok (.iload_n 3, 1) := by decide +kernel
theorem dX12_renew_205 : decode cX12_renew 205 = .ok (.iadd, 1) := by decide +kernel
theorem dX12_renew_206 : decode cX12_renew 206 = .ok (.dup2, 1) := by decide +kernel
theorem dX12_renew_207 : decode cX12_renew 207 = .ok (.iaload, 1) := by decide +kernel
theorem dX12_renew_208 : decode cX12_renew 208 = .ok (.iload 5, 2) := by decide +kernel
theorem dX12_renew_210 : decode cX12_renew 210 = .ok (.iadd, 1) := by decide +kernel
theorem dX12_renew_211 : decode cX12_renew 211 = .ok (.iastore, 1) := by decide +kernel
theorem dX12_renew_212 : decode cX12_renew 212 = .ok (.aload_n 0, 1) := by decide +kernel
theorem dX12_renew_213 : decode cX12_renew 213 = .ok (.getfield 13, 3) := by decide +kernel
theorem dX12_renew_216 : decode cX12_renew 216 = .ok (.sipush 1611, 3) := by decide +kernel
theorem dX12_renew_219 : decode cX12_renew 219 = .ok (.iload_n 2, 1) := by decide +kernel
theorem dX12_renew_220 : decode cX12_renew 220 = .ok (.iadd, 1) := by decide +kernel
theorem dX12_renew_221 : decode cX12_renew 221 = .ok (.iconst 0, 1) := by decide +kernel
theorem dX12_renew_222 : decode cX12_renew 222 = .ok (.iastore, 1) := by decide +kernel
theorem dX12_renew_223 : decode cX12_renew 223 = .ok (.aload_n 0, 1) := by decide +kernel
theorem dX12_renew_224 : decode cX12_renew 224 = .ok (.iload_n 3, 1) := by decide +kernel
theorem dX12_renew_225 : decode cX12_renew 225 = .ok (.iload 4, 2) := by decide +kernel
theorem dX12_renew_227 : decode cX12_renew 227 = .ok (.invokevirtual 224, 3) := by decide +kernel
theorem dX12_renew_230 : decode cX12_renew 230 = .ok (.ireturn, 1) := by decide +kernel
theorem dX12_swear_0 : decode cX12_swear 0 = .ok (.aload_n 0, 1) := by decide +kernel
theorem dX12_swear_1 : decode cX12_swear 1 = .ok (.iconst 0, 1) := by decide +kernel
theorem dX12_swear_2 : decode cX12_swear 2 = .ok (.putfield 1, 3) := by decide +kernel
theorem dX12_swear_5 : decode cX12_swear 5 = .ok (.aload_n 0, 1) := by decide +kernel
theorem dX12_swear_6 : decode cX12_swear 6 = .ok (.iload_n 1, 1) := by decide +kernel
theorem dX12_swear_7 : decode cX12_swear 7 = .ok (.invokevirtual 257, 3) := by decide +kernel
theorem dX12_swear_10 : decode cX12_swear 10 = .ok (.ifCond .ne 6, 3) := by decide +kernel
theorem dX12_swear_13 : decode cX12_swear 13 = .ok (.bipush (-2), 2) := by decide +kernel
theorem dX12_swear_15 : decode cX12_swear 15 = .ok (.ireturn, 1) := by decide +kernel
theorem dX12_swear_16 : decode cX12_swear 16 = .ok (.aload_n 0, 1) := by decide +kernel
theorem dX12_swear_17 : decode cX12_swear 17 = .ok (.getfield 13, 3) := by decide +kernel
theorem dX12_swear_20 : decode cX12_swear 20 = .ok (.sipush 1310, 3) := by decide +kernel
theorem dX12_swear_23 : decode cX12_swear 23 = .ok (.iaload, 1) := by decide +kernel
theorem dX12_swear_24 : decode cX12_swear 24 = .ok (.sipush 150, 3) := by decide +kernel
theorem dX12_swear_27 : decode cX12_swear 27 = .ok (.if_icmp .ne 6, 3) := by decide +kernel
theorem dX12_swear_30 : decode cX12_swear 30 = .ok (.bipush (-4), 2) := by decide +kernel
theorem dX12_swear_32 : decode cX12_swear 32 = .ok (.ireturn, 1) := by decide +kernel
theorem dX12_swear_33 : decode cX12_swear 33 = .ok (.aload_n 0, 1) := by decide +kernel
theorem dX12_swear_34 : decode cX12_swear 34 = .ok (.getfield 13, 3) := by decide +kernel
theorem dX12_swear_37 : decode cX12_swear 37 = .ok (.sipush 1010, 3) := by decide +kernel
theorem dX12_swear_40 : decode cX12_swear 40 = .ok (.iload_n 1, 1) := by decide +kernel
theorem dX12_swear_41 : decode cX12_swear 41 = .ok (.iadd, 1) := by decide +kernel
theorem dX12_swear_42 : decode cX12_swear 42 = .ok (.iaload, 1) := by decide +kernel
theorem dX12_swear_43 : decode cX12_swear 43 = .ok (.ifCond .eq 6, 3) := by decide +kernel
theorem dX12_swear_46 : decode cX12_swear 46 = .ok (.bipush (-5), 2) := by decide +kernel
theorem dX12_swear_48 : decode cX12_swear 48 = .ok (.ireturn, 1) := by decide +kernel
theorem dX12_swear_49 : decode cX12_swear 49 = .ok (.aload_n 0, 1) := by decide +kernel
theorem dX12_swear_50 : decode cX12_swear 50 = .ok (.getfield 13, 3) := by decide +kernel
theorem dX12_swear_53 : decode cX12_swear 53 = .ok (.sipush 770, 3) := by decide +kernel
theorem dX12_swear_56 : decode cX12_swear 56 = .ok (.iload_n 1, 1) := by decide +kernel
theorem dX12_swear_57 : decode cX12_swear 57 = .ok (.iadd, 1) := by decide +kernel
theorem dX12_swear_58 : decode cX12_swear 58 = .ok (.iaload, 1) := by decide +kernel
theorem dX12_swear_59 : decode cX12_swear 59 = .ok (.istore_n 2, 1) := by decide +kernel
theorem dX12_swear_60 : decode cX12_swear 60 = .ok (.aload_n 0, 1) := by decide +kernel
theorem dX12_swear_61 : decode cX12_swear 61 = .ok (.getfield 13, 3) := by decide +kernel
theorem dX12_swear_64 : decode cX12_swear 64 = .ok (.sipush 692, 3) := by decide +kernel
theorem dX12_swear_67 : decode cX12_swear 67 = .ok (.iload_n 2, 1) := by decide +kernel
theorem dX12_swear_68 : decode cX12_swear 68 = .ok (.iadd, 1) := by decide +kernel
theorem dX12_swear_69 : decode cX12_swear 69 = .ok (.iaload, 1) := by decide +kernel
theorem dX12_swear_70 : decode cX12_swear 70 = .ok (.aload_n 0, 1) := by decide +kernel
theorem dX12_swear_71 : decode cX12_swear 71 = .ok (.getfield 13, 3) := by decide +kernel
theorem dX12_swear_74 : decode cX12_swear 74 = .ok (.bipush 27, 2) := by decide +kernel
theorem dX12_swear_76 : decode cX12_swear 76 = .ok (.iaload, 1) := by decide +kernel
theorem dX12_swear_77 : decode cX12_swear 77 = .ok (.if_icmp .ge 6, 3) := by decide +kernel
theorem dX12_swear_80 : decode cX12_swear 80 = .ok (.bipush (-8), 2) := by decide +kernel
theorem dX12_swear_82 : decode cX12_swear 82 = .ok (.ireturn, 1) := by decide +kernel
theorem dX12_swear_83 : decode cX12_swear 83 = .ok (.aload_n 0, 1) := by decide +kernel
theorem dX12_swear_84 : decode cX12_swear 84 = .ok (.getfield 13, 3) := by decide +kernel
theorem dX12_swear_87 : decode cX12_swear 87 = .ok (.sipush 692, 3) := by decide +kernel
theorem dX12_swear_90 : decode cX12_swear 90 = .ok (.iload_n 2, 1) := by decide +kernel
theorem dX12_swear_91 : decode cX12_swear 91 = .ok (.iadd, 1) := by decide +kernel
theorem dX12_swear_92 : decode cX12_swear 92 = .ok (.dup2, 1) := by decide +kernel
theorem dX12_swear_93 : decode cX12_swear 93 = .ok (.iaload, 1) := by decide +kernel
theorem dX12_swear_94 : decode cX12_swear 94 = .ok (.aload_n 0, 1) := by decide +kernel
theorem dX12_swear_95 : decode cX12_swear 95 = .ok (.getfield 13, 3) := by decide +kernel
theorem dX12_swear_98 : decode cX12_swear 98 = .ok (.bipush 27, 2) := by decide +kernel
theorem dX12_swear_100 : decode cX12_swear 100 = .ok (.iaload, 1) := by decide +kernel
theorem dX12_swear_101 : decode cX12_swear 101 = .ok (.isub, 1) := by decide +kernel
theorem dX12_swear_102 : decode cX12_swear 102 = .ok (.iastore, 1) := by decide +kernel
theorem dX12_swear_103 : decode cX12_swear 103 = .ok (.aload_n 0, 1) := by decide +kernel
theorem dX12_swear_104 : decode cX12_swear 104 = .ok (.iload_n 1, 1) := by decide +kernel
theorem dX12_swear_105 : decode cX12_swear 105 = .ok (.invokevirtual 248, 3) := by decide +kernel
theorem dX12_swear_108 : decode cX12_swear 108 = .ok (.aload_n 0, 1) := by decide +kernel
theorem dX12_swear_109 : decode cX12_swear 109 = .ok (.iload_n 1, 1) := by decide +kernel
theorem dX12_swear_110 : decode cX12_swear 110 = .ok (.iload_n 2, 1) := by decide +kernel
theorem dX12_swear_111 : decode cX12_swear 111 = .ok (.invokevirtual 224, 3) := by decide +kernel
theorem dX12_swear_114 : decode cX12_swear 114 = .ok (.ireturn, 1) := by decide +kernel
theorem dX12_sell_0 : decode cX12_sell 0 = .ok (.aload_n 0, 1) := by decide +kernel
theorem dX12_sell_1 : decode cX12_sell 1 = .ok (.iconst 0, 1) := by decide +kernel
theorem dX12_sell_2 : decode cX12_sell 2 = .ok (.putfield 1, 3) := by decide +kernel
theorem dX12_sell_5 : decode cX12_sell 5 = .ok (.aload_n 0, 1) := by decide +kernel
theorem dX12_sell_6 : decode cX12_sell 6 = .ok (.iload_n 1, 1) := by decide +kernel
theorem dX12_sell_7 : decode cX12_sell 7 = .ok (.invokevirtual 237, 3) := by decide +kernel
theorem dX12_sell_10 : decode cX12_sell 10 = .ok (.ifCond .ne 11, 3) := by decide +kernel
theorem dX12_sell_13 : decode cX12_sell 13 = .ok (.aload_n 0, 1) := by decide +kernel
theorem dX12_sell_14 : decode cX12_sell 14 = .ok (.iload_n 2, 1) := by decide +kernel
theorem dX12_sell_15 : decode cX12_sell 15 = .ok (.invokevirtual 215, 3) := by decide +kernel
theorem dX12_sell_18 : decode cX12_sell 18 = .ok (.ifCond .ne 6, 3) := by decide +kernel
theorem dX12_sell_21 : decode cX12_sell 21 = .ok (.bipush (-2), 2) := by decide +kernel
theorem dX12_sell_23 : decode cX12_sell 23 = .ok (.ireturn, 1) := by decide +kernel
theorem dX12_sell_24 : decode cX12_sell 24 = .ok (.iload_n 1, 1) := by decide +kernel
theorem dX12_sell_25 : decode cX12_sell 25 = .ok (.bipush 100, 2) := by decide +kernel
theorem dX12_sell_27 : decode cX12_sell 27 = .ok (.idiv, 1) := by decide +kernel
theorem dX12_sell_28 : decode cX12_sell 28 = .ok (.iconst 1, 1) := by decide +kernel
theorem dX12_sell_29 : decode cX12_sell 29 = .ok (.isub, 1) := by decide +kernel
theorem dX12_sell_30 : decode cX12_sell 30 = .ok (.istore 4, 2) := by decide +kernel
theorem dX12_sell_32 : decode cX12_sell 32 = .ok (.iload_n 3, 1) := by decide +kernel
theorem dX12_sell_33 : decode cX12_sell 33 = .ok (.i2l, 1) := by decide +kernel
theorem dX12_sell_34 : decode cX12_sell 34 = .ok (.lconst 0, 1) := by decide +kernel
theorem dX12_sell_35 : decode cX12_sell 35 = .ok (.ldc2_w 198, 3) := by decide +kernel
theorem dX12_sell_38 : decode cX12_sell 38 = .ok (.invokestatic 142, 3) := by decide +kernel
theorem dX12_sell_41 : decode cX12_sell 41 = .ok (.ifCond .eq 18, 3) := by decide +kernel
theorem dX12_sell_44 : decode cX12_sell 44 = .ok (.aload_n 0, 1) := by decide +kernel
theorem dX12_sell_45 : decode cX12_sell 45 = .ok (.getfield 13, 3) := by decide +kernel
theorem dX12_sell_48 : decode cX12_sell 48 = .ok (.sipush 1461, 3) := by decide +kernel
theorem dX12_sell_51 : decode cX12_sell 51 = .ok (.iload 4, 2) := by decide +kernel
theorem dX12_sell_53 : decode cX12_sell 53 = .ok (.iadd, 1) := by decide +kernel
theorem dX12_sell_54 : decode cX12_sell 54 = .ok (.iaload, 1) := by decide +kernel
theorem dX12_sell_55 : decode cX12_sell 55 = .ok (.iload_n 2, 1) := by decide +kernel
theorem dX12_sell_56 : decode cX12_sell 56 = .ok (.if_icmp .ne 6, 3) := by decide +kernel
theorem dX12_sell_59 : decode cX12_sell 59 = .ok (.bipush (-3), 2) := by decide +kernel
theorem dX12_sell_61 : decode cX12_sell 61 = .ok (.ireturn, 1) := by decide +kernel
theorem dX12_sell_62 : decode cX12_sell 62 = .ok (.aload_n 0, 1) := by decide +kernel
theorem dX12_sell_63 : decode cX12_sell 63 = .ok (.getfield 13, 3) := by decide +kernel
theorem dX12_sell_66 : decode cX12_sell 66 = .ok (.sipush 692, 3) := by decide +kernel
theorem dX12_sell_69 : decode cX12_sell 69 = .ok (.iload_n 2, 1) := by decide +kernel
theorem dX12_sell_70 : decode cX12_sell 70 = .ok (.iadd, 1) := by decide +kernel
theorem dX12_sell_71 : decode cX12_sell 71 = .ok (.iaload, 1) := by decide +kernel
theorem dX12_sell_72 : decode cX12_sell 72 = .ok (.iconst 2, 1) := by decide +kernel
theorem dX12_sell_73 : decode cX12_sell 73 = .ok (.iload_n 3, 1) := by decide +kernel
theorem dX12_sell_74 : decode cX12_sell 74 = .ok (.imul, 1) := by decide +kernel
theorem dX12_sell_75 : decode cX12_sell 75 = .ok (.if_icmp .ge 6, 3) := by decide +kernel
theorem dX12_sell_78 : decode cX12_sell 78 = .ok (.bipush (-8), 2) := by decide +kernel
theorem dX12_sell_80 : decode cX12_sell 80 = .ok (.ireturn, 1) := by decide +kernel
theorem dX12_sell_81 : decode cX12_sell 81 = .ok (.aload_n 0, 1) := by decide +kernel
theorem dX12_sell_82 : decode cX12_sell 82 = .ok (.getfield 13, 3) := by decide +kernel
theorem dX12_sell_85 : decode cX12_sell 85 = .ok (.sipush 692, 3) := by decide +kernel
theorem dX12_sell_88 : decode cX12_sell 88 = .ok (.iload_n 2, 1) := by decide +kernel
theorem dX12_sell_89 : decode cX12_sell 89 = .ok (.iadd, 1) := by decide +kernel
theorem dX12_sell_90 : decode cX12_sell 90 = .ok (.dup2, 1) := by decide +kernel
theorem dX12_sell_91 : decode cX12_sell 91 = .ok (.iaload, 1) := by decide +kernel
theorem dX12_sell_92 : decode cX12_sell 92 = .ok (.iconst 2, 1) := by decide +kernel
theorem dX12_sell_93 : decode cX12_sell 93 = .ok (.iload_n 3, 1) := by decide +kernel
theorem dX12_sell_94 : decode cX12_sell 94 = .ok (.imul, 1) := by decide +kernel
theorem dX12_sell_95 : decode cX12_sell 95 = .ok (.isub, 1) := by decide +kernel
theorem dX12_sell_96 : decode cX12_sell 96 = .ok (.iastore, 1) := by decide +kernel
theorem dX12_sell_97 : decode cX12_sell 97 = .ok (.aload_n 0, 1) := by decide +kernel
theorem dX12_sell_98 : decode cX12_sell 98 = .ok (.getfield 13, 3) := by decide +kernel
theorem dX12_sell_101 : decode cX12_sell 101 = .ok (.sipush 692, 3) := by decide +kernel
theorem dX12_sell_104 : decode cX12_sell 104 = .ok (.aload_n 0, 1) := by decide +kernel
theorem dX12_sell_105 : decode cX12_sell 105 = .ok (.getfield 13, 3) := by decide +kernel
theorem dX12_sell_108 : decode cX12_sell 108 = .ok (.sipush 1461, 3) := by decide +kernel
theorem dX12_sell_111 : decode cX12_sell 111 = .ok (.iload 4, 2) := by decide +kernel
theorem dX12_sell_113 : decode cX12_sell 113 = .ok (.iadd, 1) := by decide +kernel
theorem dX12_sell_114 : decode cX12_sell 114 = .ok (.iaload, 1) := by decide +kernel
theorem dX12_sell_115 : decode cX12_sell 115 = .ok (.iadd, 1) := by decide +kernel
theorem dX12_sell_116 : decode cX12_sell 116 = .ok (.dup2, 1) := by decide +kernel
theorem dX12_sell_117 : decode cX12_sell 117 = .ok (.iaload, 1) := by decide +kernel
theorem dX12_sell_118 : decode cX12_sell 118 = .ok (.iconst 2, 1) := by decide +kernel
theorem dX12_sell_119 : decode cX12_sell 119 = .ok (.iload_n 3, 1) := by decide +kernel
theorem dX12_sell_120 : decode cX12_sell 120 = .ok (.imul, 1) := by decide +kernel
theorem dX12_sell_121 : decode cX12_sell 121 = .ok (.iadd, 1) := by decide +kernel
theorem dX12_sell_122 : decode cX12_sell 122 = .ok (.iastore, 1) := by decide +kernel
theorem dX12_sell_123 : decode cX12_sell 123 = .ok (.aload_n 0, 1) := by decide +kernel
theorem dX12_sell_124 : decode cX12_sell 124 = .ok (.getfield 13, 3) := by decide +kernel
theorem dX12_sell_127 : decode cX12_sell 127 = .ok (.sipush 1461, 3) := by decide +kernel
theorem dX12_sell_130 : decode cX12_sell 130 = .ok (.iload 4, 2) := by decide +kernel
theorem dX12_sell_132 : decode cX12_sell 132 = .ok (.iadd, 1) := by decide +kernel
theorem dX12_sell_133 : decode cX12_sell 133 = .ok (.iload_n 2, 1) := by decide +kernel
theorem dX12_sell_134 : decode cX12_sell 134 = .ok (.iastore, 1) := by decide +kernel
theorem dX12_sell_135 : decode cX12_sell 135 = .ok (.iconst 0, 1) := by decide +kernel
theorem dX12_sell_136 : decode cX12_sell 136 = .ok (.ireturn, 1) := by decide +kernel
theorem dX12_mothed_0 : decode cX12_mothed 0 = .ok (.aload_n 0, 1) := by decide +kernel
theorem dX12_mothed_1 : decode cX12_mothed 1 = .ok (.getfield 13, 3) := by decide +kernel
theorem dX12_mothed_4 : decode cX12_mothed 4 = .ok (.sipush 631, 3) := by decide +kernel
theorem dX12_mothed_7 : decode cX12_mothed 7 = .ok (.aload_n 0, 1) := by decide +kernel
theorem dX12_mothed_8 : decode cX12_mothed 8 = .ok (.getfield 13, 3) := by decide +kernel
theorem dX12_mothed_11 : decode cX12_mothed 11 = .ok (.sipush 710, 3) := by decide +kernel
theorem dX12_mothed_14 : decode cX12_mothed 14 = .ok (.iload_n 1, 1) := by decide +kernel
theorem dX12_mothed_15 : decode cX12_mothed 15 = .ok (.iadd, 1) := by decide +kernel
theorem dX12_mothed_16 : decode cX12_mothed 16 = .ok (.iaload, 1) := by decide +kernel
theorem dX12_mothed_17 : decode cX12_mothed 17 = .ok (.iadd, 1) := by decide +kernel
theorem dX12_mothed_18 : decode cX12_mothed 18 = .ok (.iaload, 1) := by decide +kernel
theorem dX12_mothed_19 : decode cX12_mothed 19 = .ok (.ifCond .ne 5, 3) := by decide +kernel
theorem dX12_mothed_22 : decode cX12_mothed 22 = .ok (.iload_n 2, 1) := by decide +kernel
theorem dX12_mothed_23 : decode cX12_mothed 23 = .ok (.ireturn, 1) := by decide +kernel
theorem dX12_mothed_24 : decode cX12_mothed 24 = .ok (.bipush 100, 2) := by decide +kernel
theorem dX12_mothed_26 : decode cX12_mothed 26 = .ok (.aload_n 0, 1) := by decide +kernel
theorem dX12_mothed_27 : decode cX12_mothed 27 = .ok (.getfield 13, 3) := by decide +kernel
theorem dX12_mothed_30 : decode cX12_mothed 30 = .ok (.bipush 29, 2) := by decide +kernel
theorem dX12_mothed_32 : decode cX12_mothed 32 = .ok (.iaload, 1) := by decide +kernel
theorem dX12_mothed_33 : decode cX12_mothed 33 = .ok (.aload_n 0, 1) := by decide +kernel
theorem dX12_mothed_34 : decode cX12_mothed 34 = .ok (.getfield 13, 3) := by decide +kernel
theorem dX12_mothed_37 : decode cX12_mothed 37 = .ok (.sipush 708, 3) := by decide +kernel
theorem dX12_mothed_40 : decode cX12_mothed 40 = .ok (.iaload, 1) := by decide +kernel
theorem dX12_mothed_41 : decode cX12_mothed 41 = .ok (.aload_n 0, 1) := by decide +kernel
theorem dX12_mothed_42 : decode cX12_mothed 42 = .ok (.getfield 13, 3) := by decide +kernel
theorem dX12_mothed_45 : decode cX12_mothed 45 = .ok (.sipush 890, 3) := by decide +kernel
theorem dX12_mothed_48 : decode cX12_mothed 48 = .ok (.iload_n 1, 1) := by decide +kernel
theorem dX12_mothed_49 : decode cX12_mothed 49 = .ok (.iadd, 1) := by decide +kernel
theorem dX12_mothed_50 : decode cX12_mothed 50 = .ok (.iaload, 1) := by decide +kernel
theorem dX12_mothed_51 : decode cX12_mothed 51 = .ok (.isub, 1) := by decide +kernel
theorem dX12_mothed_52 : decode cX12_mothed 52 = .ok (.bipush 10, 2) := by decide +kernel
theorem dX12_mothed_54 : decode cX12_mothed 54 = .ok (.idiv, 1) := by decide +kernel
theorem dX12_mothed_55 : decode cX12_mothed 55 = .ok (.imul, 1) := by decide +kernel
theorem dX12_mothed_56 : decode cX12_mothed 56 = .ok (.isub, 1) := by decide +kernel
theorem dX12_mothed_57 : decode cX12_mothed 57 = .ok (.istore_n 3, 1) := by decide +kernel
theorem dX12_mothed_58 : decode cX12_mothed 58 = .ok (.iload_n 2, 1) := by decide +kernel
theorem dX12_mothed_59 : decode cX12_mothed 59 = .ok (.iload_n 3, 1) := by decide +kernel
theorem dX12_mothed_60 : decode cX12_mothed 60 = .ok (.ifCond .ge 7, 3) := by decide +kernel
theorem dX12_mothed_63 : decode cX12_mothed 63 = .ok (.iconst 0, 1) := by decide +kernel
theorem dX12_mothed_64 : decode cX12_mothed 64 = .ok (.goto 4, 3) := by decide +kernel
theorem dX12_mothed_67 : decode cX12_mothed 67 = .ok (.iload_n 3, 1) := by decide +kernel
theorem dX12_mothed_68 : decode cX12_mothed 68 = .ok (.imul, 1) := by decide +kernel
theorem dX12_mothed_69 : decode cX12_mothed 69 = .ok (.bipush 100, 2) := by decide +kernel
theorem dX12_mothed_71 : decode cX12_mothed 71 = .ok (.idiv, 1) := by decide +kernel
theorem dX12_mothed_72 : decode cX12_mothed 72 = .ok (.ireturn, 1) := by decide +kernel
theorem dX12_mothedLow_0 : decode cX12_mothedLow 0 = .ok (.aload_n 0, 1) := by decide +kernel
theorem dX12_mothedLow_1 : decode cX12_mothedLow 1 = .ok (.iload_n 1, 1) := by decide +kernel
theorem dX12_mothedLow_2 : decode cX12_mothedLow 2 = .ok (.aload_n 0, 1) := by decide +kernel
theorem dX12_mothedLow_3 : decode cX12_mothedLow 3 = .ok (.getfield 13, 3) := by decide +kernel
theorem dX12_mothedLow_6 : decode cX12_mothedLow 6 = .ok (.sipush 595, 3) := by decide +kernel
theorem dX12_mothedLow_9 : decode cX12_mothedLow 9 = .ok (.aload_n 0, 1) := by decide +kernel
theorem dX12_mothedLow_10 : decode cX12_mothedLow 10 = .ok (.getfield 13, 3) := by decide +kernel
theorem dX12_mothedLow_13 : decode cX12_mothedLow 13 = .ok (.sipush 710, 3) := by decide +kernel
theorem dX12_mothedLow_16 : decode cX12_mothedLow 16 = .ok (.iload_n 1, 1) := by decide +kernel
theorem dX12_mothedLow_17 : decode cX12_mothedLow 17 = .ok (.iadd, 1) := by decide +kernel
theorem dX12_mothedLow_18 : decode cX12_mothedLow 18 = .ok (.iaload, 1) := by decide +kernel
theorem dX12_mothedLow_19 : decode cX12_mothedLow 19 = .ok (.iadd, 1) := by decide +kernel
theorem dX12_mothedLow_20 : decode cX12_mothedLow 20 = .ok (.iaload, 1) := by decide +kernel
theorem dX12_mothedLow_21 : decode cX12_mothedLow 21 = .ok (.invokevirtual 260, 3) := by decide +kernel
theorem dX12_mothedLow_24 : decode cX12_mothedLow 24 = .ok (.ireturn, 1) := by decide +kernel
theorem dX12_of_0 : decode cX12_of 0 = .ok (.aload_n 0, 1) := by decide +kernel
theorem dX12_of_1 : decode cX12_of 1 = .ok (.iconst 0, 1) := by decide +kernel
theorem dX12_of_2 : decode cX12_of 2 = .ok (.putfield 1, 3) := by decide +kernel
theorem dX12_of_5 : decode cX12_of 5 = .ok (.aload_n 0, 1) := by decide +kernel
theorem dX12_of_6 : decode cX12_of 6 = .ok (.iload_n 1, 1) := by decide +kernel
theorem dX12_of_7 : decode cX12_of 7 = .ok (.invokevirtual 257, 3) := by decide +kernel
theorem dX12_of_10 : decode cX12_of 10 = .ok (.ifCond .ne 7, 3) := by decide +kernel
theorem dX12_of_13 : decode cX12_of 13 = .ok (.sipush (-1000), 3) := by decide +kernel
theorem dX12_of_16 : decode cX12_of 16 = .ok (.ireturn, 1) := by decide +kernel
theorem dX12_of_17 : decode cX12_of 17 = .ok (.iload_n 2, 1) := by decide +kernel
theorem dX12_of_18 : decode cX12_of 18 = .ok (.tableswitch 161 0 8 #[50, 61, 72, 83, 94, 105, 116, 130, 136], 50) := by decide +kernel
theorem dX12_of_68 : decode cX12_of 68 = .ok (.aload_n 0, 1) := by decide +kernel
theorem dX12_of_69 : decode cX12_of 69 = .ok (.getfield 13, 3) := by decide +kernel
theorem dX12_of_72 : decode cX12_of 72 = .ok (.sipush 710, 3) := by decide +kernel
theorem dX12_of_75 : decode cX12_of 75 = .ok (.iload_n 1, 1) := by decide +kernel
theorem dX12_of_76 : decode cX12_of 76 = .ok (.iadd, 1) := by decide +kernel
theorem dX12_of_77 : decode cX12_of 77 = .ok (.iaload, 1) := by decide +kernel
theorem dX12_of_78 : decode cX12_of 78 = .ok (.ireturn, 1) := by decide +kernel
theorem dX12_of_79 : decode cX12_of 79 = .ok (.aload_n 0, 1) := by decide +kernel
theorem dX12_of_80 : decode cX12_of 80 = .ok (.getfield 13, 3) := by decide +kernel
theorem dX12_of_83 : decode cX12_of 83 = .ok (.sipush 770, 3) := by decide +kernel
theorem dX12_of_86 : decode cX12_of 86 = .ok (.iload_n 1, 1) := by decide +kernel
theorem dX12_of_87 : decode cX12_of 87 = .ok (.iadd, 1) := by decide +kernel
theorem dX12_of_88 : decode cX12_of 88 = .ok (.iaload, 1) := by decide +kernel
theorem dX12_of_89 : decode cX12_of 89 = .ok (.ireturn, 1) := by decide +kernel
theorem dX12_of_90 : decode cX12_of 90 = .ok (.aload_n 0, 1) := by decide +kernel
theorem dX12_of_91 : decode cX12_of 91 = .ok (.getfield 13, 3) := by decide +kernel
theorem dX12_of_94 : decode cX12_of 94 = .ok (.sipush 830, 3) := by decide +kernel
theorem dX12_of_97 : decode cX12_of 97 = .ok (.iload_n 1, 1) := by decide +kernel
theorem dX12_of_98 : decode cX12_of 98 = .ok (.iadd, 1) := by decide +kernel
theorem dX12_of_99 : decode cX12_of 99 = .ok (.iaload, 1) := by decide +kernel
theorem dX12_of_100 : decode cX12_of 100 = .ok (.ireturn, 1) := by decide +kernel
theorem dX12_of_101 : decode cX12_of 101 = .ok (.aload_n 0, 1) := by decide +kernel
theorem dX12_of_102 : decode cX12_of 102 = .ok (.getfield 13, 3) := by decide +kernel
theorem dX12_of_105 : decode cX12_of 105 = .ok (.sipush 890, 3) := by decide +kernel
theorem dX12_of_108 : decode cX12_of 108 = .ok (.iload_n 1, 1) := by decide +kernel
theorem dX12_of_109 : decode cX12_of 109 = .ok (.iadd, 1) := by decide +kernel
theorem dX12_of_110 : decode cX12_of 110 = .ok (.iaload, 1) := by decide +kernel
theorem dX12_of_111 : decode cX12_of 111 = .ok (.ireturn, 1) := by decide +kernel
theorem dX12_of_112 : decode cX12_of 112 = .ok (.aload_n 0, 1) := by decide +kernel
theorem dX12_of_113 : decode cX12_of 113 = .ok (.getfield 13, 3) := by decide +kernel
theorem dX12_of_116 : decode cX12_of 116 = .ok (.sipush 950, 3) := by decide +kernel
theorem dX12_of_119 : decode cX12_of 119 = .ok (.iload_n 1, 1) := by decide +kernel
theorem dX12_of_120 : decode cX12_of 120 = .ok (.iadd, 1) := by decide +kernel
theorem dX12_of_121 : decode cX12_of 121 = .ok (.iaload, 1) := by decide +kernel
theorem dX12_of_122 : decode cX12_of 122 = .ok (.ireturn, 1) := by decide +kernel
theorem dX12_of_123 : decode cX12_of 123 = .ok (.aload_n 0, 1) := by decide +kernel
theorem dX12_of_124 : decode cX12_of 124 = .ok (.getfield 13, 3) := by decide +kernel
theorem dX12_of_127 : decode cX12_of 127 = .ok (.sipush 1010, 3) := by decide +kernel
theorem dX12_of_130 : decode cX12_of 130 = .ok (.iload_n 1, 1) := by decide +kernel
theorem dX12_of_131 : decode cX12_of 131 = .ok (.iadd, 1) := by decide +kernel
theorem dX12_of_132 : decode cX12_of 132 = .ok (.iaload, 1) := by decide +kernel
theorem dX12_of_133 : decode cX12_of 133 = .ok (.ireturn, 1) := by decide +kernel
theorem dX12_of_134 : decode cX12_of 134 = .ok (.aload_n 0, 1) := by decide +kernel
theorem dX12_of_135 : decode cX12_of 135 = .ok (.iload_n 1, 1) := by decide +kernel
theorem dX12_of_136 : decode cX12_of 136 = .ok (.invokevirtual 251, 3) := by decide +kernel
theorem dX12_of_139 : decode cX12_of 139 = .ok (.ifCond .eq 7, 3) := by decide +kernel
theorem dX12_of_142 : decode cX12_of 142 = .ok (.iconst 1, 1) := by decide +kernel
theorem dX12_of_143 : decode cX12_of 143 = .ok (.goto 4, 3) := by decide +kernel
theorem dX12_of_146 : decode cX12_of 146 = .ok (.iconst 0, 1) := by decide +kernel
theorem dX12_of_147 : decode cX12_of 147 = .ok (.ireturn, 1) := by decide +kernel
theorem dX12_of_148 : decode cX12_of 148 = .ok (.aload_n 0, 1) := by decide +kernel
theorem dX12_of_149 : decode cX12_of 149 = .ok (.iload_n 1, 1) := by decide +kernel
theorem dX12_of_150 : decode cX12_of 150 = .ok (.invokevirtual 263, 3) := by decide +kernel
theorem dX12_of_153 : decode cX12_of 153 = .ok (.ireturn, 1) := by decide +kernel
theorem dX12_of_154 : decode cX12_of 154 = .ok (.aload_n 0, 1) := by decide +kernel
theorem dX12_of_155 : decode cX12_of 155 = .ok (.iload_n 1, 1) := by decide +kernel
theorem dX12_of_156 : decode cX12_of 156 = .ok (.aload_n 0, 1) := by decide +kernel
theorem dX12_of_157 : decode cX12_of 157 = .ok (.getfield 13, 3) := by decide +kernel
theorem dX12_of_160 : decode cX12_of 160 = .ok (.sipush 607, 3) := by decide +kernel
theorem dX12_of_163 : decode cX12_of 163 = .ok (.aload_n 0, 1) := by decide +kernel
theorem dX12_of_164 : decode cX12_of 164 = .ok (.getfield 13, 3) := by decide +kernel
theorem dX12_of_167 : decode cX12_of 167 = .ok (.sipush 710, 3) := by decide +kernel
theorem dX12_of_170 : decode cX12_of 170 = .ok (.iload_n 1, 1) := by decide +kernel
theorem dX12_of_171 : decode cX12_of 171 = .ok (.iadd, 1) := by decide +kernel
theorem dX12_of_172 : decode cX12_of 172 = .ok (.iaload, 1) := by decide +kernel
theorem dX12_of_173 : decode cX12_of 173 = .ok (.iadd, 1) := by decide +kernel
theorem dX12_of_174 : decode cX12_of 174 = .ok (.iaload, 1) := by decide +kernel
theorem dX12_of_175 : decode cX12_of 175 = .ok (.invokevirtual 260, 3) := by decide +kernel
theorem dX12_of_178 : decode cX12_of 178 = .ok (.ireturn, 1) := by decide +kernel
theorem dX12_of_179 : decode cX12_of 179 = .ok (.sipush (-1000), 3) := by decide +kernel
theorem dX12_of_182 : decode cX12_of 182 = .ok (.ireturn, 1) := by decide +kernel
theorem dX12_isPassed_0 : decode cX12_isPassed 0 = .ok (.aload_n 0, 1) := by decide +kernel
theorem dX12_isPassed_1 : decode cX12_isPassed 1 = .ok (.getfield 13, 3) := by decide +kernel
theorem dX12_isPassed_4 : decode cX12_isPassed 4 = .ok (.sipush 1010, 3) := by decide +kernel
theorem dX12_isPassed_7 : decode cX12_isPassed 7 = .ok (.iload_n 1, 1) := by decide +kernel
theorem dX12_isPassed_8 : decode cX12_isPassed 8 = .ok (.iadd, 1) := by decide +kernel
theorem dX12_isPassed_9 : decode cX12_isPassed 9 = .ok (.iaload, 1) := by decide +kernel
theorem dX12_isPassed_10 : decode cX12_isPassed 10 = .ok (.ifCond .ne 36, 3) := by decide +kernel
theorem dX12_isPassed_13 : decode cX12_isPassed 13 = .ok (.aload_n 0, 1) := by decide +kernel
theorem dX12_isPassed_14 : decode cX12_isPassed 14 = .ok (.getfield 13, 3) := by decide +kernel
theorem dX12_isPassed_17 : decode cX12_isPassed 17 = .ok (.sipush 708, 3) := by decide +kernel
theorem dX12_isPassed_20 : decode cX12_isPassed 20 = .ok (.iaload, 1) := by decide +kernel
theorem dX12_isPassed_21 : decode cX12_isPassed 21 = .ok (.aload_n 0, 1) := by decide +kernel
theorem dX12_isPassed_22 : decode cX12_isPassed 22 = .ok (.getfield 13, 3) := by decide +kernel
theorem dX12_isPassed_25 : decode cX12_isPassed 25 = .ok (.sipush 890, 3) := by decide +kernel
theorem dX12_isPassed_28 : decode cX12_isPassed 28 = .ok (.iload_n 1, 1) := by decide +kernel
theorem dX12_isPassed_29 : decode cX12_isPassed 29 = .ok (.iadd, 1) := by decide +kernel
theorem dX12_isPassed_30 : decode cX12_isPassed 30 = .ok (.iaload, 1) := by decide +kernel
theorem dX12_isPassed_31 : decode cX12_isPassed 31 = .ok (.isub, 1) := by decide +kernel
theorem dX12_isPassed_32 : decode cX12_isPassed 32 = .ok (.aload_n 0, 1) := by decide +kernel
theorem dX12_isPassed_33 : decode cX12_isPassed 33 = .ok (.getfield 13, 3) := by decide +kernel
theorem dX12_isPassed_36 : decode cX12_isPassed 36 = .ok (.bipush 28, 2) := by decide +kernel
theorem dX12_isPassed_38 : decode cX12_isPassed 38 = .ok (.iaload, 1) := by decide +kernel
theorem dX12_isPassed_39 : decode cX12_isPassed 39 = .ok (.if_icmp .lt 7, 3) := by decide +kernel
theorem dX12_isPassed_42 : decode cX12_isPassed 42 = .ok (.iconst 1, 1) := by decide +kernel
theorem dX12_isPassed_43 : decode cX12_isPassed 43 = .ok (.goto 4, 3) := by decide +kernel
theorem dX12_isPassed_46 : decode cX12_isPassed 46 = .ok (.iconst 0, 1) := by decide +kernel
theorem dX12_isPassed_47 : decode cX12_isPassed 47 = .ok (.ireturn, 1) := by decide +kernel
theorem dX12_passed_0 : decode cX12_passed 0 = .ok (.aload_n 0, 1) := by decide +kernel
theorem dX12_passed_1 : decode cX12_passed 1 = .ok (.iconst 0, 1) := by decide +kernel
theorem dX12_passed_2 : decode cX12_passed 2 = .ok (.putfield 1, 3) := by decide +kernel
theorem dX12_passed_5 : decode cX12_passed 5 = .ok (.iconst 0, 1) := by decide +kernel
theorem dX12_passed_6 : decode cX12_passed 6 = .ok (.istore_n 2, 1) := by decide +kernel
theorem dX12_passed_7 : decode cX12_passed 7 = .ok (.iconst 0, 1) := by decide +kernel
theorem dX12_passed_8 : decode cX12_passed 8 = .ok (.istore_n 3, 1) := by decide +kernel
theorem dX12_passed_9 : decode cX12_passed 9 = .ok (.iload_n 3, 1) := by decide +kernel
theorem dX12_passed_10 : decode cX12_passed 10 = .ok (.aload_n 0, 1) := by decide +kernel
theorem dX12_passed_11 : decode cX12_passed 11 = .ok (.getfield 13, 3) := by decide +kernel
theorem dX12_passed_14 : decode cX12_passed 14 = .ok (.sipush 709, 3) := by decide +kernel
theorem dX12_passed_17 : decode cX12_passed 17 = .ok (.iaload, 1) := by decide +kernel
theorem dX12_passed_18 : decode cX12_passed 18 = .ok (.if_icmp .ge 30, 3) := by decide +kernel
theorem dX12_passed_21 : decode cX12_passed 21 = .ok (.aload_n 0, 1) := by decide +kernel
theorem dX12_passed_22 : decode cX12_passed 22 = .ok (.iload_n 3, 1) := by decide +kernel
theorem dX12_passed_23 : decode cX12_passed 23 = .ok (.invokevirtual 266, 3) := by decide +kernel
theorem dX12_passed_26 : decode cX12_passed 26 = .ok (.ifCond .ne 6, 3) := by decide +kernel
theorem dX12_passed_29 : decode cX12_passed 29 = .ok (.goto 13, 3) := by decide +kernel
theorem dX12_passed_32 : decode cX12_passed 32 = .ok (.iload_n 2, 1) := by decide +kernel
theorem dX12_passed_33 : decode cX12_passed 33 = .ok (.iload_n 1, 1) := by decide +kernel
theorem dX12_passed_34 : decode cX12_passed 34 = .ok (.if_icmp .ne 5, 3) := by decide +kernel
theorem dX12_passed_37 : decode cX12_passed 37 = .ok (.iload_n 3, 1) := by decide +kernel
theorem dX12_passed_38 : decode cX12_passed 38 = .ok (.ireturn, 1) := by decide +kernel
theorem dX12_passed_39 : decode cX12_passed 39 = .ok (.iinc 2 1, 3) := by decide +kernel
theorem dX12_passed_42 : decode cX12_passed 42 = .ok (.iinc 3 1, 3) := by decide +kernel
theorem dX12_passed_45 : decode cX12_passed 45 = .ok (.goto (-36), 3) := by decide +kernel
theorem dX12_passed_48 : decode cX12_passed 48 = .ok (.iload_n 1, 1) := by decide +kernel
theorem dX12_passed_49 : decode cX12_passed 49 = .ok (.iconst (-1), 1) := by decide +kernel
theorem dX12_passed_50 : decode cX12_passed 50 = .ok (.if_icmp .ne 7, 3) := by decide +kernel
theorem dX12_passed_53 : decode cX12_passed 53 = .ok (.iload_n 2, 1) := by decide +kernel
theorem dX12_passed_54 : decode cX12_passed 54 = .ok (.goto 4, 3) := by decide +kernel
theorem dX12_passed_57 : decode cX12_passed 57 = .ok (.iconst (-1), 1) := by decide +kernel
theorem dX12_passed_58 : decode cX12_passed 58 = .ok (.ireturn, 1) := by decide +kernel
theorem dX12_sale_0 : decode cX12_sale 0 = .ok (.aload_n 0, 1) := by decide +kernel
theorem dX12_sale_1 : decode cX12_sale 1 = .ok (.iconst 0, 1) := by decide +kernel
theorem dX12_sale_2 : decode cX12_sale 2 = .ok (.putfield 1, 3) := by decide +kernel
theorem dX12_sale_5 : decode cX12_sale 5 = .ok (.aload_n 0, 1) := by decide +kernel
theorem dX12_sale_6 : decode cX12_sale 6 = .ok (.iload_n 1, 1) := by decide +kernel
theorem dX12_sale_7 : decode cX12_sale 7 = .ok (.invokevirtual 257, 3) := by decide +kernel
theorem dX12_sale_10 : decode cX12_sale 10 = .ok (.ifCond .eq 31, 3) := by decide +kernel
theorem dX12_sale_13 : decode cX12_sale 13 = .ok (.aload_n 0, 1) := by decide +kernel
theorem dX12_sale_14 : decode cX12_sale 14 = .ok (.iload_n 1, 1) := by decide +kernel
theorem dX12_sale_15 : decode cX12_sale 15 = .ok (.invokevirtual 266, 3) := by decide +kernel
theorem dX12_sale_18 : decode cX12_sale 18 = .ok (.ifCond .eq 23, 3) := by decide +kernel
theorem dX12_sale_21 : decode cX12_sale 21 = .ok (.aload_n 0, 1) := by decide +kernel
theorem dX12_sale_22 : decode cX12_sale 22 = .ok (.iload_n 1, 1) := by decide +kernel
theorem dX12_sale_23 : decode cX12_sale 23 = .ok (.invokevirtual 251, 3) := by decide +kernel
theorem dX12_sale_26 : decode cX12_sale 26 = .ok (.ifCond .ne 15, 3) := by decide +kernel
theorem dX12_sale_29 : decode cX12_sale 29 = .ok (.iload_n 2, 1) := by decide +kernel
theorem dX12_sale_30 : decode cX12_sale 30 = .ok (.i2l, 1) := by decide +kernel
theorem dX12_sale_31 : decode cX12_sale 31 = .ok (.lconst 0, 1) := by decide +kernel
theorem dX12_sale_32 : decode cX12_sale 32 = .ok (.ldc2_w 213, 3) := by decide +kernel
theorem dX12_sale_35 : decode cX12_sale 35 = .ok (.invokestatic 142, 3) := by decide +kernel
theorem dX12_sale_38 : decode cX12_sale 38 = .ok (.ifCond .ne 6, 3) := by decide +kernel
theorem dX12_sale_41 : decode cX12_sale 41 = .ok (.ldc 218, 2) := by decide +kernel
theorem dX12_sale_43 : decode cX12_sale 43 = .ok (.ireturn, 1) := by decide +kernel
theorem dX12_sale_44 : decode cX12_sale 44 = .ok (.aload_n 0, 1) := by decide +kernel
theorem dX12_sale_45 : decode cX12_sale 45 = .ok (.iload_n 1, 1) := by decide +kernel
theorem dX12_sale_46 : decode cX12_sale 46 = .ok (.invokevirtual 245, 3) := by decide +kernel
theorem dX12_sale_49 : decode cX12_sale 49 = .ok (.istore_n 3, 1) := by decide +kernel
theorem dX12_sale_50 : decode cX12_sale 50 = .ok (.aload_n 0, 1) := by decide +kernel
theorem dX12_sale_51 : decode cX12_sale 51 = .ok (.iload_n 1, 1) := by decide +kernel
theorem dX12_sale_52 : decode cX12_sale 52 = .ok (.invokevirtual 240, 3) := by decide +kernel
theorem dX12_sale_55 : decode cX12_sale 55 = .ok (.istore 4, 2) := by decide +kernel
theorem dX12_sale_57 : decode cX12_sale 57 = .ok (.iconst 2, 1) := by decide +kernel
theorem dX12_sale_58 : decode cX12_sale 58 = .ok (.iload_n 2, 1) := by decide +kernel
theorem dX12_sale_59 : decode cX12_sale 59 = .ok (.imul, 1) := by decide +kernel
theorem dX12_sale_60 : decode cX12_sale 60 = .ok (.iconst 2, 1) := by decide +kernel
theorem dX12_sale_61 : decode cX12_sale 61 = .ok (.aload_n 0, 1) := by decide +kernel
theorem dX12_sale_62 : decode cX12_sale 62 = .ok (.getfield 13, 3) := by decide +kernel
theorem dX12_sale_65 : decode cX12_sale 65 = .ok (.sipush 830, 3) := by decide +kernel
theorem dX12_sale_68 : decode cX12_sale 68 = .ok (.iload_n 1, 1) := by decide +kernel
theorem dX12_sale_69 : decode cX12_sale 69 = .ok (.iadd, 1) := by decide +kernel
theorem dX12_sale_70 : decode cX12_sale 70 = .ok (.iaload, 1) := by decide +kernel
theorem dX12_sale_71 : decode cX12_sale 71 = .ok (.imul, 1) := by decide +kernel
theorem dX12_sale_72 : decode cX12_sale 72 = .ok (.isub, 1) := by decide +kernel
theorem dX12_sale_73 : decode cX12_sale 73 = .ok (.istore 5, 2) := by decide +kernel
theorem dX12_sale_75 : decode cX12_sale 75 = .ok (.iload 5, 2) := by decide +kernel
theorem dX12_sale_77 : decode cX12_sale 77 = .ok (.ifCond .ge 7, 3) := by decide +kernel
theorem dX12_sale_80 : decode cX12_sale 80 = .ok (.iconst 0, 1) := by decide +kernel
theorem dX12_sale_81 : decode cX12_sale 81 = .ok (.goto 17, 3) := by decide +kernel
theorem dX12_sale_84 : decode cX12_sale 84 = .ok (.iload 5, 2) := by decide +kernel
theorem dX12_sale_86 : decode cX12_sale 86 = .ok (.iload 4, 2) := by decide +kernel
theorem dX12_sale_88 : decode cX12_sale 88 = .ok (.if_icmp .le 8, 3) := by decide +kernel
theorem dX12_sale_91 : decode cX12_sale 91 = .ok (.iload 4, 2) := by decide +kernel
theorem dX12_sale_93 : decode cX12_sale 93 = .ok (.goto 5, 3) := by decide +kernel
theorem dX12_sale_96 : decode cX12_sale 96 = .ok (.iload 5, 2) := by decide +kernel
theorem dX12_sale_98 : decode cX12_sale 98 = .ok (.istore 5, 2) := by decide +kernel
theorem dX12_sale_100 : decode cX12_sale 100 = .ok (.aload_n 0, 1) := by decide +kernel
theorem dX12_sale_101 : decode cX12_sale 101 = .ok (.getfield 13, 3) := by decide +kernel
theorem dX12_sale_104 : decode cX12_sale 104 = .ok (.sipush 2083, 3) := by decide +kernel
theorem dX12_sale_107 : decode cX12_sale 107 = .ok (.aload_n 0, 1) := by decide +kernel
theorem dX12_sale_108 : decode cX12_sale 108 = .ok (.getfield 13, 3) := by decide +kernel
theorem dX12_sale_111 : decode cX12_sale 111 = .ok (.sipush 708, 3) := by decide +kernel
theorem dX12_sale_114 : decode cX12_sale 114 = .ok (.iaload, 1) := by decide +kernel
theorem dX12_sale_115 : decode cX12_sale 115 = .ok (.iadd, 1) := by decide +kernel
theorem dX12_sale_116 : decode cX12_sale 116 = .ok (.dup2, 1) := by decide +kernel
theorem dX12_sale_117 : decode cX12_sale 117 = .ok (.iaload, 1) := by decide +kernel
theorem dX12_sale_118 : decode cX12_sale 118 = .ok (.iload 5, 2) := by decide +kernel
theorem dX12_sale_120 : decode cX12_sale 120 = .ok (.iadd, 1) := by decide +kernel
theorem dX12_sale_121 : decode cX12_sale 121 = .ok (.iastore, 1) := by decide +kernel
theorem dX12_sale_122 : decode cX12_sale 122 = .ok (.aload_n 0, 1) := by decide +kernel
theorem dX12_sale_123 : decode cX12_sale 123 = .ok (.getfield 13, 3) := by decide +kernel
theorem dX12_sale_126 : decode cX12_sale 126 = .ok (.sipush 2986, 3) := by decide +kernel
theorem dX12_sale_129 : decode cX12_sale 129 = .ok (.aload_n 0, 1) := by decide +kernel
theorem dX12_sale_130 : decode cX12_sale 130 = .ok (.getfield 13, 3) := by decide +kernel
theorem dX12_sale_133 : decode cX12_sale 133 = .ok (.sipush 708, 3) := by decide +kernel
theorem dX12_sale_136 : decode cX12_sale 136 = .ok (.iaload, 1) := by decide +kernel
theorem dX12_sale_137 : decode cX12_sale 137 = .ok (.iadd, 1) := by decide +kernel
theorem dX12_sale_138 : decode cX12_sale 138 = .ok (.dup2, 1) := by decide +kernel
theorem dX12_sale_139 : decode cX12_sale 139 = .ok (.iaload, 1) := by decide +kernel
theorem dX12_sale_140 : decode cX12_sale 140 = .ok (.iconst 1, 1) := by decide +kernel
theorem dX12_sale_141 : decode cX12_sale 141 = .ok (.iadd, 1) := by decide +kernel
theorem dX12_sale_142 : decode cX12_sale 142 = .ok (.iastore, 1) := by decide +kernel
theorem dX12_sale_143 : decode cX12_sale 143 = .ok (.aload_n 0, 1) := by decide +kernel
theorem dX12_sale_144 : decode cX12_sale 144 = .ok (.getfield 13, 3) := by decide +kernel
theorem dX12_sale_147 : decode cX12_sale 147 = .ok (.sipush 3287, 3) := by decide +kernel
theorem dX12_sale_150 : decode cX12_sale 150 = .ok (.aload_n 0, 1) := by decide +kernel
theorem dX12_sale_151 : decode cX12_sale 151 = .ok (.getfield 13, 3) := by decide +kernel
theorem dX12_sale_154 : decode cX12_sale 154 = .ok (.sipush 708, 3) := by decide +kernel
theorem dX12_sale_157 : decode cX12_sale 157 = .ok (.iaload, 1) := by decide +kernel
theorem dX12_sale_158 : decode cX12_sale 158 = .ok (.iadd, 1) := by decide +kernel
theorem dX12_sale_159 : decode cX12_sale 159 = .ok (.dup2, 1) := by decide +kernel
theorem dX12_sale_160 : decode cX12_sale 160 = .ok (.iaload, 1) := by decide +kernel
theorem dX12_sale_161 : decode cX12_sale 161 = .ok (.iconst 2, 1) := by decide +kernel
theorem dX12_sale_162 : decode cX12_sale 162 = .ok (.iload_n 2, 1) := by decide +kernel
theorem dX12_sale_163 : decode cX12_sale 163 = .ok (.imul, 1) := by decide +kernel
theorem dX12_sale_164 : decode cX12_sale 164 = .ok (.iload_n 3, 1) := by decide +kernel
theorem dX12_sale_165 : decode cX12_sale 165 = .ok (.if_icmp .ge 9, 3) := by decide +kernel
theorem dX12_sale_168 : decode cX12_sale 168 = .ok (.iconst 2, 1) := by decide +kernel
theorem dX12_sale_169 : decode cX12_sale 169 = .ok (.iload_n 2, 1) := by decide +kernel
theorem dX12_sale_170 : decode cX12_sale 170 = .ok (.imul, 1) := by decide +kernel
theorem dX12_sale_171 : decode cX12_sale 171 = .ok (.goto 4, 3) := by decide +kernel
theorem dX12_sale_174 : decode cX12_sale 174 = .ok (.iload_n 3, 1) := by decide +kernel
theorem dX12_sale_175 : decode cX12_sale 175 = .ok (.iadd, 1) := by decide +kernel
theorem dX12_sale_176 : decode cX12_sale 176 = .ok (.iastore, 1) := by decide +kernel
theorem dX12_sale_177 : decode cX12_sale 177 = .ok (.aload_n 0, 1) := by decide +kernel
theorem dX12_sale_178 : decode cX12_sale 178 = .ok (.getfield 13, 3) := by decide +kernel
theorem dX12_sale_181 : decode cX12_sale 181 = .ok (.sipush 1250, 3) := by decide +kernel
theorem dX12_sale_184 : decode cX12_sale 184 = .ok (.iload_n 1, 1) := by decide +kernel
theorem dX12_sale_185 : decode cX12_sale 185 = .ok (.iadd, 1) := by decide +kernel
theorem dX12_sale_186 : decode cX12_sale 186 = .ok (.iconst 2, 1) := by decide +kernel
theorem dX12_sale_187 : decode cX12_sale 187 = .ok (.iload_n 2, 1) := by decide +kernel
theorem dX12_sale_188 : decode cX12_sale 188 = .ok (.imul, 1) := by decide +kernel
theorem dX12_sale_189 : decode cX12_sale 189 = .ok (.iload_n 3, 1) := by decide +kernel
theorem dX12_sale_190 : decode cX12_sale 190 = .ok (.if_icmp .le 11, 3) := by decide +kernel
theorem dX12_sale_193 : decode cX12_sale 193 = .ok (.iconst 2, 1) := by decide +kernel
theorem dX12_sale_194 : decode cX12_sale 194 = .ok (.iload_n 2, 1) := by decide +kernel
theorem dX12_sale_195 : decode cX12_sale 195 = .ok (.imul, 1) := by decide +kernel
theorem dX12_sale_196 : decode cX12_sale 196 = .ok (.iload_n 3, 1) := by decide +kernel
theorem dX12_sale_197 : decode cX12_sale 197 = .ok (.isub, 1) := by decide +kernel
theorem dX12_sale_198 : decode cX12_sale 198 = .ok (.goto 4, 3) := by decide +kernel
theorem dX12_sale_201 : decode cX12_sale 201 = .ok (.iconst 0, 1) := by decide +kernel
theorem dX12_sale_202 : decode cX12_sale 202 = .ok (.iastore, 1) := by decide +kernel
theorem dX12_sale_203 : decode cX12_sale 203 = .ok (.aload_n 0, 1) := by decide +kernel
theorem dX12_sale_204 : decode cX12_sale 204 = .ok (.iload_n 1, 1) := by decide +kernel
theorem dX12_sale_205 : decode cX12_sale 205 = .ok (.iconst 2, 1) := by decide +kernel
theorem dX12_sale_206 : decode cX12_sale 206 = .ok (.invokevirtual 254, 3) := by decide +kernel
theorem dX12_sale_209 : decode cX12_sale 209 = .ok (.iconst 2, 1) := by decide +kernel
theorem dX12_sale_210 : decode cX12_sale 210 = .ok (.iload_n 2, 1) := by decide +kernel
theorem dX12_sale_211 : decode cX12_sale 211 = .ok (.imul, 1) := by decide +kernel
theorem dX12_sale_212 : decode cX12_sale 212 = .ok (.iload_n 3, 1) := by decide +kernel
theorem dX12_sale_213 : decode cX12_sale 213 = .ok (.isub, 1) := by decide +kernel
theorem dX12_sale_214 : decode cX12_sale 214 = .ok (.ireturn, 1) := by decide +kernel
theorem dX12_over_0 : decode cX12_over 0 = .ok (.aload_n 0, 1) := by decide +kernel
theorem dX12_over_1 : decode cX12_over 1 = .ok (.iconst 0, 1) := by decide +kernel
theorem dX12_over_2 : decode cX12_over 2 = .ok (.putfield 1, 3) := by decide +kernel
theorem dX12_over_5 : decode cX12_over 5 = .ok (.aload_n 0, 1) := by decide +kernel
theorem dX12_over_6 : decode cX12_over 6 = .ok (.iload_n 1, 1) := by decide +kernel
theorem dX12_over_7 : decode cX12_over 7 = .ok (.invokevirtual 257, 3) := by decide +kernel
theorem dX12_over_10 : decode cX12_over 10 = .ok (.ifCond .ne 6, 3) := by decide +kernel
theorem dX12_over_13 : decode cX12_over 13 = .ok (.bipush (-2), 2) := by decide +kernel
theorem dX12_over_15 : decode cX12_over 15 = .ok (.ireturn, 1) := by decide +kernel
theorem dX12_over_16 : decode cX12_over 16 = .ok (.aload_n 0, 1) := by decide +kernel
theorem dX12_over_17 : decode cX12_over 17 = .ok (.getfield 13, 3) := by decide +kernel
theorem dX12_over_20 : decode cX12_over 20 = .ok (.sipush 1010, 3) := by decide +kernel
theorem dX12_over_23 : decode cX12_over 23 = .ok (.iload_n 1, 1) := by decide +kernel
theorem dX12_over_24 : decode cX12_over 24 = .ok (.iadd, 1) := by decide +kernel
theorem dX12_over_25 : decode cX12_over 25 = .ok (.iaload, 1) := by decide +kernel
theorem dX12_over_26 : decode cX12_over 26 = .ok (.iconst 2, 1) := by decide +kernel
theorem dX12_over_27 : decode cX12_over 27 = .ok (.if_icmp .ne 27, 3) := by decide +kernel
theorem dX12_over_30 : decode cX12_over 30 = .ok (.aload_n 0, 1) := by decide +kernel
theorem dX12_over_31 : decode cX12_over 31 = .ok (.getfield 13, 3) := by decide +kernel
theorem dX12_over_34 : decode cX12_over 34 = .ok (.sipush 708, 3) := by decide +kernel
theorem dX12_over_37 : decode cX12_over 37 = .ok (.iaload, 1) := by decide +kernel
theorem dX12_over_38 : decode cX12_over 38 = .ok (.aload_n 0, 1) := by decide +kernel
theorem dX12_over_39 : decode cX12_over 39 = .ok (.getfield 13, 3) := by decide +kernel
theorem dX12_over_42 : decode cX12_over 42 = .ok (.sipush 1190, 3) := by decide +kernel
theorem dX12_over_45 : decode cX12_over 45 = .ok (.iload_n 1, 1) := by decide +kernel
theorem dX12_over_46 : decode cX12_over 46 = .ok (.iadd, 1) := by decide +kernel
theorem dX12_over_47 : decode cX12_over 47 = .ok (.iaload, 1) := by decide +kernel
theorem dX12_over_48 : decode cX12_over 48 = .ok (.isub, 1) := by decide +kernel
theorem dX12_over_49 : decode cX12_over 49 = .ok (.bipush 52, 2) := by decide +kernel
theorem dX12_over_51 : decode cX12_over 51 = .ok (.if_icmp .lt 6, 3) := by decide +kernel
theorem dX12_over_54 : decode cX12_over 54 = .ok (.bipush (-5), 2) := by decide +kernel
theorem dX12_over_56 : decode cX12_over 56 = .ok (.ireturn, 1) := by decide +kernel
theorem dX12_over_57 : decode cX12_over 57 = .ok (.aload_n 0, 1) := by decide +kernel
theorem dX12_over_58 : decode cX12_over 58 = .ok (.getfield 13, 3) := by decide +kernel
theorem dX12_over_61 : decode cX12_over 61 = .ok (.sipush 1250, 3) := by decide +kernel
theorem dX12_over_64 : decode cX12_over 64 = .ok (.iload_n 1, 1) := by decide +kernel
theorem dX12_over_65 : decode cX12_over 65 = .ok (.iadd, 1) := by decide +kernel
theorem dX12_over_66 : decode cX12_over 66 = .ok (.iaload, 1) := by decide +kernel
theorem dX12_over_67 : decode cX12_over 67 = .ok (.istore_n 2, 1) := by decide +kernel
theorem dX12_over_68 : decode cX12_over 68 = .ok (.aload_n 0, 1) := by decide +kernel
theorem dX12_over_69 : decode cX12_over 69 = .ok (.getfield 13, 3) := by decide +kernel
theorem dX12_over_72 : decode cX12_over 72 = .ok (.sipush 1250, 3) := by decide +kernel
theorem dX12_over_75 : decode cX12_over 75 = .ok (.iload_n 1, 1) := by decide +kernel
theorem dX12_over_76 : decode cX12_over 76 = .ok (.iadd, 1) := by decide +kernel
theorem dX12_over_77 : decode cX12_over 77 = .ok (.iconst 0, 1) := by decide +kernel
theorem dX12_over_78 : decode cX12_over 78 = .ok (.iastore, 1) := by decide +kernel
theorem dX12_over_79 : decode cX12_over 79 = .ok (.aload_n 0, 1) := by decide +kernel
theorem dX12_over_80 : decode cX12_over 80 = .ok (.getfield 13, 3) := by decide +kernel
theorem dX12_over_83 : decode cX12_over 83 = .ok (.sipush 692, 3) := by decide +kernel
theorem dX12_over_86 : decode cX12_over 86 = .ok (.aload_n 0, 1) := by decide +kernel
theorem dX12_over_87 : decode cX12_over 87 = .ok (.getfield 13, 3) := by decide +kernel
theorem dX12_over_90 : decode cX12_over 90 = .ok (.sipush 770, 3) := by decide +kernel
theorem dX12_over_93 : decode cX12_over 93 = .ok (.iload_n 1, 1) := by decide +kernel
theorem dX12_over_94 : decode cX12_over 94 = .ok (.iadd, 1) := by decide +kernel
theorem dX12_over_95 : decode cX12_over 95 = .ok (.iaload, 1) := by decide +kernel
theorem dX12_over_96 : decode cX12_over 96 = .ok (.iadd, 1) := by decide +kernel
theorem dX12_over_97 : decode cX12_over 97 = .ok (.dup2, 1) := by decide +kernel
theorem dX12_over_98 : decode cX12_over 98 = .ok (.iaload, 1) := by decide +kernel
theorem dX12_over_99 : decode cX12_over 99 = .ok (.iload_n 2, 1) := by decide +kernel
theorem dX12_over_100 : decode cX12_over 100 = .ok (.iadd, 1) := by decide +kernel
theorem dX12_over_101 : decode cX12_over 101 = .ok (.iastore, 1) := by decide +kernel
theorem dX12_over_102 : decode cX12_over 102 = .ok (.iload_n 2, 1) := by decide +kernel
theorem dX12_over_103 : decode cX12_over 103 = .ok (.ireturn, 1) := by decide +kernel
theorem dX12_gainedBy_0 : decode cX12_gainedBy 0 = .ok (.ldc2_w 243, 3) := by decide +kernel
theorem dX12_gainedBy_3 : decode cX12_gainedBy 3 = .ok (.iload_n 2, 1) := by decide +kernel
theorem dX12_gainedBy_4 : decode cX12_gainedBy 4 = .ok (.i2l, 1) := by decide +kernel
theorem dX12_gainedBy_5 : decode cX12_gainedBy 5 = .ok (.lmul, 1) := by decide +kernel
theorem dX12_gainedBy_6 : decode cX12_gainedBy 6 = .ok (.iload_n 3, 1) := by decide +kernel
theorem dX12_gainedBy_7 : decode cX12_gainedBy 7 = .ok (.i2l, 1) := by decide +kernel
theorem dX12_gainedBy_8 : decode cX12_gainedBy 8 = .ok (.ladd, 1) := by decide +kernel
theorem dX12_gainedBy_9 : decode cX12_gainedBy 9 = .ok (.lstore 5, 2) := by decide +kernel
theorem dX12_gainedBy_11 : decode cX12_gainedBy 11 = .ok (.lconst 0, 1) := by decide +kernel
theorem dX12_gainedBy_12 : decode cX12_gainedBy 12 = .ok (.lstore 7, 2) := by decide +kernel
theorem dX12_gainedBy_14 : decode cX12_gainedBy 14 = .ok (.aload_n 0, 1) := by decide +kernel
theorem dX12_gainedBy_15 : decode cX12_gainedBy 15 = .ok (.getfield 13, 3) := by decide +kernel
theorem dX12_gainedBy_18 : decode cX12_gainedBy 18 = .ok (.sipush 595, 3) := by decide +kernel
theorem dX12_gainedBy_21 : decode cX12_gainedBy 21 = .ok (.iload_n 1, 1) := by decide +kernel
theorem dX12_gainedBy_22 : decode cX12_gainedBy 22 = .ok (.iadd, 1) := by decide +kernel
theorem dX12_gainedBy_23 : decode cX12_gainedBy 23 = .ok (.iaload, 1) := by decide +kernel
theorem dX12_gainedBy_24 : decode cX12_gainedBy 24 = .ok (.istore 9, 2) := by decide +kernel
theorem dX12_gainedBy_26 : decode cX12_gainedBy 26 = .ok (.iload 9, 2) := by decide +kernel
theorem dX12_gainedBy_28 : decode cX12_gainedBy 28 = .ok (.aload_n 0, 1) := by decide +kernel
theorem dX12_gainedBy_29 : decode cX12_gainedBy 29 = .ok (.getfield 13, 3) := by decide +kernel
theorem dX12_gainedBy_32 : decode cX12_gainedBy 32 = .ok (.sipush 607, 3) := by decide +kernel
theorem dX12_gainedBy_35 : decode cX12_gainedBy 35 = .ok (.iload_n 1, 1) := by decide +kernel
theorem dX12_gainedBy_36 : decode cX12_gainedBy 36 = .ok (.iadd, 1) := by decide +kernel
theorem dX12_gainedBy_37 : decode cX12_gainedBy 37 = .ok (.iaload, 1) := by decide +kernel
theorem dX12_gainedBy_38 : decode cX12_gainedBy 38 = .ok (.if_icmp .gt 39, 3) := by decide +kernel
theorem dX12_gainedBy_41 : decode cX12_gainedBy 41 = .ok (.lload 7, 2) := by decide +kernel
theorem dX12_gainedBy_43 : decode cX12_gainedBy 43 = .ok (.ldc2_w 243, 3) := by decide +kernel
theorem dX12_gainedBy_46 : decode cX12_gainedBy 46 = .ok (.iload 9, 2) := by decide +kernel
theorem dX12_gainedBy_48 : decode cX12_gainedBy 48 = .ok (.i2l, 1) := by decide +kernel
theorem dX12_gainedBy_49 : decode cX12_gainedBy 49 = .ok (.lmul, 1) := by decide +kernel
theorem dX12_gainedBy_50 : decode cX12_gainedBy 50 = .ok (.lload 5, 2) := by decide +kernel
theorem dX12_gainedBy_52 : decode cX12_gainedBy 52 = .ok (.lcmp, 1) := by decide +kernel
theorem dX12_gainedBy_53 : decode cX12_gainedBy 53 = .ok (.ifCond .ge 13, 3) := by decide +kernel
theorem dX12_gainedBy_56 : decode cX12_gainedBy 56 = .ok (.ldc2_w 243, 3) := by decide +kernel
theorem dX12_gainedBy_59 : decode cX12_gainedBy 59 = .ok (.iload 9, 2) := by decide +kernel
theorem dX12_gainedBy_61 : decode cX12_gainedBy 61 = .ok (.i2l, 1) := by decide +kernel
theorem dX12_gainedBy_62 : decode cX12_gainedBy 62 = .ok (.lmul, 1) := by decide +kernel
theorem dX12_gainedBy_63 : decode cX12_gainedBy 63 = .ok (.goto 5, 3) := by decide +kernel
theorem dX12_gainedBy_66 : decode cX12_gainedBy 66 = .ok (.lload 5, 2) := by decide +kernel
theorem dX12_gainedBy_68 : decode cX12_gainedBy 68 = .ok (.ladd, 1) := by decide +kernel
theorem dX12_gainedBy_69 : decode cX12_gainedBy 69 = .ok (.lstore 7, 2) := by decide +kernel
theorem dX12_gainedBy_71 : decode cX12_gainedBy 71 = .ok (.iinc 9 1, 3) := by decide +kernel
theorem dX12_gainedBy_74 : decode cX12_gainedBy 74 = .ok (.goto (-48), 3) := by decide +kernel
theorem dX12_gainedBy_77 : decode cX12_gainedBy 77 = .ok (.aload_n 0, 1) := by decide +kernel
theorem dX12_gainedBy_78 : decode cX12_gainedBy 78 = .ok (.getfield 13, 3) := by decide +kernel
theorem dX12_gainedBy_81 : decode cX12_gainedBy 81 = .ok (.sipush 607, 3) := by decide +kernel
theorem dX12_gainedBy_84 : decode cX12_gainedBy 84 = .ok (.iload_n 1, 1) := by decide +kernel
theorem dX12_gainedBy_85 : decode cX12_gainedBy 85 = .ok (.iadd, 1) := by decide +kernel
theorem dX12_gainedBy_86 : decode cX12_gainedBy 86 = .ok (.iaload, 1) := by decide +kernel
theorem dX12_gainedBy_87 : decode cX12_gainedBy 87 = .ok (.aload_n 0, 1) := by decide +kernel
theorem dX12_gainedBy_88 : decode cX12_gainedBy 88 = .ok (.getfield 13, 3) := by decide +kernel
theorem dX12_gainedBy_91 : decode cX12_gainedBy 91 = .ok (.sipush 595, 3) := by decide +kernel
theorem dX12_gainedBy_94 : decode cX12_gainedBy 94 = .ok (.iload_n 1, 1) := by decide +kernel
theorem dX12_gainedBy_95 : decode cX12_gainedBy 95 = .ok (.iadd, 1) := by decide +kernel
theorem dX12_gainedBy_96 : decode cX12_gainedBy 96 = .ok (.iaload, 1) := by decide +kernel
theorem dX12_gainedBy_97 : decode cX12_gainedBy 97 = .ok (.isub, 1) := by decide +kernel
theorem dX12_gainedBy_98 : decode cX12_gainedBy 98 = .ok (.iconst 1, 1) := by decide +kernel
theorem dX12_gainedBy_99 : decode cX12_gainedBy 99 = .ok (.iadd, 1) := by decide +kernel
theorem dX12_gainedBy_100 : decode cX12_gainedBy 100 = .ok (.i2l, 1) := by decide +kernel
theorem dX12_gainedBy_101 : decode cX12_gainedBy 101 = .ok (.lstore 9, 2) := by decide +kernel
theorem dX12_gainedBy_103 : decode cX12_gainedBy 103 = .ok (.ldc2_w 269, 3) := by decide +kernel
theorem dX12_gainedBy_106 : decode cX12_gainedBy 106 = .ok (.lload 9, 2) := by decide +kernel
theorem dX12_gainedBy_108 : decode cX12_gainedBy 108 = .ok (.lmul, 1) := by decide +kernel
theorem dX12_gainedBy_109 : decode cX12_gainedBy 109 = .ok (.iload 4, 2) := by decide +kernel
theorem dX12_gainedBy_111 : decode cX12_gainedBy 111 = .ok (.i2l, 1) := by decide +kernel
theorem dX12_gainedBy_112 : decode cX12_gainedBy 112 = .ok (.lmul, 1) := by decide +kernel
theorem dX12_gainedBy_113 : decode cX12_gainedBy 113 = .ok (.iload_n 3, 1) := by decide +kernel
theorem dX12_gainedBy_114 : decode cX12_gainedBy 114 = .ok (.i2l, 1) := by decide +kernel
theorem dX12_gainedBy_115 : decode cX12_gainedBy 115 = .ok (.lmul, 1) := by decide +kernel
theorem dX12_gainedBy_116 : decode cX12_gainedBy 116 = .ok (.ldc2_w 269, 3) := by decide +kernel
theorem dX12_gainedBy_119 : decode cX12_gainedBy 119 = .ok (.iload 4, 2) := by decide +kernel
theorem dX12_gainedBy_121 : decode cX12_gainedBy 121 = .ok (.i2l, 1) := by decide +kernel
theorem dX12_gainedBy_122 : decode cX12_gainedBy 122 = .ok (.lsub, 1) := by decide +kernel
theorem dX12_gainedBy_123 : decode cX12_gainedBy 123 = .ok (.ldc2_w 269, 3) := by decide +kernel
theorem dX12_gainedBy_126 : decode cX12_gainedBy 126 = .ok (.aload_n 0, 1) := by decide +kernel
theorem dX12_gainedBy_127 : decode cX12_gainedBy 127 = .ok (.getfield 13, 3) := by decide +kernel
theorem dX12_gainedBy_130 : decode cX12_gainedBy 130 = .ok (.sipush 619, 3) := by decide +kernel
theorem dX12_gainedBy_133 : decode cX12_gainedBy 133 = .ok (.iload_n 1, 1) := by decide +kernel
theorem dX12_gainedBy_134 : decode cX12_gainedBy 134 = .ok (.iadd, 1) := by decide +kernel
theorem dX12_gainedBy_135 : decode cX12_gainedBy 135 = .ok (.iaload, 1) := by decide +kernel
theorem dX12_gainedBy_136 : decode cX12_gainedBy 136 = .ok (.i2l, 1) := by decide +kernel
theorem dX12_gainedBy_137 : decode cX12_gainedBy 137 = .ok (.lsub, 1) := by decide +kernel
theorem dX12_gainedBy_138 : decode cX12_gainedBy 138 = .ok (.lload 7, 2) := by decide +kernel
theorem dX12_gainedBy_140 : decode cX12_gainedBy 140 = .ok (.lmul, 1) := by decide +kernel
theorem dX12_gainedBy_141 : decode cX12_gainedBy 141 = .ok (.ldc2_w 271, 3) := by decide +kernel
theorem dX12_gainedBy_144 : decode cX12_gainedBy 144 = .ok (.lload 9, 2) := by decide +kernel
theorem dX12_gainedBy_146 : decode cX12_gainedBy 146 = .ok (.lmul, 1) := by decide +kernel
theorem dX12_gainedBy_147 : decode cX12_gainedBy 147 = .ok (.iload_n 2, 1) := by decide +kernel
theorem dX12_gainedBy_148 : decode cX12_gainedBy 148 = .ok (.i2l, 1) := by decide +kernel
theorem dX12_gainedBy_149 : decode cX12_gainedBy 149 = .ok (.lmul, 1) := by decide +kernel
theorem dX12_gainedBy_150 : decode cX12_gainedBy 150 = .ok (.lsub, 1) := by decide +kernel
theorem dX12_gainedBy_151 : decode cX12_gainedBy 151 = .ok (.lmul, 1) := by decide +kernel
theorem dX12_gainedBy_152 : decode cX12_gainedBy 152 = .ok (.ladd, 1) := by decide +kernel
theorem dX12_gainedBy_153 : decode cX12_gainedBy 153 = .ok (.lreturn, 1) := by decide +kernel
theorem dX12_lend_0 : decode cX12_lend 0 = .ok (.aload_n 0, 1) := by decide +kernel
theorem dX12_lend_1 : decode cX12_lend 1 = .ok (.iconst 0, 1) := by decide +kernel
theorem dX12_lend_2 : decode cX12_lend 2 = .ok (.putfield 1, 3) := by decide +kernel
theorem dX12_lend_5 : decode cX12_lend 5 = .ok (.aload_n 0, 1) := by decide +kernel
theorem dX12_lend_6 : decode cX12_lend 6 = .ok (.iload_n 1, 1) := by decide +kernel
theorem dX12_lend_7 : decode cX12_lend 7 = .ok (.invokevirtual 273, 3) := by decide +kernel
theorem dX12_lend_10 : decode cX12_lend 10 = .ok (.ifCond .ne 6, 3) := by decide +kernel
theorem dX12_lend_13 : decode cX12_lend 13 = .ok (.bipush (-2), 2) := by decide +kernel
theorem dX12_lend_15 : decode cX12_lend 15 = .ok (.ireturn, 1) := by decide +kernel
theorem dX12_lend_16 : decode cX12_lend 16 = .ok (.iload_n 2, 1) := by decide +kernel
theorem dX12_lend_17 : decode cX12_lend 17 = .ok (.i2l, 1) := by decide +kernel
theorem dX12_lend_18 : decode cX12_lend 18 = .ok (.lconst 0, 1) := by decide +kernel
theorem dX12_lend_19 : decode cX12_lend 19 = .ok (.ldc2_w 269, 3) := by decide +kernel
theorem dX12_lend_22 : decode cX12_lend 22 = .ok (.invokestatic 142, 3) := by decide +kernel
theorem dX12_lend_25 : decode cX12_lend 25 = .ok (.ifCond .eq 15, 3) := by decide +kernel
theorem dX12_lend_28 : decode cX12_lend 28 = .ok (.iload_n 3, 1) := by decide +kernel
theorem dX12_lend_29 : decode cX12_lend 29 = .ok (.i2l, 1) := by decide +kernel
theorem dX12_lend_30 : decode cX12_lend 30 = .ok (.lconst 1, 1) := by decide +kernel
theorem dX12_lend_31 : decode cX12_lend 31 = .ok (.ldc2_w 219, 3) := by decide +kernel
theorem dX12_lend_34 : decode cX12_lend 34 = .ok (.invokestatic 142, 3) := by decide +kernel
theorem dX12_lend_37 : decode cX12_lend 37 = .ok (.ifCond .ne 6, 3) := by decide +kernel
theorem dX12_lend_40 : decode cX12_lend 40 = .ok (.bipush (-3), 2) := by decide +kernel
theorem dX12_lend_42 : decode cX12_lend 42 = .ok (.ireturn, 1) := by decide +kernel
theorem dX12_lend_43 : decode cX12_lend 43 = .ok (.aload_n 0, 1) := by decide +kernel
theorem dX12_lend_44 : decode cX12_lend 44 = .ok (.getfield 13, 3) := by decide +kernel
theorem dX12_lend_47 : decode cX12_lend 47 = .ok (.iconst 0, 1) := by decide +kernel
theorem dX12_lend_48 : decode cX12_lend 48 = .ok (.iaload, 1) := by decide +kernel
theorem dX12_lend_49 : decode cX12_lend 49 = .ok (.ifCond .ne 7, 3) := by decide +kernel
theorem dX12_lend_52 : decode cX12_lend 52 = .ok (.iconst 0, 1) := by decide +kernel
theorem dX12_lend_53 : decode cX12_lend 53 = .ok (.goto 18, 3) := by decide +kernel
theorem dX12_lend_56 : decode cX12_lend 56 = .ok (.aload_n 0, 1) := by decide +kernel
theorem dX12_lend_57 : decode cX12_lend 57 = .ok (.getfield 13, 3) := by decide +kernel
theorem dX12_lend_60 : decode cX12_lend 60 = .ok (.iconst 1, 1) := by decide +kernel
theorem dX12_lend_61 : decode cX12_lend 61 = .ok (.aload_n 0, 1) := by decide +kernel
theorem dX12_lend_62 : decode cX12_lend 62 = .ok (.getfield 13, 3) := by decide +kernel
theorem dX12_lend_65 : decode cX12_lend 65 = .ok (.iconst 0, 1) := by decide +kernel
theorem dX12_lend_66 : decode cX12_lend 66 = .ok (.iaload, 1) := by decide +kernel
theorem dX12_lend_67 : decode cX12_lend 67 = .ok (.iadd, 1) := by decide +kernel
theorem dX12_lend_68 : decode cX12_lend 68 = .ok (.iconst 1, 1) := by decide +kernel
theorem dX12_lend_69 : decode cX12_lend 69 = .ok (.isub, 1) := by decide +kernel
theorem dX12_lend_70 : decode cX12_lend 70 = .ok (.iaload, 1) := by decide +kernel
theorem dX12_lend_71 : decode cX12_lend 71 = .ok (.istore 4, 2) := by decide +kernel
theorem dX12_lend_73 : decode cX12_lend 73 = .ok (.iload 4, 2) := by decide +kernel
theorem dX12_lend_75 : decode cX12_lend 75 = .ok (.istore 5, 2) := by decide +kernel
theorem dX12_lend_77 : decode cX12_lend 77 = .ok (.iload 5, 2) := by decide +kernel
theorem dX12_lend_79 : decode cX12_lend 79 = .ok (.ifCond .le 33, 3) := by decide +kernel
theorem dX12_lend_82 : decode cX12_lend 82 = .ok (.aload_n 0, 1) := by decide +kernel
theorem dX12_lend_83 : decode cX12_lend 83 = .ok (.iload_n 1, 1) := by decide +kernel
theorem dX12_lend_84 : decode cX12_lend 84 = .ok (.iload 5, 2) := by decide +kernel
theorem dX12_lend_86 : decode cX12_lend 86 = .ok (.aload_n 0, 1) := by decide +kernel
theorem dX12_lend_87 : decode cX12_lend 87 = .ok (.iconst 0, 1) := by decide +kernel
theorem dX12_lend_88 : decode cX12_lend 88 = .ok (.iload 5, 2) := by decide +kernel
theorem dX12_lend_90 : decode cX12_lend 90 = .ok (.iload_n 3, 1) := by decide +kernel
theorem dX12_lend_91 : decode cX12_lend 91 = .ok (.invokevirtual 205, 3) := by decide +kernel
theorem dX12_lend_94 : decode cX12_lend 94 = .ok (.iload_n 2, 1) := by decide +kernel
theorem dX12_lend_95 : decode cX12_lend 95 = .ok (.invokevirtual 276, 3) := by decide +kernel
theorem dX12_lend_98 : decode cX12_lend 98 = .ok (.lconst 0, 1) := by decide +kernel
theorem dX12_lend_99 : decode cX12_lend 99 = .ok (.lcmp, 1) := by decide +kernel
theorem dX12_lend_100 : decode cX12_lend 100 = .ok (.ifCond .lt 6, 3) := by decide +kernel
theorem dX12_lend_103 : decode cX12_lend 103 = .ok (.iload 5, 2) := by decide +kernel
theorem dX12_lend_105 : decode cX12_lend 105 = .ok (.ireturn, 1) := by decide +kernel
theorem dX12_lend_106 : decode cX12_lend 106 = .ok (.iinc 5 (-1), 3) := by decide +kernel
theorem dX12_lend_109 : decode cX12_lend 109 = .ok (.goto (-32), 3) := by decide +kernel
theorem dX12_lend_112 : decode cX12_lend 112 = .ok (.iconst 0, 1) := by decide +kernel
theorem dX12_lend_113 : decode cX12_lend 113 = .ok (.ireturn, 1) := by decide +kernel
theorem dX12_gained_0 : decode cX12_gained 0 = .ok (.aload_n 0, 1) := by decide +kernel
theorem dX12_gained_1 : decode cX12_gained 1 = .ok (.iconst 0, 1) := by decide +kernel
theorem dX12_gained_2 : decode cX12_gained 2 = .ok (.putfield 1, 3) := by decide +kernel
theorem dX12_gained_5 : decode cX12_gained 5 = .ok (.aload_n 0, 1) := by decide +kernel
theorem dX12_gained_6 : decode cX12_gained 6 = .ok (.iload_n 1, 1) := by decide +kernel
theorem dX12_gained_7 : decode cX12_gained 7 = .ok (.invokevirtual 273, 3) := by decide +kernel
theorem dX12_gained_10 : decode cX12_gained 10 = .ok (.ifCond .ne 7, 3) := by decide +kernel
theorem dX12_gained_13 : decode cX12_gained 13 = .ok (.ldc2_w 280, 3) := by decide +kernel
theorem dX12_gained_16 : decode cX12_gained 16 = .ok (.lreturn, 1) := by decide +kernel
theorem dX12_gained_17 : decode cX12_gained 17 = .ok (.iload_n 2, 1) := by decide +kernel
theorem dX12_gained_18 : decode cX12_gained 18 = .ok (.i2l, 1) := by decide +kernel
theorem dX12_gained_19 : decode cX12_gained 19 = .ok (.lconst 1, 1) := by decide +kernel
theorem dX12_gained_20 : decode cX12_gained 20 = .ok (.ldc2_w 198, 3) := by decide +kernel
theorem dX12_gained_23 : decode cX12_gained 23 = .ok (.invokestatic 142, 3) := by decide +kernel
theorem dX12_gained_26 : decode cX12_gained 26 = .ok (.ifCond .eq 28, 3) := by decide +kernel
theorem dX12_gained_29 : decode cX12_gained 29 = .ok (.iload_n 3, 1) := by decide +kernel
theorem dX12_gained_30 : decode cX12_gained 30 = .ok (.i2l, 1) := by decide +kernel
theorem dX12_gained_31 : decode cX12_gained 31 = .ok (.lconst 0, 1) := by decide +kernel
theorem dX12_gained_32 : decode cX12_gained 32 = .ok (.ldc2_w 269, 3) := by decide +kernel
theorem dX12_gained_35 : decode cX12_gained 35 = .ok (.invokestatic 142, 3) := by decide +kernel
theorem dX12_gained_38 : decode cX12_gained 38 = .ok (.ifCond .eq 16, 3) := by decide +kernel
theorem dX12_gained_41 : decode cX12_gained 41 = .ok (.iload 4, 2) := by decide +kernel
theorem dX12_gained_43 : decode cX12_gained 43 = .ok (.i2l, 1) := by decide +kernel
theorem dX12_gained_44 : decode cX12_gained 44 = .ok (.lconst 1, 1) := by decide +kernel

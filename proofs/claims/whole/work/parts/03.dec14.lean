theorem dX10_noDaring_18 : decode cX10_noDaring 18 = .ok (.bipush 26, 2) := by decide +kernel
theorem dX10_noDaring_20 : decode cX10_noDaring 20 = .ok (.iaload, 1) := by decide +kernel
theorem dX10_noDaring_21 : decode cX10_noDaring 21 = .ok (.ifCond .ne 8, 3) := by decide +kernel
theorem dX10_noDaring_24 : decode cX10_noDaring 24 = .ok (.bipush (-5), 2) := by decide +kernel
theorem dX10_noDaring_26 : decode cX10_noDaring 26 = .ok (.goto 4, 3) := by decide +kernel
theorem dX10_noDaring_29 : decode cX10_noDaring 29 = .ok (.iconst 0, 1) := by decide +kernel
theorem dX10_noDaring_30 : decode cX10_noDaring 30 = .ok (.ireturn, 1) := by decide +kernel
theorem dX10_daring_0 : decode cX10_daring 0 = .ok (.aload_n 0, 1) := by decide +kernel
theorem dX10_daring_1 : decode cX10_daring 1 = .ok (.iconst 0, 1) := by decide +kernel
theorem dX10_daring_2 : decode cX10_daring 2 = .ok (.putfield 1, 3) := by decide +kernel
theorem dX10_daring_5 : decode cX10_daring 5 = .ok (.aload_n 0, 1) := by decide +kernel
theorem dX10_daring_6 : decode cX10_daring 6 = .ok (.iload_n 1, 1) := by decide +kernel
theorem dX10_daring_7 : decode cX10_daring 7 = .ok (.invokevirtual 425, 3) := by decide +kernel
theorem dX10_daring_10 : decode cX10_daring 10 = .ok (.istore_n 2, 1) := by decide +kernel
theorem dX10_daring_11 : decode cX10_daring 11 = .ok (.iload_n 2, 1) := by decide +kernel
theorem dX10_daring_12 : decode cX10_daring 12 = .ok (.ifCond .eq 5, 3) := by decide +kernel
theorem dX10_daring_15 : decode cX10_daring 15 = .ok (.iload_n 2, 1) := by decide +kernel
theorem dX10_daring_16 : decode cX10_daring 16 = .ok (.ireturn, 1) := by decide +kernel
theorem dX10_daring_17 : decode cX10_daring 17 = .ok (.aload_n 0, 1) := by decide +kernel
theorem dX10_daring_18 : decode cX10_daring 18 = .ok (.invokevirtual 428, 3) := by decide +kernel
theorem dX10_daring_21 : decode cX10_daring 21 = .ok (.aload_n 0, 1) := by decide +kernel
theorem dX10_daring_22 : decode cX10_daring 22 = .ok (.aload_n 0, 1) := by decide +kernel
theorem dX10_daring_23 : decode cX10_daring 23 = .ok (.invokevirtual 266, 3) := by decide +kernel
theorem dX10_daring_26 : decode cX10_daring 26 = .ok (.iload_n 1, 1) := by decide +kernel
theorem dX10_daring_27 : decode cX10_daring 27 = .ok (.iconst 1, 1) := by decide +kernel
theorem dX10_daring_28 : decode cX10_daring 28 = .ok (.invokevirtual 421, 3) := by decide +kernel
theorem dX10_daring_31 : decode cX10_daring 31 = .ok (.ireturn, 1) := by decide +kernel
theorem dX10_dares_0 : decode cX10_dares 0 = .ok (.aload_n 0, 1) := by decide +kernel
theorem dX10_dares_1 : decode cX10_dares 1 = .ok (.iconst 0, 1) := by decide +kernel
theorem dX10_dares_2 : decode cX10_dares 2 = .ok (.putfield 1, 3) := by decide +kernel
theorem dX10_dares_5 : decode cX10_dares 5 = .ok (.aload_n 0, 1) := by decide +kernel
theorem dX10_dares_6 : decode cX10_dares 6 = .ok (.iload_n 1, 1) := by decide +kernel
theorem dX10_dares_7 : decode cX10_dares 7 = .ok (.invokevirtual 425, 3) := by decide +kernel
theorem dX10_dares_10 : decode cX10_dares 10 = .ok (.istore_n 2, 1) := by decide +kernel
theorem dX10_dares_11 : decode cX10_dares 11 = .ok (.iload_n 2, 1) := by decide +kernel
theorem dX10_dares_12 : decode cX10_dares 12 = .ok (.ifCond .eq 5, 3) := by decide +kernel
theorem dX10_dares_15 : decode cX10_dares 15 = .ok (.iload_n 2, 1) := by decide +kernel
theorem dX10_dares_16 : decode cX10_dares 16 = .ok (.ireturn, 1) := by decide +kernel
theorem dX10_dares_17 : decode cX10_dares 17 = .ok (.aload_n 0, 1) := by decide +kernel
theorem dX10_dares_18 : decode cX10_dares 18 = .ok (.invokevirtual 428, 3) := by decide +kernel
theorem dX10_dares_21 : decode cX10_dares 21 = .ok (.aload_n 0, 1) := by decide +kernel
theorem dX10_dares_22 : decode cX10_dares 22 = .ok (.aload_n 0, 1) := by decide +kernel
theorem dX10_dares_23 : decode cX10_dares 23 = .ok (.invokevirtual 266, 3) := by decide +kernel
theorem dX10_dares_26 : decode cX10_dares 26 = .ok (.iload_n 1, 1) := by decide +kernel
theorem dX10_dares_27 : decode cX10_dares 27 = .ok (.iconst 1, 1) := by decide +kernel
theorem dX10_dares_28 : decode cX10_dares 28 = .ok (.invokevirtual 421, 3) := by decide +kernel
theorem dX10_dares_31 : decode cX10_dares 31 = .ok (.istore_n 3, 1) := by decide +kernel
theorem dX10_dares_32 : decode cX10_dares 32 = .ok (.iconst 0, 1) := by decide +kernel
theorem dX10_dares_33 : decode cX10_dares 33 = .ok (.istore 4, 2) := by decide +kernel
theorem dX10_dares_35 : decode cX10_dares 35 = .ok (.iload 4, 2) := by decide +kernel
theorem dX10_dares_37 : decode cX10_dares 37 = .ok (.aload_n 0, 1) := by decide +kernel
theorem dX10_dares_38 : decode cX10_dares 38 = .ok (.getfield 13, 3) := by decide +kernel
theorem dX10_dares_41 : decode cX10_dares 41 = .ok (.iconst 3, 1) := by decide +kernel
theorem dX10_dares_42 : decode cX10_dares 42 = .ok (.iaload, 1) := by decide +kernel
theorem dX10_dares_43 : decode cX10_dares 43 = .ok (.if_icmp .ge 51, 3) := by decide +kernel
theorem dX10_dares_46 : decode cX10_dares 46 = .ok (.iload_n 1, 1) := by decide +kernel
theorem dX10_dares_47 : decode cX10_dares 47 = .ok (.aload_n 0, 1) := by decide +kernel
theorem dX10_dares_48 : decode cX10_dares 48 = .ok (.aload_n 0, 1) := by decide +kernel
theorem dX10_dares_49 : decode cX10_dares 49 = .ok (.invokevirtual 266, 3) := by decide +kernel
theorem dX10_dares_52 : decode cX10_dares 52 = .ok (.invokevirtual 256, 3) := by decide +kernel
theorem dX10_dares_55 : decode cX10_dares 55 = .ok (.iconst (-1), 1) := by decide +kernel
theorem dX10_dares_56 : decode cX10_dares 56 = .ok (.ixor, 1) := by decide +kernel
theorem dX10_dares_57 : decode cX10_dares 57 = .ok (.iand, 1) := by decide +kernel
theorem dX10_dares_58 : decode cX10_dares 58 = .ok (.i2l, 1) := by decide +kernel
theorem dX10_dares_59 : decode cX10_dares 59 = .ok (.iload 4, 2) := by decide +kernel
theorem dX10_dares_61 : decode cX10_dares 61 = .ok (.invokestatic 245, 3) := by decide +kernel
theorem dX10_dares_64 : decode cX10_dares 64 = .ok (.ifCond .eq 24, 3) := by decide +kernel
theorem dX10_dares_67 : decode cX10_dares 67 = .ok (.aload_n 0, 1) := by decide +kernel
theorem dX10_dares_68 : decode cX10_dares 68 = .ok (.aload_n 0, 1) := by decide +kernel
theorem dX10_dares_69 : decode cX10_dares 69 = .ok (.invokevirtual 266, 3) := by decide +kernel
theorem dX10_dares_72 : decode cX10_dares 72 = .ok (.iconst 1, 1) := by decide +kernel
theorem dX10_dares_73 : decode cX10_dares 73 = .ok (.iload 4, 2) := by decide +kernel
theorem dX10_dares_75 : decode cX10_dares 75 = .ok (.ishl, 1) := by decide +kernel
theorem dX10_dares_76 : decode cX10_dares 76 = .ok (.iload_n 1, 1) := by decide +kernel
theorem dX10_dares_77 : decode cX10_dares 77 = .ok (.iconst 1, 1) := by decide +kernel
theorem dX10_dares_78 : decode cX10_dares 78 = .ok (.invokevirtual 417, 3) := by decide +kernel
theorem dX10_dares_81 : decode cX10_dares 81 = .ok (.iload_n 3, 1) := by decide +kernel
theorem dX10_dares_82 : decode cX10_dares 82 = .ok (.if_icmp .ne 6, 3) := by decide +kernel
theorem dX10_dares_85 : decode cX10_dares 85 = .ok (.iload 4, 2) := by decide +kernel
theorem dX10_dares_87 : decode cX10_dares 87 = .ok (.ireturn, 1) := by decide +kernel
theorem dX10_dares_88 : decode cX10_dares 88 = .ok (.iinc 4 1, 3) := by decide +kernel
theorem dX10_dares_91 : decode cX10_dares 91 = .ok (.goto (-56), 3) := by decide +kernel
theorem dX10_dares_94 : decode cX10_dares 94 = .ok (.iconst (-1), 1) := by decide +kernel
theorem dX10_dares_95 : decode cX10_dares 95 = .ok (.ireturn, 1) := by decide +kernel
theorem dX10_noChance_0 : decode cX10_noChance 0 = .ok (.iload_n 1, 1) := by decide +kernel
theorem dX10_noChance_1 : decode cX10_noChance 1 = .ok (.i2l, 1) := by decide +kernel
theorem dX10_noChance_2 : decode cX10_noChance 2 = .ok (.lconst 0, 1) := by decide +kernel
theorem dX10_noChance_3 : decode cX10_noChance 3 = .ok (.ldc2_w 321, 3) := by decide +kernel
theorem dX10_noChance_6 : decode cX10_noChance 6 = .ok (.invokestatic 152, 3) := by decide +kernel
theorem dX10_noChance_9 : decode cX10_noChance 9 = .ok (.ifCond .eq 13, 3) := by decide +kernel
theorem dX10_noChance_12 : decode cX10_noChance 12 = .ok (.iload_n 2, 1) := by decide +kernel
theorem dX10_noChance_13 : decode cX10_noChance 13 = .ok (.i2l, 1) := by decide +kernel
theorem dX10_noChance_14 : decode cX10_noChance 14 = .ok (.lconst 0, 1) := by decide +kernel
theorem dX10_noChance_15 : decode cX10_noChance 15 = .ok (.lconst 1, 1) := by decide +kernel
theorem dX10_noChance_16 : decode cX10_noChance 16 = .ok (.invokestatic 152, 3) := by decide +kernel
theorem dX10_noChance_19 : decode cX10_noChance 19 = .ok (.ifCond .ne 6, 3) := by decide +kernel
theorem dX10_noChance_22 : decode cX10_noChance 22 = .ok (.bipush (-2), 2) := by decide +kernel
theorem dX10_noChance_24 : decode cX10_noChance 24 = .ok (.ireturn, 1) := by decide +kernel
theorem dX10_noChance_25 : decode cX10_noChance 25 = .ok (.aload_n 0, 1) := by decide +kernel
theorem dX10_noChance_26 : decode cX10_noChance 26 = .ok (.iload_n 1, 1) := by decide +kernel
theorem dX10_noChance_27 : decode cX10_noChance 27 = .ok (.invokevirtual 323, 3) := by decide +kernel
theorem dX10_noChance_30 : decode cX10_noChance 30 = .ok (.istore_n 3, 1) := by decide +kernel
theorem dX10_noChance_31 : decode cX10_noChance 31 = .ok (.iload_n 3, 1) := by decide +kernel
theorem dX10_noChance_32 : decode cX10_noChance 32 = .ok (.ifCond .eq 5, 3) := by decide +kernel
theorem dX10_noChance_35 : decode cX10_noChance 35 = .ok (.iload_n 3, 1) := by decide +kernel
theorem dX10_noChance_36 : decode cX10_noChance 36 = .ok (.ireturn, 1) := by decide +kernel
theorem dX10_noChance_37 : decode cX10_noChance 37 = .ok (.aload_n 0, 1) := by decide +kernel
theorem dX10_noChance_38 : decode cX10_noChance 38 = .ok (.getfield 80, 3) := by decide +kernel
theorem dX10_noChance_41 : decode cX10_noChance 41 = .ok (.iload_n 1, 1) := by decide +kernel
theorem dX10_noChance_42 : decode cX10_noChance 42 = .ok (.iaload, 1) := by decide +kernel
theorem dX10_noChance_43 : decode cX10_noChance 43 = .ok (.i2l, 1) := by decide +kernel
theorem dX10_noChance_44 : decode cX10_noChance 44 = .ok (.lconst 1, 1) := by decide +kernel
theorem dX10_noChance_45 : decode cX10_noChance 45 = .ok (.ldc2_w 431, 3) := by decide +kernel
theorem dX10_noChance_48 : decode cX10_noChance 48 = .ok (.invokestatic 152, 3) := by decide +kernel
theorem dX10_noChance_51 : decode cX10_noChance 51 = .ok (.ifCond .ne 6, 3) := by decide +kernel
theorem dX10_noChance_54 : decode cX10_noChance 54 = .ok (.bipush (-4), 2) := by decide +kernel
theorem dX10_noChance_56 : decode cX10_noChance 56 = .ok (.ireturn, 1) := by decide +kernel
theorem dX10_noChance_57 : decode cX10_noChance 57 = .ok (.iconst 0, 1) := by decide +kernel
theorem dX10_noChance_58 : decode cX10_noChance 58 = .ok (.istore 4, 2) := by decide +kernel
theorem dX10_noChance_60 : decode cX10_noChance 60 = .ok (.iload 4, 2) := by decide +kernel
theorem dX10_noChance_62 : decode cX10_noChance 62 = .ok (.aload_n 0, 1) := by decide +kernel
theorem dX10_noChance_63 : decode cX10_noChance 63 = .ok (.getfield 80, 3) := by decide +kernel
theorem dX10_noChance_66 : decode cX10_noChance 66 = .ok (.iload_n 1, 1) := by decide +kernel
theorem dX10_noChance_67 : decode cX10_noChance 67 = .ok (.iaload, 1) := by decide +kernel
theorem dX10_noChance_68 : decode cX10_noChance 68 = .ok (.if_icmp .ge 31, 3) := by decide +kernel
theorem dX10_noChance_71 : decode cX10_noChance 71 = .ok (.aload_n 0, 1) := by decide +kernel
theorem dX10_noChance_72 : decode cX10_noChance 72 = .ok (.aload_n 0, 1) := by decide +kernel
theorem dX10_noChance_73 : decode cX10_noChance 73 = .ok (.getfield 83, 3) := by decide +kernel
theorem dX10_noChance_76 : decode cX10_noChance 76 = .ok (.bipush 40, 2) := by decide +kernel
theorem dX10_noChance_78 : decode cX10_noChance 78 = .ok (.iload_n 1, 1) := by decide +kernel
theorem dX10_noChance_79 : decode cX10_noChance 79 = .ok (.imul, 1) := by decide +kernel
theorem dX10_noChance_80 : decode cX10_noChance 80 = .ok (.iload 4, 2) := by decide +kernel
theorem dX10_noChance_82 : decode cX10_noChance 82 = .ok (.iadd, 1) := by decide +kernel
theorem dX10_noChance_83 : decode cX10_noChance 83 = .ok (.laload, 1) := by decide +kernel
theorem dX10_noChance_84 : decode cX10_noChance 84 = .ok (.invokevirtual 259, 3) := by decide +kernel
theorem dX10_noChance_87 : decode cX10_noChance 87 = .ok (.ifCond .ne 6, 3) := by decide +kernel
theorem dX10_noChance_90 : decode cX10_noChance 90 = .ok (.bipush (-3), 2) := by decide +kernel
theorem dX10_noChance_92 : decode cX10_noChance 92 = .ok (.ireturn, 1) := by decide +kernel
theorem dX10_noChance_93 : decode cX10_noChance 93 = .ok (.iinc 4 1, 3) := by decide +kernel
theorem dX10_noChance_96 : decode cX10_noChance 96 = .ok (.goto (-36), 3) := by decide +kernel
theorem dX10_noChance_99 : decode cX10_noChance 99 = .ok (.iconst 0, 1) := by decide +kernel
theorem dX10_noChance_100 : decode cX10_noChance 100 = .ok (.istore 4, 2) := by decide +kernel
theorem dX10_noChance_102 : decode cX10_noChance 102 = .ok (.iload 4, 2) := by decide +kernel
theorem dX10_noChance_104 : decode cX10_noChance 104 = .ok (.aload_n 0, 1) := by decide +kernel
theorem dX10_noChance_105 : decode cX10_noChance 105 = .ok (.getfield 13, 3) := by decide +kernel
theorem dX10_noChance_108 : decode cX10_noChance 108 = .ok (.iconst 3, 1) := by decide +kernel
theorem dX10_noChance_109 : decode cX10_noChance 109 = .ok (.iaload, 1) := by decide +kernel
theorem dX10_noChance_110 : decode cX10_noChance 110 = .ok (.if_icmp .ge 85, 3) := by decide +kernel
theorem dX10_noChance_113 : decode cX10_noChance 113 = .ok (.aload_n 0, 1) := by decide +kernel
theorem dX10_noChance_114 : decode cX10_noChance 114 = .ok (.getfield 13, 3) := by decide +kernel
theorem dX10_noChance_117 : decode cX10_noChance 117 = .ok (.bipush 22, 2) := by decide +kernel
theorem dX10_noChance_119 : decode cX10_noChance 119 = .ok (.iload 4, 2) := by decide +kernel
theorem dX10_noChance_121 : decode cX10_noChance 121 = .ok (.iadd, 1) := by decide +kernel
theorem dX10_noChance_122 : decode cX10_noChance 122 = .ok (.iaload, 1) := by decide +kernel
theorem dX10_noChance_123 : decode cX10_noChance 123 = .ok (.istore 5, 2) := by decide +kernel
theorem dX10_noChance_125 : decode cX10_noChance 125 = .ok (.iconst 0, 1) := by decide +kernel
theorem dX10_noChance_126 : decode cX10_noChance 126 = .ok (.istore 6, 2) := by decide +kernel
theorem dX10_noChance_128 : decode cX10_noChance 128 = .ok (.iload 6, 2) := by decide +kernel
theorem dX10_noChance_130 : decode cX10_noChance 130 = .ok (.aload_n 0, 1) := by decide +kernel
theorem dX10_noChance_131 : decode cX10_noChance 131 = .ok (.getfield 80, 3) := by decide +kernel
theorem dX10_noChance_134 : decode cX10_noChance 134 = .ok (.iload_n 1, 1) := by decide +kernel
theorem dX10_noChance_135 : decode cX10_noChance 135 = .ok (.iaload, 1) := by decide +kernel
theorem dX10_noChance_136 : decode cX10_noChance 136 = .ok (.if_icmp .ge 39, 3) := by decide +kernel
theorem dX10_noChance_139 : decode cX10_noChance 139 = .ok (.iload 5, 2) := by decide +kernel
theorem dX10_noChance_141 : decode cX10_noChance 141 = .ok (.aload_n 0, 1) := by decide +kernel
theorem dX10_noChance_142 : decode cX10_noChance 142 = .ok (.getfield 83, 3) := by decide +kernel
theorem dX10_noChance_145 : decode cX10_noChance 145 = .ok (.bipush 40, 2) := by decide +kernel
theorem dX10_noChance_147 : decode cX10_noChance 147 = .ok (.iload_n 1, 1) := by decide +kernel
theorem dX10_noChance_148 : decode cX10_noChance 148 = .ok (.imul, 1) := by decide +kernel
theorem dX10_noChance_149 : decode cX10_noChance 149 = .ok (.iload 6, 2) := by decide +kernel
theorem dX10_noChance_151 : decode cX10_noChance 151 = .ok (.iadd, 1) := by decide +kernel
theorem dX10_noChance_152 : decode cX10_noChance 152 = .ok (.laload, 1) := by decide +kernel
theorem dX10_noChance_153 : decode cX10_noChance 153 = .ok (.iload 4, 2) := by decide +kernel
theorem dX10_noChance_155 : decode cX10_noChance 155 = .ok (.invokestatic 245, 3) := by decide +kernel
theorem dX10_noChance_158 : decode cX10_noChance 158 = .ok (.ifCond .eq 7, 3) := by decide +kernel
theorem dX10_noChance_161 : decode cX10_noChance 161 = .ok (.iconst 1, 1) := by decide +kernel
theorem dX10_noChance_162 : decode cX10_noChance 162 = .ok (.goto 4, 3) := by decide +kernel
theorem dX10_noChance_165 : decode cX10_noChance 165 = .ok (.iconst 0, 1) := by decide +kernel
theorem dX10_noChance_166 : decode cX10_noChance 166 = .ok (.iadd, 1) := by decide +kernel
theorem dX10_noChance_167 : decode cX10_noChance 167 = .ok (.istore 5, 2) := by decide +kernel
theorem dX10_noChance_169 : decode cX10_noChance 169 = .ok (.iinc 6 1, 3) := by decide +kernel
theorem dX10_noChance_172 : decode cX10_noChance 172 = .ok (.goto (-44), 3) := by decide +kernel
theorem dX10_noChance_175 : decode cX10_noChance 175 = .ok (.iload 5, 2) := by decide +kernel
theorem dX10_noChance_177 : decode cX10_noChance 177 = .ok (.aload_n 0, 1) := by decide +kernel
theorem dX10_noChance_178 : decode cX10_noChance 178 = .ok (.getfield 13, 3) := by decide +kernel
theorem dX10_noChance_181 : decode cX10_noChance 181 = .ok (.iconst 1, 1) := by decide +kernel
theorem dX10_noChance_182 : decode cX10_noChance 182 = .ok (.iaload, 1) := by decide +kernel
theorem dX10_noChance_183 : decode cX10_noChance 183 = .ok (.if_icmp .le 6, 3) := by decide +kernel
theorem dX10_noChance_186 : decode cX10_noChance 186 = .ok (.bipush (-5), 2) := by decide +kernel
theorem dX10_noChance_188 : decode cX10_noChance 188 = .ok (.ireturn, 1) := by decide +kernel
theorem dX10_noChance_189 : decode cX10_noChance 189 = .ok (.iinc 4 1, 3) := by decide +kernel
theorem dX10_noChance_192 : decode cX10_noChance 192 = .ok (.goto (-90), 3) := by decide +kernel
theorem dX10_noChance_195 : decode cX10_noChance 195 = .ok (.iconst 0, 1) := by decide +kernel
theorem dX10_noChance_196 : decode cX10_noChance 196 = .ok (.ireturn, 1) := by decide +kernel
theorem dX10_goesCart_0 : decode cX10_goesCart 0 = .ok (.iload_n 2, 1) := by decide +kernel
theorem dX10_goesCart_1 : decode cX10_goesCart 1 = .ok (.invokestatic 231, 3) := by decide +kernel
theorem dX10_goesCart_4 : decode cX10_goesCart 4 = .ok (.ifCond .eq 8, 3) := by decide +kernel
theorem dX10_goesCart_7 : decode cX10_goesCart 7 = .ok (.iload 4, 2) := by decide +kernel
theorem dX10_goesCart_9 : decode cX10_goesCart 9 = .ok (.ifCond .ne 4, 3) := by decide +kernel
theorem dX10_goesCart_12 : decode cX10_goesCart 12 = .ok (.return_, 1) := by decide +kernel
theorem dX10_goesCart_13 : decode cX10_goesCart 13 = .ok (.iload_n 3, 1) := by decide +kernel
theorem dX10_goesCart_14 : decode cX10_goesCart 14 = .ok (.aload_n 0, 1) := by decide +kernel
theorem dX10_goesCart_15 : decode cX10_goesCart 15 = .ok (.getfield 80, 3) := by decide +kernel
theorem dX10_goesCart_18 : decode cX10_goesCart 18 = .ok (.iload_n 1, 1) := by decide +kernel
theorem dX10_goesCart_19 : decode cX10_goesCart 19 = .ok (.iaload, 1) := by decide +kernel
theorem dX10_goesCart_20 : decode cX10_goesCart 20 = .ok (.if_icmp .ne 31, 3) := by decide +kernel
theorem dX10_goesCart_23 : decode cX10_goesCart 23 = .ok (.aload_n 0, 1) := by decide +kernel
theorem dX10_goesCart_24 : decode cX10_goesCart 24 = .ok (.dup, 1) := by decide +kernel
theorem dX10_goesCart_25 : decode cX10_goesCart 25 = .ok (.getfield 433, 3) := by decide +kernel
theorem dX10_goesCart_28 : decode cX10_goesCart 28 = .ok (.iload 4, 2) := by decide +kernel
theorem dX10_goesCart_30 : decode cX10_goesCart 30 = .ok (.iadd, 1) := by decide +kernel
theorem dX10_goesCart_31 : decode cX10_goesCart 31 = .ok (.putfield 433, 3) := by decide +kernel
theorem dX10_goesCart_34 : decode cX10_goesCart 34 = .ok (.aload_n 0, 1) := by decide +kernel
theorem dX10_goesCart_35 : decode cX10_goesCart 35 = .ok (.dup, 1) := by decide +kernel
theorem dX10_goesCart_36 : decode cX10_goesCart 36 = .ok (.getfield 436, 3) := by decide +kernel
theorem dX10_goesCart_39 : decode cX10_goesCart 39 = .ok (.iload 4, 2) := by decide +kernel
theorem dX10_goesCart_41 : decode cX10_goesCart 41 = .ok (.iload_n 2, 1) := by decide +kernel
theorem dX10_goesCart_42 : decode cX10_goesCart 42 = .ok (.invokestatic 231, 3) := by decide +kernel
theorem dX10_goesCart_45 : decode cX10_goesCart 45 = .ok (.imul, 1) := by decide +kernel
theorem dX10_goesCart_46 : decode cX10_goesCart 46 = .ok (.iadd, 1) := by decide +kernel
theorem dX10_goesCart_47 : decode cX10_goesCart 47 = .ok (.putfield 436, 3) := by decide +kernel
theorem dX10_goesCart_50 : decode cX10_goesCart 50 = .ok (.return_, 1) := by decide +kernel
theorem dX10_goesCart_51 : decode cX10_goesCart 51 = .ok (.aload_n 0, 1) := by decide +kernel
theorem dX10_goesCart_52 : decode cX10_goesCart 52 = .ok (.getfield 83, 3) := by decide +kernel
theorem dX10_goesCart_55 : decode cX10_goesCart 55 = .ok (.bipush 40, 2) := by decide +kernel
theorem dX10_goesCart_57 : decode cX10_goesCart 57 = .ok (.iload_n 1, 1) := by decide +kernel
theorem dX10_goesCart_58 : decode cX10_goesCart 58 = .ok (.imul, 1) := by decide +kernel
theorem dX10_goesCart_59 : decode cX10_goesCart 59 = .ok (.iload_n 3, 1) := by decide +kernel
theorem dX10_goesCart_60 : decode cX10_goesCart 60 = .ok (.iadd, 1) := by decide +kernel
theorem dX10_goesCart_61 : decode cX10_goesCart 61 = .ok (.laload, 1) := by decide +kernel
theorem dX10_goesCart_62 : decode cX10_goesCart 62 = .ok (.l2i, 1) := by decide +kernel
theorem dX10_goesCart_63 : decode cX10_goesCart 63 = .ok (.istore 5, 2) := by decide +kernel
theorem dX10_goesCart_65 : decode cX10_goesCart 65 = .ok (.aload_n 0, 1) := by decide +kernel
theorem dX10_goesCart_66 : decode cX10_goesCart 66 = .ok (.iload_n 1, 1) := by decide +kernel
theorem dX10_goesCart_67 : decode cX10_goesCart 67 = .ok (.aload_n 0, 1) := by decide +kernel
theorem dX10_goesCart_68 : decode cX10_goesCart 68 = .ok (.iload_n 2, 1) := by decide +kernel
theorem dX10_goesCart_69 : decode cX10_goesCart 69 = .ok (.iload 5, 2) := by decide +kernel
theorem dX10_goesCart_71 : decode cX10_goesCart 71 = .ok (.iconst 0, 1) := by decide +kernel
theorem dX10_goesCart_72 : decode cX10_goesCart 72 = .ok (.aload_n 0, 1) := by decide +kernel
theorem dX10_goesCart_73 : decode cX10_goesCart 73 = .ok (.getfield 13, 3) := by decide +kernel
theorem dX10_goesCart_76 : decode cX10_goesCart 76 = .ok (.bipush 27, 2) := by decide +kernel
theorem dX10_goesCart_78 : decode cX10_goesCart 78 = .ok (.iaload, 1) := by decide +kernel
theorem dX10_goesCart_79 : decode cX10_goesCart 79 = .ok (.invokevirtual 273, 3) := by decide +kernel
theorem dX10_goesCart_82 : decode cX10_goesCart 82 = .ok (.iload_n 3, 1) := by decide +kernel
theorem dX10_goesCart_83 : decode cX10_goesCart 83 = .ok (.iconst 1, 1) := by decide +kernel
theorem dX10_goesCart_84 : decode cX10_goesCart 84 = .ok (.iadd, 1) := by decide +kernel
theorem dX10_goesCart_85 : decode cX10_goesCart 85 = .ok (.iload 4, 2) := by decide +kernel
theorem dX10_goesCart_87 : decode cX10_goesCart 87 = .ok (.bipush 10, 2) := by decide +kernel
theorem dX10_goesCart_89 : decode cX10_goesCart 89 = .ok (.aload_n 0, 1) := by decide +kernel
theorem dX10_goesCart_90 : decode cX10_goesCart 90 = .ok (.getfield 13, 3) := by decide +kernel
theorem dX10_goesCart_93 : decode cX10_goesCart 93 = .ok (.bipush 6, 2) := by decide +kernel
theorem dX10_goesCart_95 : decode cX10_goesCart 95 = .ok (.iaload, 1) := by decide +kernel
theorem dX10_goesCart_96 : decode cX10_goesCart 96 = .ok (.isub, 1) := by decide +kernel
theorem dX10_goesCart_97 : decode cX10_goesCart 97 = .ok (.imul, 1) := by decide +kernel
theorem dX10_goesCart_98 : decode cX10_goesCart 98 = .ok (.invokevirtual 439, 3) := by decide +kernel
theorem dX10_goesCart_101 : decode cX10_goesCart 101 = .ok (.aload_n 0, 1) := by decide +kernel
theorem dX10_goesCart_102 : decode cX10_goesCart 102 = .ok (.iload_n 1, 1) := by decide +kernel
theorem dX10_goesCart_103 : decode cX10_goesCart 103 = .ok (.aload_n 0, 1) := by decide +kernel
theorem dX10_goesCart_104 : decode cX10_goesCart 104 = .ok (.iload_n 2, 1) := by decide +kernel
theorem dX10_goesCart_105 : decode cX10_goesCart 105 = .ok (.iload 5, 2) := by decide +kernel
theorem dX10_goesCart_107 : decode cX10_goesCart 107 = .ok (.aload_n 0, 1) := by decide +kernel
theorem dX10_goesCart_108 : decode cX10_goesCart 108 = .ok (.getfield 13, 3) := by decide +kernel
theorem dX10_goesCart_111 : decode cX10_goesCart 111 = .ok (.bipush 7, 2) := by decide +kernel
theorem dX10_goesCart_113 : decode cX10_goesCart 113 = .ok (.iaload, 1) := by decide +kernel
theorem dX10_goesCart_114 : decode cX10_goesCart 114 = .ok (.aload_n 0, 1) := by decide +kernel
theorem dX10_goesCart_115 : decode cX10_goesCart 115 = .ok (.getfield 13, 3) := by decide +kernel
theorem dX10_goesCart_118 : decode cX10_goesCart 118 = .ok (.bipush 27, 2) := by decide +kernel
theorem dX10_goesCart_120 : decode cX10_goesCart 120 = .ok (.iaload, 1) := by decide +kernel
theorem dX10_goesCart_121 : decode cX10_goesCart 121 = .ok (.invokevirtual 273, 3) := by decide +kernel
theorem dX10_goesCart_124 : decode cX10_goesCart 124 = .ok (.iload_n 3, 1) := by decide +kernel
theorem dX10_goesCart_125 : decode cX10_goesCart 125 = .ok (.iconst 1, 1) := by decide +kernel
theorem dX10_goesCart_126 : decode cX10_goesCart 126 = .ok (.iadd, 1) := by decide +kernel
theorem dX10_goesCart_127 : decode cX10_goesCart 127 = .ok (.iload 4, 2) := by decide +kernel
theorem dX10_goesCart_129 : decode cX10_goesCart 129 = .ok (.aload_n 0, 1) := by decide +kernel
theorem dX10_goesCart_130 : decode cX10_goesCart 130 = .ok (.getfield 13, 3) := by decide +kernel
theorem dX10_goesCart_133 : decode cX10_goesCart 133 = .ok (.bipush 6, 2) := by decide +kernel
theorem dX10_goesCart_135 : decode cX10_goesCart 135 = .ok (.iaload, 1) := by decide +kernel
theorem dX10_goesCart_136 : decode cX10_goesCart 136 = .ok (.imul, 1) := by decide +kernel
theorem dX10_goesCart_137 : decode cX10_goesCart 137 = .ok (.invokevirtual 439, 3) := by decide +kernel
theorem dX10_goesCart_140 : decode cX10_goesCart 140 = .ok (.return_, 1) := by decide +kernel
theorem dX10_laysChance_0 : decode cX10_laysChance 0 = .ok (.aload_n 0, 1) := by decide +kernel
theorem dX10_laysChance_1 : decode cX10_laysChance 1 = .ok (.iconst 0, 1) := by decide +kernel
theorem dX10_laysChance_2 : decode cX10_laysChance 2 = .ok (.putfield 433, 3) := by decide +kernel
theorem dX10_laysChance_5 : decode cX10_laysChance 5 = .ok (.aload_n 0, 1) := by decide +kernel
theorem dX10_laysChance_6 : decode cX10_laysChance 6 = .ok (.iconst 0, 1) := by decide +kernel
theorem dX10_laysChance_7 : decode cX10_laysChance 7 = .ok (.putfield 436, 3) := by decide +kernel
theorem dX10_laysChance_10 : decode cX10_laysChance 10 = .ok (.aload_n 0, 1) := by decide +kernel
theorem dX10_laysChance_11 : decode cX10_laysChance 11 = .ok (.iload_n 1, 1) := by decide +kernel
theorem dX10_laysChance_12 : decode cX10_laysChance 12 = .ok (.aload_n 0, 1) := by decide +kernel
theorem dX10_laysChance_13 : decode cX10_laysChance 13 = .ok (.invokevirtual 266, 3) := by decide +kernel
theorem dX10_laysChance_16 : decode cX10_laysChance 16 = .ok (.iconst 0, 1) := by decide +kernel
theorem dX10_laysChance_17 : decode cX10_laysChance 17 = .ok (.iconst 1, 1) := by decide +kernel
theorem dX10_laysChance_18 : decode cX10_laysChance 18 = .ok (.invokevirtual 439, 3) := by decide +kernel
theorem dX10_laysChance_21 : decode cX10_laysChance 21 = .ok (.iconst 1, 1) := by decide +kernel
theorem dX10_laysChance_22 : decode cX10_laysChance 22 = .ok (.istore_n 2, 1) := by decide +kernel
theorem dX10_laysChance_23 : decode cX10_laysChance 23 = .ok (.iconst 0, 1) := by decide +kernel
theorem dX10_laysChance_24 : decode cX10_laysChance 24 = .ok (.istore_n 3, 1) := by decide +kernel
theorem dX10_laysChance_25 : decode cX10_laysChance 25 = .ok (.iload_n 3, 1) := by decide +kernel
theorem dX10_laysChance_26 : decode cX10_laysChance 26 = .ok (.aload_n 0, 1) := by decide +kernel
theorem dX10_laysChance_27 : decode cX10_laysChance 27 = .ok (.getfield 80, 3) := by decide +kernel
theorem dX10_laysChance_30 : decode cX10_laysChance 30 = .ok (.iload_n 1, 1) := by decide +kernel
theorem dX10_laysChance_31 : decode cX10_laysChance 31 = .ok (.iaload, 1) := by decide +kernel
theorem dX10_laysChance_32 : decode cX10_laysChance 32 = .ok (.if_icmp .ge 14, 3) := by decide +kernel
theorem dX10_laysChance_35 : decode cX10_laysChance 35 = .ok (.iload_n 2, 1) := by decide +kernel
theorem dX10_laysChance_36 : decode cX10_laysChance 36 = .ok (.bipush 10, 2) := by decide +kernel
theorem dX10_laysChance_38 : decode cX10_laysChance 38 = .ok (.imul, 1) := by decide +kernel
theorem dX10_laysChance_39 : decode cX10_laysChance 39 = .ok (.istore_n 2, 1) := by decide +kernel
theorem dX10_laysChance_40 : decode cX10_laysChance 40 = .ok (.iinc 3 1, 3) := by decide +kernel
theorem dX10_laysChance_43 : decode cX10_laysChance 43 = .ok (.goto (-18), 3) := by decide +kernel
theorem dX10_laysChance_46 : decode cX10_laysChance 46 = .ok (.iload_n 2, 1) := by decide +kernel
theorem dX10_laysChance_47 : decode cX10_laysChance 47 = .ok (.ireturn, 1) := by decide +kernel
theorem dX10_chance_0 : decode cX10_chance 0 = .ok (.aload_n 0, 1) := by decide +kernel
theorem dX10_chance_1 : decode cX10_chance 1 = .ok (.iconst 0, 1) := by decide +kernel
theorem dX10_chance_2 : decode cX10_chance 2 = .ok (.putfield 1, 3) := by decide +kernel
theorem dX10_chance_5 : decode cX10_chance 5 = .ok (.aload_n 0, 1) := by decide +kernel
theorem dX10_chance_6 : decode cX10_chance 6 = .ok (.iload_n 1, 1) := by decide +kernel
theorem dX10_chance_7 : decode cX10_chance 7 = .ok (.iload_n 2, 1) := by decide +kernel
theorem dX10_chance_8 : decode cX10_chance 8 = .ok (.invokevirtual 443, 3) := by decide +kernel
theorem dX10_chance_11 : decode cX10_chance 11 = .ok (.istore_n 3, 1) := by decide +kernel
theorem dX10_chance_12 : decode cX10_chance 12 = .ok (.iload_n 3, 1) := by decide +kernel
theorem dX10_chance_13 : decode cX10_chance 13 = .ok (.ifCond .eq 5, 3) := by decide +kernel
theorem dX10_chance_16 : decode cX10_chance 16 = .ok (.iload_n 3, 1) := by decide +kernel
theorem dX10_chance_17 : decode cX10_chance 17 = .ok (.ireturn, 1) := by decide +kernel
theorem dX10_chance_18 : decode cX10_chance 18 = .ok (.aload_n 0, 1) := by decide +kernel
theorem dX10_chance_19 : decode cX10_chance 19 = .ok (.iload_n 1, 1) := by decide +kernel
theorem dX10_chance_20 : decode cX10_chance 20 = .ok (.invokevirtual 446, 3) := by decide +kernel
theorem dX10_chance_23 : decode cX10_chance 23 = .ok (.istore 4, 2) := by decide +kernel
theorem dX10_chance_25 : decode cX10_chance 25 = .ok (.aload_n 0, 1) := by decide +kernel
theorem dX10_chance_26 : decode cX10_chance 26 = .ok (.getfield 433, 3) := by decide +kernel
theorem dX10_chance_29 : decode cX10_chance 29 = .ok (.iload 4, 2) := by decide +kernel
theorem dX10_chance_31 : decode cX10_chance 31 = .ok (.iload_n 2, 1) := by decide +kernel
theorem dX10_chance_32 : decode cX10_chance 32 = .ok (.invokestatic 405, 3) := by decide +kernel
theorem dX10_chance_35 : decode cX10_chance 35 = .ok (.ireturn, 1) := by decide +kernel
theorem dX10_mean_0 : decode cX10_mean 0 = .ok (.aload_n 0, 1) := by decide +kernel
theorem dX10_mean_1 : decode cX10_mean 1 = .ok (.iconst 0, 1) := by decide +kernel
theorem dX10_mean_2 : decode cX10_mean 2 = .ok (.putfield 1, 3) := by decide +kernel
theorem dX10_mean_5 : decode cX10_mean 5 = .ok (.aload_n 0, 1) := by decide +kernel
theorem dX10_mean_6 : decode cX10_mean 6 = .ok (.iload_n 1, 1) := by decide +kernel
theorem dX10_mean_7 : decode cX10_mean 7 = .ok (.iload_n 2, 1) := by decide +kernel
theorem dX10_mean_8 : decode cX10_mean 8 = .ok (.invokevirtual 443, 3) := by decide +kernel
theorem dX10_mean_11 : decode cX10_mean 11 = .ok (.istore_n 3, 1) := by decide +kernel
theorem dX10_mean_12 : decode cX10_mean 12 = .ok (.iload_n 3, 1) := by decide +kernel
theorem dX10_mean_13 : decode cX10_mean 13 = .ok (.ifCond .eq 5, 3) := by decide +kernel
theorem dX10_mean_16 : decode cX10_mean 16 = .ok (.iload_n 3, 1) := by decide +kernel
theorem dX10_mean_17 : decode cX10_mean 17 = .ok (.ireturn, 1) := by decide +kernel
theorem dX10_mean_18 : decode cX10_mean 18 = .ok (.aload_n 0, 1) := by decide +kernel
theorem dX10_mean_19 : decode cX10_mean 19 = .ok (.iload_n 1, 1) := by decide +kernel
theorem dX10_mean_20 : decode cX10_mean 20 = .ok (.invokevirtual 446, 3) := by decide +kernel
theorem dX10_mean_23 : decode cX10_mean 23 = .ok (.istore 4, 2) := by decide +kernel
theorem dX10_mean_25 : decode cX10_mean 25 = .ok (.aload_n 0, 1) := by decide +kernel
theorem dX10_mean_26 : decode cX10_mean 26 = .ok (.getfield 436, 3) := by decide +kernel
theorem dX10_mean_29 : decode cX10_mean 29 = .ok (.iload 4, 2) := by decide +kernel
theorem dX10_mean_31 : decode cX10_mean 31 = .ok (.iload_n 2, 1) := by decide +kernel
theorem dX10_mean_32 : decode cX10_mean 32 = .ok (.invokestatic 405, 3) := by decide +kernel
theorem dX10_mean_35 : decode cX10_mean 35 = .ok (.ireturn, 1) := by decide +kernel
theorem dX10_cut_0 : decode cX10_cut 0 = .ok (.iload_n 2, 1) := by decide +kernel
theorem dX10_cut_1 : decode cX10_cut 1 = .ok (.ifCond .ne 10, 3) := by decide +kernel
theorem dX10_cut_4 : decode cX10_cut 4 = .ok (.lload_n 0, 1) := by decide +kernel
theorem dX10_cut_5 : decode cX10_cut 5 = .ok (.l2i, 1) := by decide +kernel
theorem dX10_cut_6 : decode cX10_cut 6 = .ok (.i2b, 1) := by decide +kernel
theorem dX10_cut_7 : decode cX10_cut 7 = .ok (.i2l, 1) := by decide +kernel
theorem dX10_cut_8 : decode cX10_cut 8 = .ok (.goto 27, 3) := by decide +kernel
theorem dX10_cut_11 : decode cX10_cut 11 = .ok (.iload_n 2, 1) := by decide +kernel
theorem dX10_cut_12 : decode cX10_cut 12 = .ok (.iconst 1, 1) := by decide +kernel
theorem dX10_cut_13 : decode cX10_cut 13 = .ok (.if_icmp .ne 10, 3) := by decide +kernel
theorem dX10_cut_16 : decode cX10_cut 16 = .ok (.lload_n 0, 1) := by decide +kernel
theorem dX10_cut_17 : decode cX10_cut 17 = .ok (.l2i, 1) := by decide +kernel
theorem dX10_cut_18 : decode cX10_cut 18 = .ok (.i2s, 1) := by decide +kernel
theorem dX10_cut_19 : decode cX10_cut 19 = .ok (.i2l, 1) := by decide +kernel
theorem dX10_cut_20 : decode cX10_cut 20 = .ok (.goto 15, 3) := by decide +kernel
theorem dX10_cut_23 : decode cX10_cut 23 = .ok (.iload_n 2, 1) := by decide +kernel
theorem dX10_cut_24 : decode cX10_cut 24 = .ok (.iconst 2, 1) := by decide +kernel
theorem dX10_cut_25 : decode cX10_cut 25 = .ok (.if_icmp .ne 9, 3) := by decide +kernel
theorem dX10_cut_28 : decode cX10_cut 28 = .ok (.lload_n 0, 1) := by decide +kernel
theorem dX10_cut_29 : decode cX10_cut 29 = .ok (.l2i, 1) := by decide +kernel
theorem dX10_cut_30 : decode cX10_cut 30 = .ok (.i2l, 1) := by decide +kernel
theorem dX10_cut_31 : decode cX10_cut 31 = .ok (.goto 4, 3) := by decide +kernel
theorem dX10_cut_34 : decode cX10_cut 34 = .ok (.lload_n 0, 1) := by decide +kernel
theorem dX10_cut_35 : decode cX10_cut 35 = .ok (.lreturn, 1) := by decide +kernel
theorem dX10_numbers_0 : decode cX10_numbers 0 = .ok (.aload_n 0, 1) := by decide +kernel
theorem dX10_numbers_1 : decode cX10_numbers 1 = .ok (.iconst 0, 1) := by decide +kernel
theorem dX10_numbers_2 : decode cX10_numbers 2 = .ok (.putfield 1, 3) := by decide +kernel
theorem dX10_numbers_5 : decode cX10_numbers 5 = .ok (.iload_n 1, 1) := by decide +kernel
theorem dX10_numbers_6 : decode cX10_numbers 6 = .ok (.i2l, 1) := by decide +kernel
theorem dX10_numbers_7 : decode cX10_numbers 7 = .ok (.lconst 0, 1) := by decide +kernel
theorem dX10_numbers_8 : decode cX10_numbers 8 = .ok (.ldc2_w 321, 3) := by decide +kernel
theorem dX10_numbers_11 : decode cX10_numbers 11 = .ok (.invokestatic 152, 3) := by decide +kernel
theorem dX10_numbers_14 : decode cX10_numbers 14 = .ok (.ifCond .eq 15, 3) := by decide +kernel
theorem dX10_numbers_17 : decode cX10_numbers 17 = .ok (.iload_n 2, 1) := by decide +kernel
theorem dX10_numbers_18 : decode cX10_numbers 18 = .ok (.i2l, 1) := by decide +kernel
theorem dX10_numbers_19 : decode cX10_numbers 19 = .ok (.lconst 0, 1) := by decide +kernel
theorem dX10_numbers_20 : decode cX10_numbers 20 = .ok (.ldc2_w 321, 3) := by decide +kernel
theorem dX10_numbers_23 : decode cX10_numbers 23 = .ok (.invokestatic 152, 3) := by decide +kernel
theorem dX10_numbers_26 : decode cX10_numbers 26 = .ok (.ifCond .ne 6, 3) := by decide +kernel
theorem dX10_numbers_29 : decode cX10_numbers 29 = .ok (.bipush (-2), 2) := by decide +kernel
theorem dX10_numbers_31 : decode cX10_numbers 31 = .ok (.ireturn, 1) := by decide +kernel
theorem dX10_numbers_32 : decode cX10_numbers 32 = .ok (.iload_n 3, 1) := by decide +kernel
theorem dX10_numbers_33 : decode cX10_numbers 33 = .ok (.i2l, 1) := by decide +kernel
theorem dX10_numbers_34 : decode cX10_numbers 34 = .ok (.lconst 0, 1) := by decide +kernel
theorem dX10_numbers_35 : decode cX10_numbers 35 = .ok (.ldc2_w 339, 3) := by decide +kernel
theorem dX10_numbers_38 : decode cX10_numbers 38 = .ok (.invokestatic 152, 3) := by decide +kernel
theorem dX10_numbers_41 : decode cX10_numbers 41 = .ok (.ifCond .ne 6, 3) := by decide +kernel
theorem dX10_numbers_44 : decode cX10_numbers 44 = .ok (.bipush (-3), 2) := by decide +kernel
theorem dX10_numbers_46 : decode cX10_numbers 46 = .ok (.ireturn, 1) := by decide +kernel
theorem dX10_numbers_47 : decode cX10_numbers 47 = .ok (.aload_n 0, 1) := by decide +kernel
theorem dX10_numbers_48 : decode cX10_numbers 48 = .ok (.getfield 77, 3) := by decide +kernel
theorem dX10_numbers_51 : decode cX10_numbers 51 = .ok (.iload_n 1, 1) := by decide +kernel
theorem dX10_numbers_52 : decode cX10_numbers 52 = .ok (.iload_n 2, 1) := by decide +kernel
theorem dX10_numbers_53 : decode cX10_numbers 53 = .ok (.iastore, 1) := by decide +kernel
theorem dX10_numbers_54 : decode cX10_numbers 54 = .ok (.aload_n 0, 1) := by decide +kernel
theorem dX10_numbers_55 : decode cX10_numbers 55 = .ok (.getfield 80, 3) := by decide +kernel
theorem dX10_numbers_58 : decode cX10_numbers 58 = .ok (.iload_n 1, 1) := by decide +kernel
theorem dX10_numbers_59 : decode cX10_numbers 59 = .ok (.iload_n 3, 1) := by decide +kernel
theorem dX10_numbers_60 : decode cX10_numbers 60 = .ok (.iastore, 1) := by decide +kernel
theorem dX10_numbers_61 : decode cX10_numbers 61 = .ok (.iconst 0, 1) := by decide +kernel
theorem dX10_numbers_62 : decode cX10_numbers 62 = .ok (.istore 4, 2) := by decide +kernel
theorem dX10_numbers_64 : decode cX10_numbers 64 = .ok (.iload 4, 2) := by decide +kernel
theorem dX10_numbers_66 : decode cX10_numbers 66 = .ok (.iload_n 3, 1) := by decide +kernel
theorem dX10_numbers_67 : decode cX10_numbers 67 = .ok (.if_icmp .ge 22, 3) := by decide +kernel
theorem dX10_numbers_70 : decode cX10_numbers 70 = .ok (.aload_n 0, 1) := by decide +kernel
theorem dX10_numbers_71 : decode cX10_numbers 71 = .ok (.getfield 83, 3) := by decide +kernel
theorem dX10_numbers_74 : decode cX10_numbers 74 = .ok (.bipush 40, 2) := by decide +kernel
theorem dX10_numbers_76 : decode cX10_numbers 76 = .ok (.iload_n 1, 1) := by decide +kernel
theorem dX10_numbers_77 : decode cX10_numbers 77 = .ok (.imul, 1) := by decide +kernel
theorem dX10_numbers_78 : decode cX10_numbers 78 = .ok (.iload 4, 2) := by decide +kernel
theorem dX10_numbers_80 : decode cX10_numbers 80 = .ok (.iadd, 1) := by decide +kernel
theorem dX10_numbers_81 : decode cX10_numbers 81 = .ok (.lconst 0, 1) := by decide +kernel
theorem dX10_numbers_82 : decode cX10_numbers 82 = .ok (.lastore, 1) := by decide +kernel
theorem dX10_numbers_83 : decode cX10_numbers 83 = .ok (.iinc 4 1, 3) := by decide +kernel
theorem dX10_numbers_86 : decode cX10_numbers 86 = .ok (.goto (-22), 3) := by decide +kernel
theorem dX10_numbers_89 : decode cX10_numbers 89 = .ok (.iconst 0, 1) := by decide +kernel
theorem dX10_numbers_90 : decode cX10_numbers 90 = .ok (.ireturn, 1) := by decide +kernel
theorem dX10_write_0 : decode cX10_write 0 = .ok (.aload_n 0, 1) := by decide +kernel
theorem dX10_write_1 : decode cX10_write 1 = .ok (.iconst 0, 1) := by decide +kernel
theorem dX10_write_2 : decode cX10_write 2 = .ok (.putfield 1, 3) := by decide +kernel
theorem dX10_write_5 : decode cX10_write 5 = .ok (.aload_n 0, 1) := by decide +kernel
theorem dX10_write_6 : decode cX10_write 6 = .ok (.iload_n 1, 1) := by decide +kernel
theorem dX10_write_7 : decode cX10_write 7 = .ok (.invokevirtual 323, 3) := by decide +kernel
theorem dX10_write_10 : decode cX10_write 10 = .ok (.istore 5, 2) := by decide +kernel
theorem dX10_write_12 : decode cX10_write 12 = .ok (.iload 5, 2) := by decide +kernel
theorem dX10_write_14 : decode cX10_write 14 = .ok (.ifCond .eq 7, 3) := by decide +kernel
theorem dX10_write_17 : decode cX10_write 17 = .ok (.iload 5, 2) := by decide +kernel
theorem dX10_write_19 : decode cX10_write 19 = .ok (.i2l, 1) := by decide +kernel
theorem dX10_write_20 : decode cX10_write 20 = .ok (.lreturn, 1) := by decide +kernel
theorem dX10_write_21 : decode cX10_write 21 = .ok (.iload_n 2, 1) := by decide +kernel
theorem dX10_write_22 : decode cX10_write 22 = .ok (.i2l, 1) := by decide +kernel
theorem dX10_write_23 : decode cX10_write 23 = .ok (.lconst 0, 1) := by decide +kernel
theorem dX10_write_24 : decode cX10_write 24 = .ok (.aload_n 0, 1) := by decide +kernel
theorem dX10_write_25 : decode cX10_write 25 = .ok (.getfield 80, 3) := by decide +kernel
theorem dX10_write_28 : decode cX10_write 28 = .ok (.iload_n 1, 1) := by decide +kernel
theorem dX10_write_29 : decode cX10_write 29 = .ok (.iaload, 1) := by decide +kernel
theorem dX10_write_30 : decode cX10_write 30 = .ok (.iconst 1, 1) := by decide +kernel
theorem dX10_write_31 : decode cX10_write 31 = .ok (.isub, 1) := by decide +kernel
theorem dX10_write_32 : decode cX10_write 32 = .ok (.i2l, 1) := by decide +kernel
theorem dX10_write_33 : decode cX10_write 33 = .ok (.invokestatic 152, 3) := by decide +kernel
theorem dX10_write_36 : decode cX10_write 36 = .ok (.ifCond .ne 7, 3) := by decide +kernel
theorem dX10_write_39 : decode cX10_write 39 = .ok (.ldc2_w 449, 3) := by decide +kernel
theorem dX10_write_42 : decode cX10_write 42 = .ok (.lreturn, 1) := by decide +kernel
theorem dX10_write_43 : decode cX10_write 43 = .ok (.aload_n 0, 1) := by decide +kernel
theorem dX10_write_44 : decode cX10_write 44 = .ok (.getfield 83, 3) := by decide +kernel
theorem dX10_write_47 : decode cX10_write 47 = .ok (.bipush 40, 2) := by decide +kernel
theorem dX10_write_49 : decode cX10_write 49 = .ok (.iload_n 1, 1) := by decide +kernel
theorem dX10_write_50 : decode cX10_write 50 = .ok (.imul, 1) := by decide +kernel
theorem dX10_write_51 : decode cX10_write 51 = .ok (.iload_n 2, 1) := by decide +kernel
theorem dX10_write_52 : decode cX10_write 52 = .ok (.iadd, 1) := by decide +kernel
theorem dX10_write_53 : decode cX10_write 53 = .ok (.lload_n 3, 1) := by decide +kernel
theorem dX10_write_54 : decode cX10_write 54 = .ok (.aload_n 0, 1) := by decide +kernel
theorem dX10_write_55 : decode cX10_write 55 = .ok (.getfield 77, 3) := by decide +kernel
theorem dX10_write_58 : decode cX10_write 58 = .ok (.iload_n 1, 1) := by decide +kernel
theorem dX10_write_59 : decode cX10_write 59 = .ok (.iaload, 1) := by decide +kernel
theorem dX10_write_60 : decode cX10_write 60 = .ok (.invokestatic 451, 3) := by decide +kernel
theorem dX10_write_63 : decode cX10_write 63 = .ok (.lastore, 1) := by decide +kernel
theorem dX10_write_64 : decode cX10_write 64 = .ok (.aload_n 0, 1) := by decide +kernel
theorem dX10_write_65 : decode cX10_write 65 = .ok (.getfield 83, 3) := by decide +kernel
theorem dX10_write_68 : decode cX10_write 68 = .ok (.bipush 40, 2) := by decide +kernel
theorem dX10_write_70 : decode cX10_write 70 = .ok (.iload_n 1, 1) := by decide +kernel
theorem dX10_write_71 : decode cX10_write 71 = .ok (.imul, 1) := by decide +kernel
theorem dX10_write_72 : decode cX10_write 72 = .ok (.iload_n 2, 1) := by decide +kernel
theorem dX10_write_73 : decode cX10_write 73 = .ok (.iadd, 1) := by decide +kernel
theorem dX10_write_74 : decode cX10_write 74 = .ok (.laload, 1) := by decide +kernel
theorem dX10_write_75 : decode cX10_write 75 = .ok (.lreturn, 1) := by decide +kernel
theorem dX10_lists_0 : decode cX10_lists 0 = .ok (.aload_n 0, 1) := by decide +kernel
theorem dX10_lists_1 : decode cX10_lists 1 = .ok (.iconst 0, 1) := by decide +kernel
theorem dX10_lists_2 : decode cX10_lists 2 = .ok (.putfield 1, 3) := by decide +kernel
theorem dX10_lists_5 : decode cX10_lists 5 = .ok (.aload_n 0, 1) := by decide +kernel
theorem dX10_lists_6 : decode cX10_lists 6 = .ok (.iload_n 1, 1) := by decide +kernel
theorem dX10_lists_7 : decode cX10_lists 7 = .ok (.invokevirtual 323, 3) := by decide +kernel
theorem dX10_lists_10 : decode cX10_lists 10 = .ok (.istore_n 3, 1) := by decide +kernel
theorem dX10_lists_11 : decode cX10_lists 11 = .ok (.iload_n 3, 1) := by decide +kernel
theorem dX10_lists_12 : decode cX10_lists 12 = .ok (.ifCond .eq 5, 3) := by decide +kernel
theorem dX10_lists_15 : decode cX10_lists 15 = .ok (.iload_n 3, 1) := by decide +kernel
theorem dX10_lists_16 : decode cX10_lists 16 = .ok (.ireturn, 1) := by decide +kernel
theorem dX10_lists_17 : decode cX10_lists 17 = .ok (.aload_n 0, 1) := by decide +kernel
theorem dX10_lists_18 : decode cX10_lists 18 = .ok (.iload_n 2, 1) := by decide +kernel
theorem dX10_lists_19 : decode cX10_lists 19 = .ok (.i2l, 1) := by decide +kernel
theorem dX10_lists_20 : decode cX10_lists 20 = .ok (.invokevirtual 259, 3) := by decide +kernel
theorem dX10_lists_23 : decode cX10_lists 23 = .ok (.ifCond .ne 6, 3) := by decide +kernel
theorem dX10_lists_26 : decode cX10_lists 26 = .ok (.bipush (-3), 2) := by decide +kernel
theorem dX10_lists_28 : decode cX10_lists 28 = .ok (.ireturn, 1) := by decide +kernel
theorem dX10_lists_29 : decode cX10_lists 29 = .ok (.aload_n 0, 1) := by decide +kernel
theorem dX10_lists_30 : decode cX10_lists 30 = .ok (.iload_n 2, 1) := by decide +kernel
theorem dX10_lists_31 : decode cX10_lists 31 = .ok (.invokevirtual 361, 3) := by decide +kernel
theorem dX10_lists_34 : decode cX10_lists 34 = .ok (.istore 4, 2) := by decide +kernel
theorem dX10_lists_36 : decode cX10_lists 36 = .ok (.iload 4, 2) := by decide +kernel
theorem dX10_lists_38 : decode cX10_lists 38 = .ok (.ldc_w 350, 3) := by decide +kernel
theorem dX10_lists_41 : decode cX10_lists 41 = .ok (.if_icmp .ne 6, 3) := by decide +kernel
theorem dX10_lists_44 : decode cX10_lists 44 = .ok (.bipush (-5), 2) := by decide +kernel
theorem dX10_lists_46 : decode cX10_lists 46 = .ok (.ireturn, 1) := by decide +kernel
theorem dX10_lists_47 : decode cX10_lists 47 = .ok (.iload 4, 2) := by decide +kernel
theorem dX10_lists_49 : decode cX10_lists 49 = .ok (.aload_n 0, 1) := by decide +kernel
theorem dX10_lists_50 : decode cX10_lists 50 = .ok (.getfield 80, 3) := by decide +kernel
theorem dX10_lists_53 : decode cX10_lists 53 = .ok (.iload_n 1, 1) := by decide +kernel
theorem dX10_lists_54 : decode cX10_lists 54 = .ok (.iaload, 1) := by decide +kernel
theorem dX10_lists_55 : decode cX10_lists 55 = .ok (.if_icmp .ge 8, 3) := by decide +kernel
theorem dX10_lists_58 : decode cX10_lists 58 = .ok (.iload 4, 2) := by decide +kernel
theorem dX10_lists_60 : decode cX10_lists 60 = .ok (.goto 9, 3) := by decide +kernel
theorem dX10_lists_63 : decode cX10_lists 63 = .ok (.aload_n 0, 1) := by decide +kernel
theorem dX10_lists_64 : decode cX10_lists 64 = .ok (.getfield 80, 3) := by decide +kernel
theorem dX10_lists_67 : decode cX10_lists 67 = .ok (.iload_n 1, 1) := by decide +kernel
theorem dX10_lists_68 : decode cX10_lists 68 = .ok (.iaload, 1) := by decide +kernel
theorem dX10_lists_69 : decode cX10_lists 69 = .ok (.istore 5, 2) := by decide +kernel
theorem dX10_lists_71 : decode cX10_lists 71 = .ok (.iconst 0, 1) := by decide +kernel
theorem dX10_lists_72 : decode cX10_lists 72 = .ok (.istore 6, 2) := by decide +kernel
theorem dX10_lists_74 : decode cX10_lists 74 = .ok (.iload 6, 2) := by decide +kernel
theorem dX10_lists_76 : decode cX10_lists 76 = .ok (.iload 5, 2) := by decide +kernel
theorem dX10_lists_78 : decode cX10_lists 78 = .ok (.if_icmp .ge 28, 3) := by decide +kernel
theorem dX10_lists_81 : decode cX10_lists 81 = .ok (.aload_n 0, 1) := by decide +kernel
theorem dX10_lists_82 : decode cX10_lists 82 = .ok (.getfield 83, 3) := by decide +kernel
theorem dX10_lists_85 : decode cX10_lists 85 = .ok (.bipush 40, 2) := by decide +kernel
theorem dX10_lists_87 : decode cX10_lists 87 = .ok (.iload_n 1, 1) := by decide +kernel
theorem dX10_lists_88 : decode cX10_lists 88 = .ok (.imul, 1) := by decide +kernel
theorem dX10_lists_89 : decode cX10_lists 89 = .ok (.iload 6, 2) := by decide +kernel
theorem dX10_lists_91 : decode cX10_lists 91 = .ok (.iadd, 1) := by decide +kernel
theorem dX10_lists_92 : decode cX10_lists 92 = .ok (.aload_n 0, 1) := by decide +kernel
theorem dX10_lists_93 : decode cX10_lists 93 = .ok (.iload 6, 2) := by decide +kernel
theorem dX10_lists_95 : decode cX10_lists 95 = .ok (.invokevirtual 364, 3) := by decide +kernel
theorem dX10_lists_98 : decode cX10_lists 98 = .ok (.i2l, 1) := by decide +kernel
theorem dX10_lists_99 : decode cX10_lists 99 = .ok (.lastore, 1) := by decide +kernel
theorem dX10_lists_100 : decode cX10_lists 100 = .ok (.iinc 6 1, 3) := by decide +kernel
theorem dX10_lists_103 : decode cX10_lists 103 = .ok (.goto (-29), 3) := by decide +kernel
theorem dX10_lists_106 : decode cX10_lists 106 = .ok (.iload 5, 2) := by decide +kernel
theorem dX10_lists_108 : decode cX10_lists 108 = .ok (.ireturn, 1) := by decide +kernel
theorem dX10_image_0 : decode cX10_image 0 = .ok (.aload_n 0, 1) := by decide +kernel
theorem dX10_image_1 : decode cX10_image 1 = .ok (.iconst 0, 1) := by decide +kernel
theorem dX10_image_2 : decode cX10_image 2 = .ok (.putfield 1, 3) := by decide +kernel
theorem dX10_image_5 : decode cX10_image 5 = .ok (.iload_n 1, 1) := by decide +kernel
theorem dX10_image_6 : decode cX10_image 6 = .ok (.i2l, 1) := by decide +kernel
theorem dX10_image_7 : decode cX10_image 7 = .ok (.lconst 0, 1) := by decide +kernel
theorem dX10_image_8 : decode cX10_image 8 = .ok (.lconst 1, 1) := by decide +kernel
theorem dX10_image_9 : decode cX10_image 9 = .ok (.invokestatic 152, 3) := by decide +kernel
theorem dX10_image_12 : decode cX10_image 12 = .ok (.ifCond .ne 6, 3) := by decide +kernel
theorem dX10_image_15 : decode cX10_image 15 = .ok (.bipush (-2), 2) := by decide +kernel
theorem dX10_image_17 : decode cX10_image 17 = .ok (.ireturn, 1) := by decide +kernel
theorem dX10_image_18 : decode cX10_image 18 = .ok (.iconst 0, 1) := by decide +kernel
theorem dX10_image_19 : decode cX10_image 19 = .ok (.istore_n 2, 1) := by decide +kernel
theorem dX10_image_20 : decode cX10_image 20 = .ok (.iload_n 2, 1) := by decide +kernel
theorem dX10_image_21 : decode cX10_image 21 = .ok (.sipush 1177, 3) := by decide +kernel
theorem dX10_image_24 : decode cX10_image 24 = .ok (.if_icmp .ge 29, 3) := by decide +kernel
theorem dX10_image_27 : decode cX10_image 27 = .ok (.aload_n 0, 1) := by decide +kernel
theorem dX10_image_28 : decode cX10_image 28 = .ok (.getfield 13, 3) := by decide +kernel
theorem dX10_image_31 : decode cX10_image 31 = .ok (.sipush 1177, 3) := by decide +kernel
theorem dX10_image_34 : decode cX10_image 34 = .ok (.iload_n 1, 1) := by decide +kernel
theorem dX10_image_35 : decode cX10_image 35 = .ok (.iconst 1, 1) := by decide +kernel
theorem dX10_image_36 : decode cX10_image 36 = .ok (.iadd, 1) := by decide +kernel
theorem dX10_image_37 : decode cX10_image 37 = .ok (.imul, 1) := by decide +kernel
theorem dX10_image_38 : decode cX10_image 38 = .ok (.iload_n 2, 1) := by decide +kernel
theorem dX10_image_39 : decode cX10_image 39 = .ok (.iadd, 1) := by decide +kernel
theorem dX10_image_40 : decode cX10_image 40 = .ok (.aload_n 0, 1) := by decide +kernel
theorem dX10_image_41 : decode cX10_image 41 = .ok (.getfield 13, 3) := by decide +kernel
theorem dX10_image_44 : decode cX10_image 44 = .ok (.iload_n 2, 1) := by decide +kernel
theorem dX10_image_45 : decode cX10_image 45 = .ok (.iaload, 1) := by decide +kernel
theorem dX10_image_46 : decode cX10_image 46 = .ok (.iastore, 1) := by decide +kernel
theorem dX10_image_47 : decode cX10_image 47 = .ok (.iinc 2 1, 3) := by decide +kernel
theorem dX10_image_50 : decode cX10_image 50 = .ok (.goto (-30), 3) := by decide +kernel
theorem dX10_image_53 : decode cX10_image 53 = .ok (.aload_n 0, 1) := by decide +kernel
theorem dX10_image_54 : decode cX10_image 54 = .ok (.getfield 17, 3) := by decide +kernel
theorem dX10_image_57 : decode cX10_image 57 = .ok (.iload_n 1, 1) := by decide +kernel
theorem dX10_image_58 : decode cX10_image 58 = .ok (.iconst 1, 1) := by decide +kernel
theorem dX10_image_59 : decode cX10_image 59 = .ok (.bastore, 1) := by decide +kernel
theorem dX10_image_60 : decode cX10_image 60 = .ok (.iconst 0, 1) := by decide +kernel
theorem dX10_image_61 : decode cX10_image 61 = .ok (.ireturn, 1) := by decide +kernel
theorem dX10_restore_0 : decode cX10_restore 0 = .ok (.aload_n 0, 1) := by decide +kernel
theorem dX10_restore_1 : decode cX10_restore 1 = .ok (.iconst 0, 1) := by decide +kernel
theorem dX10_restore_2 : decode cX10_restore 2 = .ok (.putfield 1, 3) := by decide +kernel
theorem dX10_restore_5 : decode cX10_restore 5 = .ok (.iload_n 1, 1) := by decide +kernel
theorem dX10_restore_6 : decode cX10_restore 6 = .ok (.i2l, 1) := by decide +kernel
theorem dX10_restore_7 : decode cX10_restore 7 = .ok (.lconst 0, 1) := by decide +kernel
theorem dX10_restore_8 : decode cX10_restore 8 = .ok (.lconst 1, 1) := by decide +kernel
theorem dX10_restore_9 : decode cX10_restore 9 = .ok (.invokestatic 152, 3) := by decide +kernel
theorem dX10_restore_12 : decode cX10_restore 12 = .ok (.ifCond .ne 6, 3) := by decide +kernel
theorem dX10_restore_15 : decode cX10_restore 15 = .ok (.bipush (-2), 2) := by decide +kernel
theorem dX10_restore_17 : decode cX10_restore 17 = .ok (.ireturn, 1) := by decide +kernel
theorem dX10_restore_18 : decode cX10_restore 18 = .ok (.aload_n 0, 1) := by decide +kernel
theorem dX10_restore_19 : decode cX10_restore 19 = .ok (.getfield 17, 3) := by decide +kernel
theorem dX10_restore_22 : decode cX10_restore 22 = .ok (.iload_n 1, 1) := by decide +kernel
theorem dX10_restore_23 : decode cX10_restore 23 = .ok (.baload, 1) := by decide +kernel
theorem dX10_restore_24 : decode cX10_restore 24 = .ok (.ifCond .ne 6, 3) := by decide +kernel
theorem dX10_restore_27 : decode cX10_restore 27 = .ok (.bipush (-5), 2) := by decide +kernel
theorem dX10_restore_29 : decode cX10_restore 29 = .ok (.ireturn, 1) := by decide +kernel
theorem dX10_restore_30 : decode cX10_restore 30 = .ok (.iconst 0, 1) := by decide +kernel
theorem dX10_restore_31 : decode cX10_restore 31 = .ok (.istore_n 2, 1) := by decide +kernel
theorem dX10_restore_32 : decode cX10_restore 32 = .ok (.iload_n 2, 1) := by decide +kernel
theorem dX10_restore_33 : decode cX10_restore 33 = .ok (.sipush 1177, 3) := by decide +kernel
theorem dX10_restore_36 : decode cX10_restore 36 = .ok (.if_icmp .ge 29, 3) := by decide +kernel
theorem dX10_restore_39 : decode cX10_restore 39 = .ok (.aload_n 0, 1) := by decide +kernel
theorem dX10_restore_40 : decode cX10_restore 40 = .ok (.getfield 13, 3) := by decide +kernel
theorem dX10_restore_43 : decode cX10_restore 43 = .ok (.iload_n 2, 1) := by decide +kernel
theorem dX10_restore_44 : decode cX10_restore 44 = .ok (.aload_n 0, 1) := by decide +kernel
theorem dX10_restore_45 : decode cX10_restore 45 = .ok (.getfield 13, 3) := by decide +kernel
theorem dX10_restore_48 : decode cX10_restore 48 = .ok (.sipush 1177, 3) := by decide +kernel
theorem dX10_restore_51 : decode cX10_restore 51 = .ok (.iload_n 1, 1) := by decide +kernel
theorem dX10_restore_52 : decode cX10_restore 52 = .ok (.iconst 1, 1) := by decide +kernel
theorem dX10_restore_53 : decode cX10_restore 53 = .ok (.iadd, 1) := by decide +kernel
theorem dX10_restore_54 : decode cX10_restore 54 = .ok (.imul, 1) := by decide +kernel
theorem dX10_restore_55 : decode cX10_restore 55 = .ok (.iload_n 2, 1) := by decide +kernel
theorem dX10_restore_56 : decode cX10_restore 56 = .ok (.iadd, 1) := by decide +kernel
theorem dX10_restore_57 : decode cX10_restore 57 = .ok (.iaload, 1) := by decide +kernel
theorem dX10_restore_58 : decode cX10_restore 58 = .ok (.iastore, 1) := by decide +kernel
theorem dX10_restore_59 : decode cX10_restore 59 = .ok (.iinc 2 1, 3) := by decide +kernel
theorem dX10_restore_62 : decode cX10_restore 62 = .ok (.goto (-30), 3) := by decide +kernel
theorem dX10_restore_65 : decode cX10_restore 65 = .ok (.aload_n 0, 1) := by decide +kernel
theorem dX10_restore_66 : decode cX10_restore 66 = .ok (.getfield 13, 3) := by decide +kernel
theorem dX10_restore_69 : decode cX10_restore 69 = .ok (.bipush 45, 2) := by decide +kernel
theorem dX10_restore_71 : decode cX10_restore 71 = .ok (.iconst 0, 1) := by decide +kernel
theorem dX10_restore_72 : decode cX10_restore 72 = .ok (.iastore, 1) := by decide +kernel
theorem dX10_restore_73 : decode cX10_restore 73 = .ok (.iconst 0, 1) := by decide +kernel
theorem dX10_restore_74 : decode cX10_restore 74 = .ok (.ireturn, 1) := by decide +kernel
theorem dX10_count_0 : decode cX10_count 0 = .ok (.aload_n 0, 1) := by decide +kernel
theorem dX10_count_1 : decode cX10_count 1 = .ok (.iconst 0, 1) := by decide +kernel
theorem dX10_count_2 : decode cX10_count 2 = .ok (.putfield 1, 3) := by decide +kernel
theorem dX10_count_5 : decode cX10_count 5 = .ok (.iload_n 1, 1) := by decide +kernel
theorem dX10_count_6 : decode cX10_count 6 = .ok (.tableswitch 128 0 9 #[54, 61, 68, 75, 83, 92, 100, 108, 116, 121], 54) := by decide +kernel
theorem dX10_count_60 : decode cX10_count 60 = .ok (.aload_n 0, 1) := by decide +kernel
theorem dX10_count_61 : decode cX10_count 61 = .ok (.getfield 13, 3) := by decide +kernel
theorem dX10_count_64 : decode cX10_count 64 = .ok (.iconst 1, 1) := by decide +kernel
theorem dX10_count_65 : decode cX10_count 65 = .ok (.iaload, 1) := by decide +kernel
theorem dX10_count_66 : decode cX10_count 66 = .ok (.ireturn, 1) := by decide +kernel
theorem dX10_count_67 : decode cX10_count 67 = .ok (.aload_n 0, 1) := by decide +kernel
theorem dX10_count_68 : decode cX10_count 68 = .ok (.getfield 13, 3) := by decide +kernel
theorem dX10_count_71 : decode cX10_count 71 = .ok (.iconst 3, 1) := by decide +kernel
theorem dX10_count_72 : decode cX10_count 72 = .ok (.iaload, 1) := by decide +kernel
theorem dX10_count_73 : decode cX10_count 73 = .ok (.ireturn, 1) := by decide +kernel
theorem dX10_count_74 : decode cX10_count 74 = .ok (.aload_n 0, 1) := by decide +kernel
theorem dX10_count_75 : decode cX10_count 75 = .ok (.getfield 13, 3) := by decide +kernel
theorem dX10_count_78 : decode cX10_count 78 = .ok (.iconst 4, 1) := by decide +kernel
theorem dX10_count_79 : decode cX10_count 79 = .ok (.iaload, 1) := by decide +kernel
theorem dX10_count_80 : decode cX10_count 80 = .ok (.ireturn, 1) := by decide +kernel
theorem dX10_count_81 : decode cX10_count 81 = .ok (.aload_n 0, 1) := by decide +kernel
theorem dX10_count_82 : decode cX10_count 82 = .ok (.getfield 13, 3) := by decide +kernel
theorem dX10_count_85 : decode cX10_count 85 = .ok (.bipush 26, 2) := by decide +kernel
theorem dX10_count_87 : decode cX10_count 87 = .ok (.iaload, 1) := by decide +kernel
theorem dX10_count_88 : decode cX10_count 88 = .ok (.ireturn, 1) := by decide +kernel
theorem dX10_count_89 : decode cX10_count 89 = .ok (.aload_n 0, 1) := by decide +kernel
theorem dX10_count_90 : decode cX10_count 90 = .ok (.aload_n 0, 1) := by decide +kernel
theorem dX10_count_91 : decode cX10_count 91 = .ok (.invokevirtual 266, 3) := by decide +kernel
theorem dX10_count_94 : decode cX10_count 94 = .ok (.invokevirtual 256, 3) := by decide +kernel
theorem dX10_count_97 : decode cX10_count 97 = .ok (.ireturn, 1) := by decide +kernel
theorem dX10_count_98 : decode cX10_count 98 = .ok (.aload_n 0, 1) := by decide +kernel
theorem dX10_count_99 : decode cX10_count 99 = .ok (.getfield 13, 3) := by decide +kernel
theorem dX10_count_102 : decode cX10_count 102 = .ok (.bipush 27, 2) := by decide +kernel
theorem dX10_count_104 : decode cX10_count 104 = .ok (.iaload, 1) := by decide +kernel
theorem dX10_count_105 : decode cX10_count 105 = .ok (.ireturn, 1) := by decide +kernel
theorem dX10_count_106 : decode cX10_count 106 = .ok (.aload_n 0, 1) := by decide +kernel
theorem dX10_count_107 : decode cX10_count 107 = .ok (.getfield 13, 3) := by decide +kernel
theorem dX10_count_110 : decode cX10_count 110 = .ok (.bipush 28, 2) := by decide +kernel
theorem dX10_count_112 : decode cX10_count 112 = .ok (.iaload, 1) := by decide +kernel
theorem dX10_count_113 : decode cX10_count 113 = .ok (.ireturn, 1) := by decide +kernel
theorem dX10_count_114 : decode cX10_count 114 = .ok (.aload_n 0, 1) := by decide +kernel
theorem dX10_count_115 : decode cX10_count 115 = .ok (.getfield 13, 3) := by decide +kernel
theorem dX10_count_118 : decode cX10_count 118 = .ok (.bipush 45, 2) := by decide +kernel
theorem dX10_count_120 : decode cX10_count 120 = .ok (.iaload, 1) := by decide +kernel
theorem dX10_count_121 : decode cX10_count 121 = .ok (.ireturn, 1) := by decide +kernel
theorem dX10_count_122 : decode cX10_count 122 = .ok (.aload_n 0, 1) := by decide +kernel
theorem dX10_count_123 : decode cX10_count 123 = .ok (.getfield 90, 3) := by decide +kernel
theorem dX10_count_126 : decode cX10_count 126 = .ok (.ireturn, 1) := by decide +kernel
theorem dX10_count_127 : decode cX10_count 127 = .ok (.aload_n 0, 1) := by decide +kernel
theorem dX10_count_128 : decode cX10_count 128 = .ok (.getfield 13, 3) := by decide +kernel
theorem dX10_count_131 : decode cX10_count 131 = .ok (.iconst 0, 1) := by decide +kernel
theorem dX10_count_132 : decode cX10_count 132 = .ok (.iaload, 1) := by decide +kernel
theorem dX10_count_133 : decode cX10_count 133 = .ok (.ireturn, 1) := by decide +kernel
theorem dX10_count_134 : decode cX10_count 134 = .ok (.iconst (-1), 1) := by decide +kernel
theorem dX10_count_135 : decode cX10_count 135 = .ok (.ireturn, 1) := by decide +kernel
theorem dJ6_bitCount_0f7a4_0 : decode cJ6_bitCount_0f7a4 0 = .ok (.iload_n 0, 1) := by decide +kernel
theorem dJ6_bitCount_0f7a4_1 : decode cJ6_bitCount_0f7a4 1 = .ok (.iload_n 0, 1) := by decide +kernel
theorem dJ6_bitCount_0f7a4_2 : decode cJ6_bitCount_0f7a4 2 = .ok (.iconst 1, 1) := by decide +kernel
theorem dJ6_bitCount_0f7a4_3 : decode cJ6_bitCount_0f7a4 3 = .ok (.iushr, 1) := by decide +kernel
theorem dJ6_bitCount_0f7a4_4 : decode cJ6_bitCount_0f7a4 4 = .ok (.ldc_w 265, 3) := by decide +kernel
theorem dJ6_bitCount_0f7a4_7 : decode cJ6_bitCount_0f7a4 7 = .ok (.iand, 1) := by decide +kernel
theorem dJ6_bitCount_0f7a4_8 : decode cJ6_bitCount_0f7a4 8 = .ok (.isub, 1) := by decide +kernel
theorem dJ6_bitCount_0f7a4_9 : decode cJ6_bitCount_0f7a4 9 = .ok (.istore_n 0, 1) := by decide +kernel
theorem dJ6_bitCount_0f7a4_10 : decode cJ6_bitCount_0f7a4 10 = .ok (.iload_n 0, 1) := by decide +kernel
theorem dJ6_bitCount_0f7a4_11 : decode cJ6_bitCount_0f7a4 11 = .ok (.ldc_w 266, 3) := by decide +kernel
theorem dJ6_bitCount_0f7a4_14 : decode cJ6_bitCount_0f7a4 14 = .ok (.iand, 1) := by decide +kernel
theorem dJ6_bitCount_0f7a4_15 : decode cJ6_bitCount_0f7a4 15 = .ok (.iload_n 0, 1) := by decide +kernel
theorem dJ6_bitCount_0f7a4_16 : decode cJ6_bitCount_0f7a4 16 = .ok (.iconst 2, 1) := by decide +kernel
theorem dJ6_bitCount_0f7a4_17 : decode cJ6_bitCount_0f7a4 17 = .ok (.iushr, 1) := by decide +kernel
theorem dJ6_bitCount_0f7a4_18 : decode cJ6_bitCount_0f7a4 18 = .ok (.ldc_w 266, 3) := by decide +kernel
theorem dJ6_bitCount_0f7a4_21 : decode cJ6_bitCount_0f7a4 21 = .ok (.iand, 1) := by decide +kernel
theorem dJ6_bitCount_0f7a4_22 : decode cJ6_bitCount_0f7a4 22 = .ok (.iadd, 1) := by decide +kernel
theorem dJ6_bitCount_0f7a4_23 : decode cJ6_bitCount_0f7a4 23 = .ok (.istore_n 0, 1) := by decide +kernel

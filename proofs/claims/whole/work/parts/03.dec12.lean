theorem dX10_laysFar_66 : decode cX10_laysFar 66 = .ok (.istore_n 3, 1) := by decide +kernel
theorem dX10_laysFar_67 : decode cX10_laysFar 67 = .ok (.iload_n 3, 1) := by decide +kernel
theorem dX10_laysFar_68 : decode cX10_laysFar 68 = .ok (.ifCond .lt 93, 3) := by decide +kernel
theorem dX10_laysFar_71 : decode cX10_laysFar 71 = .ok (.iconst 0, 1) := by decide +kernel
theorem dX10_laysFar_72 : decode cX10_laysFar 72 = .ok (.istore 4, 2) := by decide +kernel
theorem dX10_laysFar_74 : decode cX10_laysFar 74 = .ok (.iload 4, 2) := by decide +kernel
theorem dX10_laysFar_76 : decode cX10_laysFar 76 = .ok (.bipush 16, 2) := by decide +kernel
theorem dX10_laysFar_78 : decode cX10_laysFar 78 = .ok (.if_icmp .ge 77, 3) := by decide +kernel
theorem dX10_laysFar_81 : decode cX10_laysFar 81 = .ok (.aload_n 0, 1) := by decide +kernel
theorem dX10_laysFar_82 : decode cX10_laysFar 82 = .ok (.getfield 47, 3) := by decide +kernel
theorem dX10_laysFar_85 : decode cX10_laysFar 85 = .ok (.aload_n 0, 1) := by decide +kernel
theorem dX10_laysFar_86 : decode cX10_laysFar 86 = .ok (.getfield 40, 3) := by decide +kernel
theorem dX10_laysFar_89 : decode cX10_laysFar 89 = .ok (.iload_n 3, 1) := by decide +kernel
theorem dX10_laysFar_90 : decode cX10_laysFar 90 = .ok (.iaload, 1) := by decide +kernel
theorem dX10_laysFar_91 : decode cX10_laysFar 91 = .ok (.iaload, 1) := by decide +kernel
theorem dX10_laysFar_92 : decode cX10_laysFar 92 = .ok (.ifCond .le 63, 3) := by decide +kernel
theorem dX10_laysFar_95 : decode cX10_laysFar 95 = .ok (.aload_n 0, 1) := by decide +kernel
theorem dX10_laysFar_96 : decode cX10_laysFar 96 = .ok (.aload_n 0, 1) := by decide +kernel
theorem dX10_laysFar_97 : decode cX10_laysFar 97 = .ok (.getfield 40, 3) := by decide +kernel
theorem dX10_laysFar_100 : decode cX10_laysFar 100 = .ok (.iload_n 3, 1) := by decide +kernel
theorem dX10_laysFar_101 : decode cX10_laysFar 101 = .ok (.iaload, 1) := by decide +kernel
theorem dX10_laysFar_102 : decode cX10_laysFar 102 = .ok (.iload 4, 2) := by decide +kernel
theorem dX10_laysFar_104 : decode cX10_laysFar 104 = .ok (.invokevirtual 358, 3) := by decide +kernel
theorem dX10_laysFar_107 : decode cX10_laysFar 107 = .ok (.aload_n 0, 1) := by decide +kernel
theorem dX10_laysFar_108 : decode cX10_laysFar 108 = .ok (.getfield 47, 3) := by decide +kernel
theorem dX10_laysFar_111 : decode cX10_laysFar 111 = .ok (.aload_n 0, 1) := by decide +kernel
theorem dX10_laysFar_112 : decode cX10_laysFar 112 = .ok (.getfield 40, 3) := by decide +kernel
theorem dX10_laysFar_115 : decode cX10_laysFar 115 = .ok (.iload_n 3, 1) := by decide +kernel
theorem dX10_laysFar_116 : decode cX10_laysFar 116 = .ok (.iaload, 1) := by decide +kernel
theorem dX10_laysFar_117 : decode cX10_laysFar 117 = .ok (.iaload, 1) := by decide +kernel
theorem dX10_laysFar_118 : decode cX10_laysFar 118 = .ok (.if_icmp .lt 6, 3) := by decide +kernel
theorem dX10_laysFar_121 : decode cX10_laysFar 121 = .ok (.goto 28, 3) := by decide +kernel
theorem dX10_laysFar_124 : decode cX10_laysFar 124 = .ok (.aload_n 0, 1) := by decide +kernel
theorem dX10_laysFar_125 : decode cX10_laysFar 125 = .ok (.getfield 47, 3) := by decide +kernel
theorem dX10_laysFar_128 : decode cX10_laysFar 128 = .ok (.aload_n 0, 1) := by decide +kernel
theorem dX10_laysFar_129 : decode cX10_laysFar 129 = .ok (.getfield 40, 3) := by decide +kernel
theorem dX10_laysFar_132 : decode cX10_laysFar 132 = .ok (.iload_n 3, 1) := by decide +kernel
theorem dX10_laysFar_133 : decode cX10_laysFar 133 = .ok (.iaload, 1) := by decide +kernel
theorem dX10_laysFar_134 : decode cX10_laysFar 134 = .ok (.aload_n 0, 1) := by decide +kernel
theorem dX10_laysFar_135 : decode cX10_laysFar 135 = .ok (.aload_n 0, 1) := by decide +kernel
theorem dX10_laysFar_136 : decode cX10_laysFar 136 = .ok (.getfield 40, 3) := by decide +kernel
theorem dX10_laysFar_139 : decode cX10_laysFar 139 = .ok (.iload_n 3, 1) := by decide +kernel
theorem dX10_laysFar_140 : decode cX10_laysFar 140 = .ok (.iaload, 1) := by decide +kernel
theorem dX10_laysFar_141 : decode cX10_laysFar 141 = .ok (.iload 4, 2) := by decide +kernel
theorem dX10_laysFar_143 : decode cX10_laysFar 143 = .ok (.invokevirtual 358, 3) := by decide +kernel
theorem dX10_laysFar_146 : decode cX10_laysFar 146 = .ok (.iastore, 1) := by decide +kernel
theorem dX10_laysFar_147 : decode cX10_laysFar 147 = .ok (.iconst 1, 1) := by decide +kernel
theorem dX10_laysFar_148 : decode cX10_laysFar 148 = .ok (.istore_n 2, 1) := by decide +kernel
theorem dX10_laysFar_149 : decode cX10_laysFar 149 = .ok (.iinc 4 1, 3) := by decide +kernel
theorem dX10_laysFar_152 : decode cX10_laysFar 152 = .ok (.goto (-78), 3) := by decide +kernel
theorem dX10_laysFar_155 : decode cX10_laysFar 155 = .ok (.iinc 3 (-1), 3) := by decide +kernel
theorem dX10_laysFar_158 : decode cX10_laysFar 158 = .ok (.goto (-91), 3) := by decide +kernel
theorem dX10_laysFar_161 : decode cX10_laysFar 161 = .ok (.goto (-107), 3) := by decide +kernel
theorem dX10_laysFar_164 : decode cX10_laysFar 164 = .ok (.aload_n 0, 1) := by decide +kernel
theorem dX10_laysFar_165 : decode cX10_laysFar 165 = .ok (.getfield 47, 3) := by decide +kernel
theorem dX10_laysFar_168 : decode cX10_laysFar 168 = .ok (.aload_n 0, 1) := by decide +kernel
theorem dX10_laysFar_169 : decode cX10_laysFar 169 = .ok (.invokevirtual 266, 3) := by decide +kernel
theorem dX10_laysFar_172 : decode cX10_laysFar 172 = .ok (.iaload, 1) := by decide +kernel
theorem dX10_laysFar_173 : decode cX10_laysFar 173 = .ok (.ireturn, 1) := by decide +kernel
theorem dX10_stepAt_0 : decode cX10_stepAt 0 = .ok (.aload_n 0, 1) := by decide +kernel
theorem dX10_stepAt_1 : decode cX10_stepAt 1 = .ok (.invokevirtual 266, 3) := by decide +kernel
theorem dX10_stepAt_4 : decode cX10_stepAt 4 = .ok (.istore_n 2, 1) := by decide +kernel
theorem dX10_stepAt_5 : decode cX10_stepAt 5 = .ok (.iconst 0, 1) := by decide +kernel
theorem dX10_stepAt_6 : decode cX10_stepAt 6 = .ok (.istore_n 3, 1) := by decide +kernel
theorem dX10_stepAt_7 : decode cX10_stepAt 7 = .ok (.aload_n 0, 1) := by decide +kernel
theorem dX10_stepAt_8 : decode cX10_stepAt 8 = .ok (.getfield 47, 3) := by decide +kernel
theorem dX10_stepAt_11 : decode cX10_stepAt 11 = .ok (.iload_n 2, 1) := by decide +kernel
theorem dX10_stepAt_12 : decode cX10_stepAt 12 = .ok (.iaload, 1) := by decide +kernel
theorem dX10_stepAt_13 : decode cX10_stepAt 13 = .ok (.ifCond .le 67, 3) := by decide +kernel
theorem dX10_stepAt_16 : decode cX10_stepAt 16 = .ok (.aload_n 0, 1) := by decide +kernel
theorem dX10_stepAt_17 : decode cX10_stepAt 17 = .ok (.getfield 47, 3) := by decide +kernel
theorem dX10_stepAt_20 : decode cX10_stepAt 20 = .ok (.iload_n 2, 1) := by decide +kernel
theorem dX10_stepAt_21 : decode cX10_stepAt 21 = .ok (.iaload, 1) := by decide +kernel
theorem dX10_stepAt_22 : decode cX10_stepAt 22 = .ok (.ldc_w 350, 3) := by decide +kernel
theorem dX10_stepAt_25 : decode cX10_stepAt 25 = .ok (.if_icmp .ge 55, 3) := by decide +kernel
theorem dX10_stepAt_28 : decode cX10_stepAt 28 = .ok (.iconst 0, 1) := by decide +kernel
theorem dX10_stepAt_29 : decode cX10_stepAt 29 = .ok (.istore 4, 2) := by decide +kernel
theorem dX10_stepAt_31 : decode cX10_stepAt 31 = .ok (.aload_n 0, 1) := by decide +kernel
theorem dX10_stepAt_32 : decode cX10_stepAt 32 = .ok (.iload_n 2, 1) := by decide +kernel
theorem dX10_stepAt_33 : decode cX10_stepAt 33 = .ok (.iload 4, 2) := by decide +kernel
theorem dX10_stepAt_35 : decode cX10_stepAt 35 = .ok (.invokevirtual 358, 3) := by decide +kernel
theorem dX10_stepAt_38 : decode cX10_stepAt 38 = .ok (.aload_n 0, 1) := by decide +kernel
theorem dX10_stepAt_39 : decode cX10_stepAt 39 = .ok (.getfield 47, 3) := by decide +kernel
theorem dX10_stepAt_42 : decode cX10_stepAt 42 = .ok (.iload_n 2, 1) := by decide +kernel
theorem dX10_stepAt_43 : decode cX10_stepAt 43 = .ok (.iaload, 1) := by decide +kernel
theorem dX10_stepAt_44 : decode cX10_stepAt 44 = .ok (.if_icmp .eq 9, 3) := by decide +kernel
theorem dX10_stepAt_47 : decode cX10_stepAt 47 = .ok (.iinc 4 1, 3) := by decide +kernel
theorem dX10_stepAt_50 : decode cX10_stepAt 50 = .ok (.goto (-19), 3) := by decide +kernel
theorem dX10_stepAt_53 : decode cX10_stepAt 53 = .ok (.iload_n 3, 1) := by decide +kernel
theorem dX10_stepAt_54 : decode cX10_stepAt 54 = .ok (.iload_n 1, 1) := by decide +kernel
theorem dX10_stepAt_55 : decode cX10_stepAt 55 = .ok (.if_icmp .ne 6, 3) := by decide +kernel
theorem dX10_stepAt_58 : decode cX10_stepAt 58 = .ok (.iload 4, 2) := by decide +kernel
theorem dX10_stepAt_60 : decode cX10_stepAt 60 = .ok (.ireturn, 1) := by decide +kernel
theorem dX10_stepAt_61 : decode cX10_stepAt 61 = .ok (.aload_n 0, 1) := by decide +kernel
theorem dX10_stepAt_62 : decode cX10_stepAt 62 = .ok (.getfield 44, 3) := by decide +kernel
theorem dX10_stepAt_65 : decode cX10_stepAt 65 = .ok (.bipush 16, 2) := by decide +kernel
theorem dX10_stepAt_67 : decode cX10_stepAt 67 = .ok (.iload_n 2, 1) := by decide +kernel
theorem dX10_stepAt_68 : decode cX10_stepAt 68 = .ok (.imul, 1) := by decide +kernel
theorem dX10_stepAt_69 : decode cX10_stepAt 69 = .ok (.iload 4, 2) := by decide +kernel
theorem dX10_stepAt_71 : decode cX10_stepAt 71 = .ok (.iadd, 1) := by decide +kernel
theorem dX10_stepAt_72 : decode cX10_stepAt 72 = .ok (.iaload, 1) := by decide +kernel
theorem dX10_stepAt_73 : decode cX10_stepAt 73 = .ok (.istore_n 2, 1) := by decide +kernel
theorem dX10_stepAt_74 : decode cX10_stepAt 74 = .ok (.iinc 3 1, 3) := by decide +kernel
theorem dX10_stepAt_77 : decode cX10_stepAt 77 = .ok (.goto (-70), 3) := by decide +kernel
theorem dX10_stepAt_80 : decode cX10_stepAt 80 = .ok (.iconst (-1), 1) := by decide +kernel
theorem dX10_stepAt_81 : decode cX10_stepAt 81 = .ok (.ireturn, 1) := by decide +kernel
theorem dX10_soonest_0 : decode cX10_soonest 0 = .ok (.aload_n 0, 1) := by decide +kernel
theorem dX10_soonest_1 : decode cX10_soonest 1 = .ok (.iconst 0, 1) := by decide +kernel
theorem dX10_soonest_2 : decode cX10_soonest 2 = .ok (.putfield 1, 3) := by decide +kernel
theorem dX10_soonest_5 : decode cX10_soonest 5 = .ok (.aload_n 0, 1) := by decide +kernel
theorem dX10_soonest_6 : decode cX10_soonest 6 = .ok (.iload_n 1, 1) := by decide +kernel
theorem dX10_soonest_7 : decode cX10_soonest 7 = .ok (.i2l, 1) := by decide +kernel
theorem dX10_soonest_8 : decode cX10_soonest 8 = .ok (.invokevirtual 259, 3) := by decide +kernel
theorem dX10_soonest_11 : decode cX10_soonest 11 = .ok (.ifCond .ne 6, 3) := by decide +kernel
theorem dX10_soonest_14 : decode cX10_soonest 14 = .ok (.bipush (-3), 2) := by decide +kernel
theorem dX10_soonest_16 : decode cX10_soonest 16 = .ok (.ireturn, 1) := by decide +kernel
theorem dX10_soonest_17 : decode cX10_soonest 17 = .ok (.aload_n 0, 1) := by decide +kernel
theorem dX10_soonest_18 : decode cX10_soonest 18 = .ok (.iload_n 1, 1) := by decide +kernel
theorem dX10_soonest_19 : decode cX10_soonest 19 = .ok (.invokevirtual 361, 3) := by decide +kernel
theorem dX10_soonest_22 : decode cX10_soonest 22 = .ok (.istore_n 2, 1) := by decide +kernel
theorem dX10_soonest_23 : decode cX10_soonest 23 = .ok (.iload_n 2, 1) := by decide +kernel
theorem dX10_soonest_24 : decode cX10_soonest 24 = .ok (.ldc_w 350, 3) := by decide +kernel
theorem dX10_soonest_27 : decode cX10_soonest 27 = .ok (.if_icmp .ne 7, 3) := by decide +kernel
theorem dX10_soonest_30 : decode cX10_soonest 30 = .ok (.iconst (-1), 1) := by decide +kernel
theorem dX10_soonest_31 : decode cX10_soonest 31 = .ok (.goto 4, 3) := by decide +kernel
theorem dX10_soonest_34 : decode cX10_soonest 34 = .ok (.iload_n 2, 1) := by decide +kernel
theorem dX10_soonest_35 : decode cX10_soonest 35 = .ok (.ireturn, 1) := by decide +kernel
theorem dX10_way_0 : decode cX10_way 0 = .ok (.aload_n 0, 1) := by decide +kernel
theorem dX10_way_1 : decode cX10_way 1 = .ok (.iconst 0, 1) := by decide +kernel
theorem dX10_way_2 : decode cX10_way 2 = .ok (.putfield 1, 3) := by decide +kernel
theorem dX10_way_5 : decode cX10_way 5 = .ok (.aload_n 0, 1) := by decide +kernel
theorem dX10_way_6 : decode cX10_way 6 = .ok (.iload_n 1, 1) := by decide +kernel
theorem dX10_way_7 : decode cX10_way 7 = .ok (.i2l, 1) := by decide +kernel
theorem dX10_way_8 : decode cX10_way 8 = .ok (.invokevirtual 259, 3) := by decide +kernel
theorem dX10_way_11 : decode cX10_way 11 = .ok (.ifCond .eq 7, 3) := by decide +kernel
theorem dX10_way_14 : decode cX10_way 14 = .ok (.iload_n 2, 1) := by decide +kernel
theorem dX10_way_15 : decode cX10_way 15 = .ok (.ifCond .ge 6, 3) := by decide +kernel
theorem dX10_way_18 : decode cX10_way 18 = .ok (.bipush (-3), 2) := by decide +kernel
theorem dX10_way_20 : decode cX10_way 20 = .ok (.ireturn, 1) := by decide +kernel
theorem dX10_way_21 : decode cX10_way 21 = .ok (.aload_n 0, 1) := by decide +kernel
theorem dX10_way_22 : decode cX10_way 22 = .ok (.iload_n 1, 1) := by decide +kernel
theorem dX10_way_23 : decode cX10_way 23 = .ok (.invokevirtual 361, 3) := by decide +kernel
theorem dX10_way_26 : decode cX10_way 26 = .ok (.pop, 1) := by decide +kernel
theorem dX10_way_27 : decode cX10_way 27 = .ok (.aload_n 0, 1) := by decide +kernel
theorem dX10_way_28 : decode cX10_way 28 = .ok (.iload_n 2, 1) := by decide +kernel
theorem dX10_way_29 : decode cX10_way 29 = .ok (.invokevirtual 364, 3) := by decide +kernel
theorem dX10_way_32 : decode cX10_way 32 = .ok (.ireturn, 1) := by decide +kernel
theorem dX10_rows_0 : decode cX10_rows 0 = .ok (.aload_n 0, 1) := by decide +kernel
theorem dX10_rows_1 : decode cX10_rows 1 = .ok (.iconst 0, 1) := by decide +kernel
theorem dX10_rows_2 : decode cX10_rows 2 = .ok (.putfield 1, 3) := by decide +kernel
theorem dX10_rows_5 : decode cX10_rows 5 = .ok (.aload_n 0, 1) := by decide +kernel
theorem dX10_rows_6 : decode cX10_rows 6 = .ok (.iload_n 1, 1) := by decide +kernel
theorem dX10_rows_7 : decode cX10_rows 7 = .ok (.i2l, 1) := by decide +kernel
theorem dX10_rows_8 : decode cX10_rows 8 = .ok (.invokevirtual 259, 3) := by decide +kernel
theorem dX10_rows_11 : decode cX10_rows 11 = .ok (.ifCond .eq 15, 3) := by decide +kernel
theorem dX10_rows_14 : decode cX10_rows 14 = .ok (.iload_n 2, 1) := by decide +kernel
theorem dX10_rows_15 : decode cX10_rows 15 = .ok (.i2l, 1) := by decide +kernel
theorem dX10_rows_16 : decode cX10_rows 16 = .ok (.lconst 0, 1) := by decide +kernel
theorem dX10_rows_17 : decode cX10_rows 17 = .ok (.ldc2_w 367, 3) := by decide +kernel
theorem dX10_rows_20 : decode cX10_rows 20 = .ok (.invokestatic 152, 3) := by decide +kernel
theorem dX10_rows_23 : decode cX10_rows 23 = .ok (.ifCond .ne 7, 3) := by decide +kernel
theorem dX10_rows_26 : decode cX10_rows 26 = .ok (.ldc2_w 369, 3) := by decide +kernel
theorem dX10_rows_29 : decode cX10_rows 29 = .ok (.lreturn, 1) := by decide +kernel
theorem dX10_rows_30 : decode cX10_rows 30 = .ok (.aload_n 0, 1) := by decide +kernel
theorem dX10_rows_31 : decode cX10_rows 31 = .ok (.invokevirtual 351, 3) := by decide +kernel
theorem dX10_rows_34 : decode cX10_rows 34 = .ok (.iconst 0, 1) := by decide +kernel
theorem dX10_rows_35 : decode cX10_rows 35 = .ok (.istore_n 3, 1) := by decide +kernel
theorem dX10_rows_36 : decode cX10_rows 36 = .ok (.iload_n 3, 1) := by decide +kernel
theorem dX10_rows_37 : decode cX10_rows 37 = .ok (.aload_n 0, 1) := by decide +kernel
theorem dX10_rows_38 : decode cX10_rows 38 = .ok (.getfield 344, 3) := by decide +kernel
theorem dX10_rows_41 : decode cX10_rows 41 = .ok (.if_icmp .ge 41, 3) := by decide +kernel
theorem dX10_rows_44 : decode cX10_rows 44 = .ok (.aload_n 0, 1) := by decide +kernel
theorem dX10_rows_45 : decode cX10_rows 45 = .ok (.getfield 53, 3) := by decide +kernel
theorem dX10_rows_48 : decode cX10_rows 48 = .ok (.aload_n 0, 1) := by decide +kernel
theorem dX10_rows_49 : decode cX10_rows 49 = .ok (.getfield 40, 3) := by decide +kernel
theorem dX10_rows_52 : decode cX10_rows 52 = .ok (.iload_n 3, 1) := by decide +kernel
theorem dX10_rows_53 : decode cX10_rows 53 = .ok (.iaload, 1) := by decide +kernel
theorem dX10_rows_54 : decode cX10_rows 54 = .ok (.iload_n 3, 1) := by decide +kernel
theorem dX10_rows_55 : decode cX10_rows 55 = .ok (.ifCond .ne 7, 3) := by decide +kernel
theorem dX10_rows_58 : decode cX10_rows 58 = .ok (.lconst 1, 1) := by decide +kernel
theorem dX10_rows_59 : decode cX10_rows 59 = .ok (.goto 4, 3) := by decide +kernel
theorem dX10_rows_62 : decode cX10_rows 62 = .ok (.lconst 0, 1) := by decide +kernel
theorem dX10_rows_63 : decode cX10_rows 63 = .ok (.lastore, 1) := by decide +kernel
theorem dX10_rows_64 : decode cX10_rows 64 = .ok (.aload_n 0, 1) := by decide +kernel
theorem dX10_rows_65 : decode cX10_rows 65 = .ok (.getfield 57, 3) := by decide +kernel
theorem dX10_rows_68 : decode cX10_rows 68 = .ok (.aload_n 0, 1) := by decide +kernel
theorem dX10_rows_69 : decode cX10_rows 69 = .ok (.getfield 40, 3) := by decide +kernel
theorem dX10_rows_72 : decode cX10_rows 72 = .ok (.iload_n 3, 1) := by decide +kernel
theorem dX10_rows_73 : decode cX10_rows 73 = .ok (.iaload, 1) := by decide +kernel
theorem dX10_rows_74 : decode cX10_rows 74 = .ok (.lconst 0, 1) := by decide +kernel
theorem dX10_rows_75 : decode cX10_rows 75 = .ok (.lastore, 1) := by decide +kernel
theorem dX10_rows_76 : decode cX10_rows 76 = .ok (.iinc 3 1, 3) := by decide +kernel
theorem dX10_rows_79 : decode cX10_rows 79 = .ok (.goto (-43), 3) := by decide +kernel
theorem dX10_rows_82 : decode cX10_rows 82 = .ok (.iconst 0, 1) := by decide +kernel
theorem dX10_rows_83 : decode cX10_rows 83 = .ok (.istore_n 3, 1) := by decide +kernel
theorem dX10_rows_84 : decode cX10_rows 84 = .ok (.iload_n 3, 1) := by decide +kernel
theorem dX10_rows_85 : decode cX10_rows 85 = .ok (.iload_n 2, 1) := by decide +kernel
theorem dX10_rows_86 : decode cX10_rows 86 = .ok (.if_icmp .ge 164, 3) := by decide +kernel
theorem dX10_rows_89 : decode cX10_rows 89 = .ok (.iconst 0, 1) := by decide +kernel
theorem dX10_rows_90 : decode cX10_rows 90 = .ok (.istore 4, 2) := by decide +kernel
theorem dX10_rows_92 : decode cX10_rows 92 = .ok (.iload 4, 2) := by decide +kernel
theorem dX10_rows_94 : decode cX10_rows 94 = .ok (.aload_n 0, 1) := by decide +kernel
theorem dX10_rows_95 : decode cX10_rows 95 = .ok (.getfield 344, 3) := by decide +kernel
theorem dX10_rows_98 : decode cX10_rows 98 = .ok (.if_icmp .ge 91, 3) := by decide +kernel
theorem dX10_rows_101 : decode cX10_rows 101 = .ok (.aload_n 0, 1) := by decide +kernel
theorem dX10_rows_102 : decode cX10_rows 102 = .ok (.getfield 40, 3) := by decide +kernel
theorem dX10_rows_105 : decode cX10_rows 105 = .ok (.iload 4, 2) := by decide +kernel
theorem dX10_rows_107 : decode cX10_rows 107 = .ok (.iaload, 1) := by decide +kernel
theorem dX10_rows_108 : decode cX10_rows 108 = .ok (.istore 5, 2) := by decide +kernel
theorem dX10_rows_110 : decode cX10_rows 110 = .ok (.iconst 0, 1) := by decide +kernel
theorem dX10_rows_111 : decode cX10_rows 111 = .ok (.istore 6, 2) := by decide +kernel
theorem dX10_rows_113 : decode cX10_rows 113 = .ok (.iload 6, 2) := by decide +kernel
theorem dX10_rows_115 : decode cX10_rows 115 = .ok (.bipush 16, 2) := by decide +kernel
theorem dX10_rows_117 : decode cX10_rows 117 = .ok (.if_icmp .ge 66, 3) := by decide +kernel
theorem dX10_rows_120 : decode cX10_rows 120 = .ok (.aload_n 0, 1) := by decide +kernel
theorem dX10_rows_121 : decode cX10_rows 121 = .ok (.getfield 53, 3) := by decide +kernel
theorem dX10_rows_124 : decode cX10_rows 124 = .ok (.iload 5, 2) := by decide +kernel
theorem dX10_rows_126 : decode cX10_rows 126 = .ok (.laload, 1) := by decide +kernel
theorem dX10_rows_127 : decode cX10_rows 127 = .ok (.lconst 0, 1) := by decide +kernel
theorem dX10_rows_128 : decode cX10_rows 128 = .ok (.lcmp, 1) := by decide +kernel
theorem dX10_rows_129 : decode cX10_rows 129 = .ok (.ifCond .le 54, 3) := by decide +kernel
theorem dX10_rows_132 : decode cX10_rows 132 = .ok (.aload_n 0, 1) := by decide +kernel
theorem dX10_rows_133 : decode cX10_rows 133 = .ok (.getfield 44, 3) := by decide +kernel
theorem dX10_rows_136 : decode cX10_rows 136 = .ok (.bipush 16, 2) := by decide +kernel
theorem dX10_rows_138 : decode cX10_rows 138 = .ok (.iload 5, 2) := by decide +kernel
theorem dX10_rows_140 : decode cX10_rows 140 = .ok (.imul, 1) := by decide +kernel
theorem dX10_rows_141 : decode cX10_rows 141 = .ok (.iload 6, 2) := by decide +kernel
theorem dX10_rows_143 : decode cX10_rows 143 = .ok (.iadd, 1) := by decide +kernel
theorem dX10_rows_144 : decode cX10_rows 144 = .ok (.iaload, 1) := by decide +kernel
theorem dX10_rows_145 : decode cX10_rows 145 = .ok (.iconst (-1), 1) := by decide +kernel
theorem dX10_rows_146 : decode cX10_rows 146 = .ok (.if_icmp .eq 31, 3) := by decide +kernel
theorem dX10_rows_149 : decode cX10_rows 149 = .ok (.aload_n 0, 1) := by decide +kernel
theorem dX10_rows_150 : decode cX10_rows 150 = .ok (.getfield 57, 3) := by decide +kernel
theorem dX10_rows_153 : decode cX10_rows 153 = .ok (.aload_n 0, 1) := by decide +kernel
theorem dX10_rows_154 : decode cX10_rows 154 = .ok (.getfield 44, 3) := by decide +kernel
theorem dX10_rows_157 : decode cX10_rows 157 = .ok (.bipush 16, 2) := by decide +kernel
theorem dX10_rows_159 : decode cX10_rows 159 = .ok (.iload 5, 2) := by decide +kernel
theorem dX10_rows_161 : decode cX10_rows 161 = .ok (.imul, 1) := by decide +kernel
theorem dX10_rows_162 : decode cX10_rows 162 = .ok (.iload 6, 2) := by decide +kernel
theorem dX10_rows_164 : decode cX10_rows 164 = .ok (.iadd, 1) := by decide +kernel
theorem dX10_rows_165 : decode cX10_rows 165 = .ok (.iaload, 1) := by decide +kernel
theorem dX10_rows_166 : decode cX10_rows 166 = .ok (.dup2, 1) := by decide +kernel
theorem dX10_rows_167 : decode cX10_rows 167 = .ok (.laload, 1) := by decide +kernel
theorem dX10_rows_168 : decode cX10_rows 168 = .ok (.aload_n 0, 1) := by decide +kernel
theorem dX10_rows_169 : decode cX10_rows 169 = .ok (.getfield 53, 3) := by decide +kernel
theorem dX10_rows_172 : decode cX10_rows 172 = .ok (.iload 5, 2) := by decide +kernel
theorem dX10_rows_174 : decode cX10_rows 174 = .ok (.laload, 1) := by decide +kernel
theorem dX10_rows_175 : decode cX10_rows 175 = .ok (.ladd, 1) := by decide +kernel
theorem dX10_rows_176 : decode cX10_rows 176 = .ok (.lastore, 1) := by decide +kernel
theorem dX10_rows_177 : decode cX10_rows 177 = .ok (.iinc 6 1, 3) := by decide +kernel
theorem dX10_rows_180 : decode cX10_rows 180 = .ok (.goto (-67), 3) := by decide +kernel
theorem dX10_rows_183 : decode cX10_rows 183 = .ok (.iinc 4 1, 3) := by decide +kernel
theorem dX10_rows_186 : decode cX10_rows 186 = .ok (.goto (-94), 3) := by decide +kernel
theorem dX10_rows_189 : decode cX10_rows 189 = .ok (.iconst 0, 1) := by decide +kernel
theorem dX10_rows_190 : decode cX10_rows 190 = .ok (.istore 4, 2) := by decide +kernel
theorem dX10_rows_192 : decode cX10_rows 192 = .ok (.iload 4, 2) := by decide +kernel
theorem dX10_rows_194 : decode cX10_rows 194 = .ok (.aload_n 0, 1) := by decide +kernel
theorem dX10_rows_195 : decode cX10_rows 195 = .ok (.getfield 344, 3) := by decide +kernel
theorem dX10_rows_198 : decode cX10_rows 198 = .ok (.if_icmp .ge 46, 3) := by decide +kernel
theorem dX10_rows_201 : decode cX10_rows 201 = .ok (.aload_n 0, 1) := by decide +kernel
theorem dX10_rows_202 : decode cX10_rows 202 = .ok (.getfield 53, 3) := by decide +kernel
theorem dX10_rows_205 : decode cX10_rows 205 = .ok (.aload_n 0, 1) := by decide +kernel
theorem dX10_rows_206 : decode cX10_rows 206 = .ok (.getfield 40, 3) := by decide +kernel
theorem dX10_rows_209 : decode cX10_rows 209 = .ok (.iload 4, 2) := by decide +kernel
theorem dX10_rows_211 : decode cX10_rows 211 = .ok (.iaload, 1) := by decide +kernel
theorem dX10_rows_212 : decode cX10_rows 212 = .ok (.aload_n 0, 1) := by decide +kernel
theorem dX10_rows_213 : decode cX10_rows 213 = .ok (.getfield 57, 3) := by decide +kernel
theorem dX10_rows_216 : decode cX10_rows 216 = .ok (.aload_n 0, 1) := by decide +kernel
theorem dX10_rows_217 : decode cX10_rows 217 = .ok (.getfield 40, 3) := by decide +kernel
theorem dX10_rows_220 : decode cX10_rows 220 = .ok (.iload 4, 2) := by decide +kernel
theorem dX10_rows_222 : decode cX10_rows 222 = .ok (.iaload, 1) := by decide +kernel
theorem dX10_rows_223 : decode cX10_rows 223 = .ok (.laload, 1) := by decide +kernel
theorem dX10_rows_224 : decode cX10_rows 224 = .ok (.lastore, 1) := by decide +kernel
theorem dX10_rows_225 : decode cX10_rows 225 = .ok (.aload_n 0, 1) := by decide +kernel
theorem dX10_rows_226 : decode cX10_rows 226 = .ok (.getfield 57, 3) := by decide +kernel
theorem dX10_rows_229 : decode cX10_rows 229 = .ok (.aload_n 0, 1) := by decide +kernel
theorem dX10_rows_230 : decode cX10_rows 230 = .ok (.getfield 40, 3) := by decide +kernel
theorem dX10_rows_233 : decode cX10_rows 233 = .ok (.iload 4, 2) := by decide +kernel
theorem dX10_rows_235 : decode cX10_rows 235 = .ok (.iaload, 1) := by decide +kernel
theorem dX10_rows_236 : decode cX10_rows 236 = .ok (.lconst 0, 1) := by decide +kernel
theorem dX10_rows_237 : decode cX10_rows 237 = .ok (.lastore, 1) := by decide +kernel
theorem dX10_rows_238 : decode cX10_rows 238 = .ok (.iinc 4 1, 3) := by decide +kernel
theorem dX10_rows_241 : decode cX10_rows 241 = .ok (.goto (-49), 3) := by decide +kernel
theorem dX10_rows_244 : decode cX10_rows 244 = .ok (.iinc 3 1, 3) := by decide +kernel
theorem dX10_rows_247 : decode cX10_rows 247 = .ok (.goto (-163), 3) := by decide +kernel
theorem dX10_rows_250 : decode cX10_rows 250 = .ok (.lconst 0, 1) := by decide +kernel
theorem dX10_rows_251 : decode cX10_rows 251 = .ok (.lstore_n 3, 1) := by decide +kernel
theorem dX10_rows_252 : decode cX10_rows 252 = .ok (.iconst 0, 1) := by decide +kernel
theorem dX10_rows_253 : decode cX10_rows 253 = .ok (.istore 5, 2) := by decide +kernel
theorem dX10_rows_255 : decode cX10_rows 255 = .ok (.iload 5, 2) := by decide +kernel
theorem dX10_rows_257 : decode cX10_rows 257 = .ok (.aload_n 0, 1) := by decide +kernel
theorem dX10_rows_258 : decode cX10_rows 258 = .ok (.getfield 344, 3) := by decide +kernel
theorem dX10_rows_261 : decode cX10_rows 261 = .ok (.if_icmp .ge 43, 3) := by decide +kernel
theorem dX10_rows_264 : decode cX10_rows 264 = .ok (.lload_n 3, 1) := by decide +kernel
theorem dX10_rows_265 : decode cX10_rows 265 = .ok (.aload_n 0, 1) := by decide +kernel
theorem dX10_rows_266 : decode cX10_rows 266 = .ok (.aload_n 0, 1) := by decide +kernel
theorem dX10_rows_267 : decode cX10_rows 267 = .ok (.getfield 40, 3) := by decide +kernel
theorem dX10_rows_270 : decode cX10_rows 270 = .ok (.iload 5, 2) := by decide +kernel
theorem dX10_rows_272 : decode cX10_rows 272 = .ok (.iaload, 1) := by decide +kernel
theorem dX10_rows_273 : decode cX10_rows 273 = .ok (.iload_n 1, 1) := by decide +kernel
theorem dX10_rows_274 : decode cX10_rows 274 = .ok (.invokevirtual 354, 3) := by decide +kernel
theorem dX10_rows_277 : decode cX10_rows 277 = .ok (.ifCond .eq 18, 3) := by decide +kernel
theorem dX10_rows_280 : decode cX10_rows 280 = .ok (.aload_n 0, 1) := by decide +kernel
theorem dX10_rows_281 : decode cX10_rows 281 = .ok (.getfield 53, 3) := by decide +kernel
theorem dX10_rows_284 : decode cX10_rows 284 = .ok (.aload_n 0, 1) := by decide +kernel
theorem dX10_rows_285 : decode cX10_rows 285 = .ok (.getfield 40, 3) := by decide +kernel
theorem dX10_rows_288 : decode cX10_rows 288 = .ok (.iload 5, 2) := by decide +kernel
theorem dX10_rows_290 : decode cX10_rows 290 = .ok (.iaload, 1) := by decide +kernel
theorem dX10_rows_291 : decode cX10_rows 291 = .ok (.laload, 1) := by decide +kernel
theorem dX10_rows_292 : decode cX10_rows 292 = .ok (.goto 4, 3) := by decide +kernel
theorem dX10_rows_295 : decode cX10_rows 295 = .ok (.lconst 0, 1) := by decide +kernel
theorem dX10_rows_296 : decode cX10_rows 296 = .ok (.ladd, 1) := by decide +kernel
theorem dX10_rows_297 : decode cX10_rows 297 = .ok (.lstore_n 3, 1) := by decide +kernel
theorem dX10_rows_298 : decode cX10_rows 298 = .ok (.iinc 5 1, 3) := by decide +kernel
theorem dX10_rows_301 : decode cX10_rows 301 = .ok (.goto (-46), 3) := by decide +kernel
theorem dX10_rows_304 : decode cX10_rows 304 = .ok (.lload_n 3, 1) := by decide +kernel
theorem dX10_rows_305 : decode cX10_rows 305 = .ok (.lreturn, 1) := by decide +kernel
theorem dX10_can_0 : decode cX10_can 0 = .ok (.aload_n 0, 1) := by decide +kernel
theorem dX10_can_1 : decode cX10_can 1 = .ok (.iconst 0, 1) := by decide +kernel
theorem dX10_can_2 : decode cX10_can 2 = .ok (.putfield 1, 3) := by decide +kernel
theorem dX10_can_5 : decode cX10_can 5 = .ok (.aload_n 0, 1) := by decide +kernel
theorem dX10_can_6 : decode cX10_can 6 = .ok (.invokevirtual 351, 3) := by decide +kernel
theorem dX10_can_9 : decode cX10_can 9 = .ok (.iconst 0, 1) := by decide +kernel
theorem dX10_can_10 : decode cX10_can 10 = .ok (.istore_n 1, 1) := by decide +kernel
theorem dX10_can_11 : decode cX10_can 11 = .ok (.iconst 0, 1) := by decide +kernel
theorem dX10_can_12 : decode cX10_can 12 = .ok (.istore_n 2, 1) := by decide +kernel
theorem dX10_can_13 : decode cX10_can 13 = .ok (.iload_n 2, 1) := by decide +kernel
theorem dX10_can_14 : decode cX10_can 14 = .ok (.aload_n 0, 1) := by decide +kernel
theorem dX10_can_15 : decode cX10_can 15 = .ok (.getfield 344, 3) := by decide +kernel
theorem dX10_can_18 : decode cX10_can 18 = .ok (.if_icmp .ge 38, 3) := by decide +kernel
theorem dX10_can_21 : decode cX10_can 21 = .ok (.iload_n 1, 1) := by decide +kernel
theorem dX10_can_22 : decode cX10_can 22 = .ok (.aload_n 0, 1) := by decide +kernel
theorem dX10_can_23 : decode cX10_can 23 = .ok (.getfield 40, 3) := by decide +kernel
theorem dX10_can_26 : decode cX10_can 26 = .ok (.iload_n 2, 1) := by decide +kernel
theorem dX10_can_27 : decode cX10_can 27 = .ok (.iaload, 1) := by decide +kernel
theorem dX10_can_28 : decode cX10_can 28 = .ok (.invokestatic 231, 3) := by decide +kernel
theorem dX10_can_31 : decode cX10_can 31 = .ok (.ifCond .le 16, 3) := by decide +kernel
theorem dX10_can_34 : decode cX10_can 34 = .ok (.aload_n 0, 1) := by decide +kernel
theorem dX10_can_35 : decode cX10_can 35 = .ok (.aload_n 0, 1) := by decide +kernel
theorem dX10_can_36 : decode cX10_can 36 = .ok (.getfield 40, 3) := by decide +kernel
theorem dX10_can_39 : decode cX10_can 39 = .ok (.iload_n 2, 1) := by decide +kernel
theorem dX10_can_40 : decode cX10_can 40 = .ok (.iaload, 1) := by decide +kernel
theorem dX10_can_41 : decode cX10_can 41 = .ok (.invokevirtual 256, 3) := by decide +kernel
theorem dX10_can_44 : decode cX10_can 44 = .ok (.goto 4, 3) := by decide +kernel
theorem dX10_can_47 : decode cX10_can 47 = .ok (.iconst 0, 1) := by decide +kernel
theorem dX10_can_48 : decode cX10_can 48 = .ok (.ior, 1) := by decide +kernel
theorem dX10_can_49 : decode cX10_can 49 = .ok (.istore_n 1, 1) := by decide +kernel
theorem dX10_can_50 : decode cX10_can 50 = .ok (.iinc 2 1, 3) := by decide +kernel
theorem dX10_can_53 : decode cX10_can 53 = .ok (.goto (-40), 3) := by decide +kernel
theorem dX10_can_56 : decode cX10_can 56 = .ok (.iload_n 1, 1) := by decide +kernel
theorem dX10_can_57 : decode cX10_can 57 = .ok (.ireturn, 1) := by decide +kernel
theorem dX10_most_0 : decode cX10_most 0 = .ok (.aload_n 0, 1) := by decide +kernel
theorem dX10_most_1 : decode cX10_most 1 = .ok (.iconst 0, 1) := by decide +kernel
theorem dX10_most_2 : decode cX10_most 2 = .ok (.putfield 1, 3) := by decide +kernel
theorem dX10_most_5 : decode cX10_most 5 = .ok (.iload_n 1, 1) := by decide +kernel
theorem dX10_most_6 : decode cX10_most 6 = .ok (.i2l, 1) := by decide +kernel
theorem dX10_most_7 : decode cX10_most 7 = .ok (.lconst 0, 1) := by decide +kernel
theorem dX10_most_8 : decode cX10_most 8 = .ok (.lconst 1, 1) := by decide +kernel
theorem dX10_most_9 : decode cX10_most 9 = .ok (.invokestatic 152, 3) := by decide +kernel
theorem dX10_most_12 : decode cX10_most 12 = .ok (.ifCond .ne 6, 3) := by decide +kernel
theorem dX10_most_15 : decode cX10_most 15 = .ok (.bipush (-2), 2) := by decide +kernel
theorem dX10_most_17 : decode cX10_most 17 = .ok (.ireturn, 1) := by decide +kernel
theorem dX10_most_18 : decode cX10_most 18 = .ok (.aload_n 0, 1) := by decide +kernel
theorem dX10_most_19 : decode cX10_most 19 = .ok (.invokevirtual 351, 3) := by decide +kernel
theorem dX10_most_22 : decode cX10_most 22 = .ok (.iconst (-1), 1) := by decide +kernel
theorem dX10_most_23 : decode cX10_most 23 = .ok (.istore_n 2, 1) := by decide +kernel
theorem dX10_most_24 : decode cX10_most 24 = .ok (.iconst 0, 1) := by decide +kernel
theorem dX10_most_25 : decode cX10_most 25 = .ok (.istore_n 3, 1) := by decide +kernel
theorem dX10_most_26 : decode cX10_most 26 = .ok (.iload_n 3, 1) := by decide +kernel
theorem dX10_most_27 : decode cX10_most 27 = .ok (.aload_n 0, 1) := by decide +kernel
theorem dX10_most_28 : decode cX10_most 28 = .ok (.getfield 344, 3) := by decide +kernel
theorem dX10_most_31 : decode cX10_most 31 = .ok (.if_icmp .ge 74, 3) := by decide +kernel
theorem dX10_most_34 : decode cX10_most 34 = .ok (.aload_n 0, 1) := by decide +kernel
theorem dX10_most_35 : decode cX10_most 35 = .ok (.getfield 40, 3) := by decide +kernel
theorem dX10_most_38 : decode cX10_most 38 = .ok (.iload_n 3, 1) := by decide +kernel
theorem dX10_most_39 : decode cX10_most 39 = .ok (.iaload, 1) := by decide +kernel
theorem dX10_most_40 : decode cX10_most 40 = .ok (.invokestatic 231, 3) := by decide +kernel
theorem dX10_most_43 : decode cX10_most 43 = .ok (.ifCond .ne 6, 3) := by decide +kernel
theorem dX10_most_46 : decode cX10_most 46 = .ok (.goto 53, 3) := by decide +kernel
theorem dX10_most_49 : decode cX10_most 49 = .ok (.aload_n 0, 1) := by decide +kernel
theorem dX10_most_50 : decode cX10_most 50 = .ok (.aload_n 0, 1) := by decide +kernel
theorem dX10_most_51 : decode cX10_most 51 = .ok (.getfield 40, 3) := by decide +kernel
theorem dX10_most_54 : decode cX10_most 54 = .ok (.iload_n 3, 1) := by decide +kernel
theorem dX10_most_55 : decode cX10_most 55 = .ok (.iaload, 1) := by decide +kernel
theorem dX10_most_56 : decode cX10_most 56 = .ok (.invokevirtual 256, 3) := by decide +kernel
theorem dX10_most_59 : decode cX10_most 59 = .ok (.istore 4, 2) := by decide +kernel
theorem dX10_most_61 : decode cX10_most 61 = .ok (.iload_n 2, 1) := by decide +kernel
theorem dX10_most_62 : decode cX10_most 62 = .ok (.iconst (-1), 1) := by decide +kernel
theorem dX10_most_63 : decode cX10_most 63 = .ok (.if_icmp .eq 33, 3) := by decide +kernel
theorem dX10_most_66 : decode cX10_most 66 = .ok (.iload 4, 2) := by decide +kernel
theorem dX10_most_68 : decode cX10_most 68 = .ok (.invokestatic 253, 3) := by decide +kernel
theorem dX10_most_71 : decode cX10_most 71 = .ok (.iload_n 2, 1) := by decide +kernel
theorem dX10_most_72 : decode cX10_most 72 = .ok (.invokestatic 253, 3) := by decide +kernel
theorem dX10_most_75 : decode cX10_most 75 = .ok (.if_icmp .gt 21, 3) := by decide +kernel
theorem dX10_most_78 : decode cX10_most 78 = .ok (.iload 4, 2) := by decide +kernel
theorem dX10_most_80 : decode cX10_most 80 = .ok (.invokestatic 253, 3) := by decide +kernel
theorem dX10_most_83 : decode cX10_most 83 = .ok (.iload_n 2, 1) := by decide +kernel
theorem dX10_most_84 : decode cX10_most 84 = .ok (.invokestatic 253, 3) := by decide +kernel
theorem dX10_most_87 : decode cX10_most 87 = .ok (.if_icmp .ne 12, 3) := by decide +kernel
theorem dX10_most_90 : decode cX10_most 90 = .ok (.iload 4, 2) := by decide +kernel
theorem dX10_most_92 : decode cX10_most 92 = .ok (.iload_n 2, 1) := by decide +kernel
theorem dX10_most_93 : decode cX10_most 93 = .ok (.if_icmp .ge 6, 3) := by decide +kernel
theorem dX10_most_96 : decode cX10_most 96 = .ok (.iload 4, 2) := by decide +kernel
theorem dX10_most_98 : decode cX10_most 98 = .ok (.istore_n 2, 1) := by decide +kernel
theorem dX10_most_99 : decode cX10_most 99 = .ok (.iinc 3 1, 3) := by decide +kernel
theorem dX10_most_102 : decode cX10_most 102 = .ok (.goto (-76), 3) := by decide +kernel
theorem dX10_most_105 : decode cX10_most 105 = .ok (.iload_n 2, 1) := by decide +kernel
theorem dX10_most_106 : decode cX10_most 106 = .ok (.iconst (-1), 1) := by decide +kernel
theorem dX10_most_107 : decode cX10_most 107 = .ok (.if_icmp .eq 8, 3) := by decide +kernel
theorem dX10_most_110 : decode cX10_most 110 = .ok (.iload_n 1, 1) := by decide +kernel
theorem dX10_most_111 : decode cX10_most 111 = .ok (.iconst 1, 1) := by decide +kernel
theorem dX10_most_112 : decode cX10_most 112 = .ok (.if_icmp .ne 7, 3) := by decide +kernel
theorem dX10_most_115 : decode cX10_most 115 = .ok (.iload_n 2, 1) := by decide +kernel
theorem dX10_most_116 : decode cX10_most 116 = .ok (.goto 7, 3) := by decide +kernel
theorem dX10_most_119 : decode cX10_most 119 = .ok (.iload_n 2, 1) := by decide +kernel
theorem dX10_most_120 : decode cX10_most 120 = .ok (.invokestatic 253, 3) := by decide +kernel
theorem dX10_most_123 : decode cX10_most 123 = .ok (.ireturn, 1) := by decide +kernel
theorem dX10_deepest_0 : decode cX10_deepest 0 = .ok (.aload_n 0, 1) := by decide +kernel
theorem dX10_deepest_1 : decode cX10_deepest 1 = .ok (.iconst 0, 1) := by decide +kernel
theorem dX10_deepest_2 : decode cX10_deepest 2 = .ok (.putfield 1, 3) := by decide +kernel
theorem dX10_deepest_5 : decode cX10_deepest 5 = .ok (.aload_n 0, 1) := by decide +kernel
theorem dX10_deepest_6 : decode cX10_deepest 6 = .ok (.invokevirtual 351, 3) := by decide +kernel
theorem dX10_deepest_9 : decode cX10_deepest 9 = .ok (.iconst 0, 1) := by decide +kernel
theorem dX10_deepest_10 : decode cX10_deepest 10 = .ok (.istore_n 1, 1) := by decide +kernel
theorem dX10_deepest_11 : decode cX10_deepest 11 = .ok (.iconst 0, 1) := by decide +kernel
theorem dX10_deepest_12 : decode cX10_deepest 12 = .ok (.istore_n 2, 1) := by decide +kernel
theorem dX10_deepest_13 : decode cX10_deepest 13 = .ok (.iload_n 2, 1) := by decide +kernel
theorem dX10_deepest_14 : decode cX10_deepest 14 = .ok (.aload_n 0, 1) := by decide +kernel
theorem dX10_deepest_15 : decode cX10_deepest 15 = .ok (.getfield 344, 3) := by decide +kernel
theorem dX10_deepest_18 : decode cX10_deepest 18 = .ok (.if_icmp .ge 36, 3) := by decide +kernel
theorem dX10_deepest_21 : decode cX10_deepest 21 = .ok (.aload_n 0, 1) := by decide +kernel
theorem dX10_deepest_22 : decode cX10_deepest 22 = .ok (.getfield 40, 3) := by decide +kernel
theorem dX10_deepest_25 : decode cX10_deepest 25 = .ok (.iload_n 2, 1) := by decide +kernel
theorem dX10_deepest_26 : decode cX10_deepest 26 = .ok (.iaload, 1) := by decide +kernel
theorem dX10_deepest_27 : decode cX10_deepest 27 = .ok (.invokestatic 231, 3) := by decide +kernel
theorem dX10_deepest_30 : decode cX10_deepest 30 = .ok (.iload_n 1, 1) := by decide +kernel
theorem dX10_deepest_31 : decode cX10_deepest 31 = .ok (.if_icmp .le 15, 3) := by decide +kernel
theorem dX10_deepest_34 : decode cX10_deepest 34 = .ok (.aload_n 0, 1) := by decide +kernel
theorem dX10_deepest_35 : decode cX10_deepest 35 = .ok (.getfield 40, 3) := by decide +kernel
theorem dX10_deepest_38 : decode cX10_deepest 38 = .ok (.iload_n 2, 1) := by decide +kernel
theorem dX10_deepest_39 : decode cX10_deepest 39 = .ok (.iaload, 1) := by decide +kernel
theorem dX10_deepest_40 : decode cX10_deepest 40 = .ok (.invokestatic 231, 3) := by decide +kernel
theorem dX10_deepest_43 : decode cX10_deepest 43 = .ok (.goto 4, 3) := by decide +kernel
theorem dX10_deepest_46 : decode cX10_deepest 46 = .ok (.iload_n 1, 1) := by decide +kernel
theorem dX10_deepest_47 : decode cX10_deepest 47 = .ok (.istore_n 1, 1) := by decide +kernel
theorem dX10_deepest_48 : decode cX10_deepest 48 = .ok (.iinc 2 1, 3) := by decide +kernel
theorem dX10_deepest_51 : decode cX10_deepest 51 = .ok (.goto (-38), 3) := by decide +kernel
theorem dX10_deepest_54 : decode cX10_deepest 54 = .ok (.iload_n 1, 1) := by decide +kernel
theorem dX10_deepest_55 : decode cX10_deepest 55 = .ok (.ireturn, 1) := by decide +kernel
theorem dX10_atOnce_0 : decode cX10_atOnce 0 = .ok (.aload_n 0, 1) := by decide +kernel
theorem dX10_atOnce_1 : decode cX10_atOnce 1 = .ok (.iconst 0, 1) := by decide +kernel
theorem dX10_atOnce_2 : decode cX10_atOnce 2 = .ok (.putfield 1, 3) := by decide +kernel
theorem dX10_atOnce_5 : decode cX10_atOnce 5 = .ok (.aload_n 0, 1) := by decide +kernel
theorem dX10_atOnce_6 : decode cX10_atOnce 6 = .ok (.getfield 13, 3) := by decide +kernel
theorem dX10_atOnce_9 : decode cX10_atOnce 9 = .ok (.bipush 26, 2) := by decide +kernel
theorem dX10_atOnce_11 : decode cX10_atOnce 11 = .ok (.iaload, 1) := by decide +kernel
theorem dX10_atOnce_12 : decode cX10_atOnce 12 = .ok (.ifCond .ne 6, 3) := by decide +kernel
theorem dX10_atOnce_15 : decode cX10_atOnce 15 = .ok (.bipush (-5), 2) := by decide +kernel
theorem dX10_atOnce_17 : decode cX10_atOnce 17 = .ok (.ireturn, 1) := by decide +kernel
theorem dX10_atOnce_18 : decode cX10_atOnce 18 = .ok (.iconst (-1), 1) := by decide +kernel
theorem dX10_atOnce_19 : decode cX10_atOnce 19 = .ok (.istore_n 1, 1) := by decide +kernel
theorem dX10_atOnce_20 : decode cX10_atOnce 20 = .ok (.iconst 0, 1) := by decide +kernel
theorem dX10_atOnce_21 : decode cX10_atOnce 21 = .ok (.istore_n 2, 1) := by decide +kernel
theorem dX10_atOnce_22 : decode cX10_atOnce 22 = .ok (.iload_n 2, 1) := by decide +kernel
theorem dX10_atOnce_23 : decode cX10_atOnce 23 = .ok (.iconst 1, 1) := by decide +kernel
theorem dX10_atOnce_24 : decode cX10_atOnce 24 = .ok (.aload_n 0, 1) := by decide +kernel
theorem dX10_atOnce_25 : decode cX10_atOnce 25 = .ok (.getfield 13, 3) := by decide +kernel
theorem dX10_atOnce_28 : decode cX10_atOnce 28 = .ok (.iconst 3, 1) := by decide +kernel
theorem dX10_atOnce_29 : decode cX10_atOnce 29 = .ok (.iaload, 1) := by decide +kernel
theorem dX10_atOnce_30 : decode cX10_atOnce 30 = .ok (.ishl, 1) := by decide +kernel
theorem dX10_atOnce_31 : decode cX10_atOnce 31 = .ok (.if_icmp .ge 66, 3) := by decide +kernel
theorem dX10_atOnce_34 : decode cX10_atOnce 34 = .ok (.aload_n 0, 1) := by decide +kernel
theorem dX10_atOnce_35 : decode cX10_atOnce 35 = .ok (.aload_n 0, 1) := by decide +kernel
theorem dX10_atOnce_36 : decode cX10_atOnce 36 = .ok (.invokevirtual 266, 3) := by decide +kernel
theorem dX10_atOnce_39 : decode cX10_atOnce 39 = .ok (.iload_n 2, 1) := by decide +kernel
theorem dX10_atOnce_40 : decode cX10_atOnce 40 = .ok (.i2l, 1) := by decide +kernel
theorem dX10_atOnce_41 : decode cX10_atOnce 41 = .ok (.invokevirtual 269, 3) := by decide +kernel
theorem dX10_atOnce_44 : decode cX10_atOnce 44 = .ok (.ifCond .ne 47, 3) := by decide +kernel
theorem dX10_atOnce_47 : decode cX10_atOnce 47 = .ok (.aload_n 0, 1) := by decide +kernel
theorem dX10_atOnce_48 : decode cX10_atOnce 48 = .ok (.aload_n 0, 1) := by decide +kernel
theorem dX10_atOnce_49 : decode cX10_atOnce 49 = .ok (.invokevirtual 266, 3) := by decide +kernel
theorem dX10_atOnce_52 : decode cX10_atOnce 52 = .ok (.iload_n 2, 1) := by decide +kernel
theorem dX10_atOnce_53 : decode cX10_atOnce 53 = .ok (.iconst 0, 1) := by decide +kernel
theorem dX10_atOnce_54 : decode cX10_atOnce 54 = .ok (.aload_n 0, 1) := by decide +kernel
theorem dX10_atOnce_55 : decode cX10_atOnce 55 = .ok (.getfield 13, 3) := by decide +kernel
theorem dX10_atOnce_58 : decode cX10_atOnce 58 = .ok (.bipush 27, 2) := by decide +kernel
theorem dX10_atOnce_60 : decode cX10_atOnce 60 = .ok (.iaload, 1) := by decide +kernel
theorem dX10_atOnce_61 : decode cX10_atOnce 61 = .ok (.invokevirtual 273, 3) := by decide +kernel
theorem dX10_atOnce_64 : decode cX10_atOnce 64 = .ok (.invokestatic 231, 3) := by decide +kernel
theorem dX10_atOnce_67 : decode cX10_atOnce 67 = .ok (.ifCond .ne 6, 3) := by decide +kernel
theorem dX10_atOnce_70 : decode cX10_atOnce 70 = .ok (.goto 21, 3) := by decide +kernel
theorem dX10_atOnce_73 : decode cX10_atOnce 73 = .ok (.iload_n 1, 1) := by decide +kernel
theorem dX10_atOnce_74 : decode cX10_atOnce 74 = .ok (.iconst (-1), 1) := by decide +kernel
theorem dX10_atOnce_75 : decode cX10_atOnce 75 = .ok (.if_icmp .eq 14, 3) := by decide +kernel
theorem dX10_atOnce_78 : decode cX10_atOnce 78 = .ok (.iload_n 2, 1) := by decide +kernel
theorem dX10_atOnce_79 : decode cX10_atOnce 79 = .ok (.invokestatic 253, 3) := by decide +kernel
theorem dX10_atOnce_82 : decode cX10_atOnce 82 = .ok (.iload_n 1, 1) := by decide +kernel
theorem dX10_atOnce_83 : decode cX10_atOnce 83 = .ok (.invokestatic 253, 3) := by decide +kernel
theorem dX10_atOnce_86 : decode cX10_atOnce 86 = .ok (.if_icmp .le 5, 3) := by decide +kernel
theorem dX10_atOnce_89 : decode cX10_atOnce 89 = .ok (.iload_n 2, 1) := by decide +kernel
theorem dX10_atOnce_90 : decode cX10_atOnce 90 = .ok (.istore_n 1, 1) := by decide +kernel
theorem dX10_atOnce_91 : decode cX10_atOnce 91 = .ok (.iinc 2 1, 3) := by decide +kernel
theorem dX10_atOnce_94 : decode cX10_atOnce 94 = .ok (.goto (-72), 3) := by decide +kernel
theorem dX10_atOnce_97 : decode cX10_atOnce 97 = .ok (.iload_n 1, 1) := by decide +kernel
theorem dX10_atOnce_98 : decode cX10_atOnce 98 = .ok (.ireturn, 1) := by decide +kernel
theorem dX10_stands_0 : decode cX10_stands 0 = .ok (.aload_n 0, 1) := by decide +kernel
theorem dX10_stands_1 : decode cX10_stands 1 = .ok (.iconst 0, 1) := by decide +kernel
theorem dX10_stands_2 : decode cX10_stands 2 = .ok (.putfield 1, 3) := by decide +kernel
theorem dX10_stands_5 : decode cX10_stands 5 = .ok (.aload_n 0, 1) := by decide +kernel
theorem dX10_stands_6 : decode cX10_stands 6 = .ok (.invokevirtual 351, 3) := by decide +kernel
theorem dX10_stands_9 : decode cX10_stands 9 = .ok (.aload_n 0, 1) := by decide +kernel
theorem dX10_stands_10 : decode cX10_stands 10 = .ok (.getfield 344, 3) := by decide +kernel
theorem dX10_stands_13 : decode cX10_stands 13 = .ok (.ireturn, 1) := by decide +kernel
theorem dX10_mayBind_0 : decode cX10_mayBind 0 = .ok (.aload_n 0, 1) := by decide +kernel
theorem dX10_mayBind_1 : decode cX10_mayBind 1 = .ok (.getfield 13, 3) := by decide +kernel
theorem dX10_mayBind_4 : decode cX10_mayBind 4 = .ok (.bipush 37, 2) := by decide +kernel
theorem dX10_mayBind_6 : decode cX10_mayBind 6 = .ok (.iload_n 1, 1) := by decide +kernel
theorem dX10_mayBind_7 : decode cX10_mayBind 7 = .ok (.iadd, 1) := by decide +kernel
theorem dX10_mayBind_8 : decode cX10_mayBind 8 = .ok (.iaload, 1) := by decide +kernel
theorem dX10_mayBind_9 : decode cX10_mayBind 9 = .ok (.i2l, 1) := by decide +kernel
theorem dX10_mayBind_10 : decode cX10_mayBind 10 = .ok (.iload_n 2, 1) := by decide +kernel
theorem dX10_mayBind_11 : decode cX10_mayBind 11 = .ok (.invokestatic 245, 3) := by decide +kernel
theorem dX10_mayBind_14 : decode cX10_mayBind 14 = .ok (.ifCond .ne 43, 3) := by decide +kernel
theorem dX10_mayBind_17 : decode cX10_mayBind 17 = .ok (.aload_n 0, 1) := by decide +kernel
theorem dX10_mayBind_18 : decode cX10_mayBind 18 = .ok (.getfield 13, 3) := by decide +kernel
theorem dX10_mayBind_21 : decode cX10_mayBind 21 = .ok (.bipush 29, 2) := by decide +kernel
theorem dX10_mayBind_23 : decode cX10_mayBind 23 = .ok (.iload_n 1, 1) := by decide +kernel
theorem dX10_mayBind_24 : decode cX10_mayBind 24 = .ok (.iadd, 1) := by decide +kernel
theorem dX10_mayBind_25 : decode cX10_mayBind 25 = .ok (.iaload, 1) := by decide +kernel
theorem dX10_mayBind_26 : decode cX10_mayBind 26 = .ok (.iconst 1, 1) := by decide +kernel
theorem dX10_mayBind_27 : decode cX10_mayBind 27 = .ok (.iload_n 2, 1) := by decide +kernel
theorem dX10_mayBind_28 : decode cX10_mayBind 28 = .ok (.ishl, 1) := by decide +kernel
theorem dX10_mayBind_29 : decode cX10_mayBind 29 = .ok (.iconst (-1), 1) := by decide +kernel
theorem dX10_mayBind_30 : decode cX10_mayBind 30 = .ok (.ixor, 1) := by decide +kernel
theorem dX10_mayBind_31 : decode cX10_mayBind 31 = .ok (.iand, 1) := by decide +kernel
theorem dX10_mayBind_32 : decode cX10_mayBind 32 = .ok (.ifCond .ne 25, 3) := by decide +kernel
theorem dX10_mayBind_35 : decode cX10_mayBind 35 = .ok (.aload_n 0, 1) := by decide +kernel
theorem dX10_mayBind_36 : decode cX10_mayBind 36 = .ok (.getfield 13, 3) := by decide +kernel
theorem dX10_mayBind_39 : decode cX10_mayBind 39 = .ok (.bipush 29, 2) := by decide +kernel
theorem dX10_mayBind_41 : decode cX10_mayBind 41 = .ok (.iload_n 2, 1) := by decide +kernel
theorem dX10_mayBind_42 : decode cX10_mayBind 42 = .ok (.iadd, 1) := by decide +kernel
theorem dX10_mayBind_43 : decode cX10_mayBind 43 = .ok (.iaload, 1) := by decide +kernel
theorem dX10_mayBind_44 : decode cX10_mayBind 44 = .ok (.iconst 1, 1) := by decide +kernel
theorem dX10_mayBind_45 : decode cX10_mayBind 45 = .ok (.iload_n 1, 1) := by decide +kernel
theorem dX10_mayBind_46 : decode cX10_mayBind 46 = .ok (.ishl, 1) := by decide +kernel
theorem dX10_mayBind_47 : decode cX10_mayBind 47 = .ok (.iconst (-1), 1) := by decide +kernel
theorem dX10_mayBind_48 : decode cX10_mayBind 48 = .ok (.ixor, 1) := by decide +kernel
theorem dX10_mayBind_49 : decode cX10_mayBind 49 = .ok (.iand, 1) := by decide +kernel
theorem dX10_mayBind_50 : decode cX10_mayBind 50 = .ok (.ifCond .ne 7, 3) := by decide +kernel
theorem dX10_mayBind_53 : decode cX10_mayBind 53 = .ok (.iconst 1, 1) := by decide +kernel
theorem dX10_mayBind_54 : decode cX10_mayBind 54 = .ok (.goto 4, 3) := by decide +kernel
theorem dX10_mayBind_57 : decode cX10_mayBind 57 = .ok (.iconst 0, 1) := by decide +kernel
theorem dX10_mayBind_58 : decode cX10_mayBind 58 = .ok (.ireturn, 1) := by decide +kernel
theorem dX10_isWay_0 : decode cX10_isWay 0 = .ok (.iconst 0, 1) := by decide +kernel
theorem dX10_isWay_1 : decode cX10_isWay 1 = .ok (.istore_n 1, 1) := by decide +kernel
theorem dX10_isWay_2 : decode cX10_isWay 2 = .ok (.iload_n 1, 1) := by decide +kernel
theorem dX10_isWay_3 : decode cX10_isWay 3 = .ok (.bipush 8, 2) := by decide +kernel
theorem dX10_isWay_5 : decode cX10_isWay 5 = .ok (.if_icmp .ge 65, 3) := by decide +kernel
theorem dX10_isWay_8 : decode cX10_isWay 8 = .ok (.aload_n 0, 1) := by decide +kernel
theorem dX10_isWay_9 : decode cX10_isWay 9 = .ok (.getfield 371, 3) := by decide +kernel
theorem dX10_isWay_12 : decode cX10_isWay 12 = .ok (.ifCond .ne 30, 3) := by decide +kernel
theorem dX10_isWay_15 : decode cX10_isWay 15 = .ok (.aload_n 0, 1) := by decide +kernel
theorem dX10_isWay_16 : decode cX10_isWay 16 = .ok (.getfield 63, 3) := by decide +kernel
theorem dX10_isWay_19 : decode cX10_isWay 19 = .ok (.iload_n 1, 1) := by decide +kernel
theorem dX10_isWay_20 : decode cX10_isWay 20 = .ok (.aload_n 0, 1) := by decide +kernel
theorem dX10_isWay_21 : decode cX10_isWay 21 = .ok (.getfield 60, 3) := by decide +kernel
theorem dX10_isWay_24 : decode cX10_isWay 24 = .ok (.iload_n 1, 1) := by decide +kernel
theorem dX10_isWay_25 : decode cX10_isWay 25 = .ok (.iaload, 1) := by decide +kernel
theorem dX10_isWay_26 : decode cX10_isWay 26 = .ok (.iastore, 1) := by decide +kernel
theorem dX10_isWay_27 : decode cX10_isWay 27 = .ok (.aload_n 0, 1) := by decide +kernel
theorem dX10_isWay_28 : decode cX10_isWay 28 = .ok (.getfield 66, 3) := by decide +kernel
theorem dX10_isWay_31 : decode cX10_isWay 31 = .ok (.iload_n 1, 1) := by decide +kernel
theorem dX10_isWay_32 : decode cX10_isWay 32 = .ok (.aload_n 0, 1) := by decide +kernel
theorem dX10_isWay_33 : decode cX10_isWay 33 = .ok (.getfield 60, 3) := by decide +kernel
theorem dX10_isWay_36 : decode cX10_isWay 36 = .ok (.iload_n 1, 1) := by decide +kernel
theorem dX10_isWay_37 : decode cX10_isWay 37 = .ok (.iaload, 1) := by decide +kernel
theorem dX10_isWay_38 : decode cX10_isWay 38 = .ok (.iastore, 1) := by decide +kernel
theorem dX10_isWay_39 : decode cX10_isWay 39 = .ok (.goto 25, 3) := by decide +kernel
theorem dX10_isWay_42 : decode cX10_isWay 42 = .ok (.aload_n 0, 1) := by decide +kernel
theorem dX10_isWay_43 : decode cX10_isWay 43 = .ok (.getfield 66, 3) := by decide +kernel
theorem dX10_isWay_46 : decode cX10_isWay 46 = .ok (.iload_n 1, 1) := by decide +kernel
theorem dX10_isWay_47 : decode cX10_isWay 47 = .ok (.iaload, 1) := by decide +kernel
theorem dX10_isWay_48 : decode cX10_isWay 48 = .ok (.aload_n 0, 1) := by decide +kernel
theorem dX10_isWay_49 : decode cX10_isWay 49 = .ok (.getfield 60, 3) := by decide +kernel
theorem dX10_isWay_52 : decode cX10_isWay 52 = .ok (.iload_n 1, 1) := by decide +kernel
theorem dX10_isWay_53 : decode cX10_isWay 53 = .ok (.iaload, 1) := by decide +kernel
theorem dX10_isWay_54 : decode cX10_isWay 54 = .ok (.if_icmp .eq 10, 3) := by decide +kernel
theorem dX10_isWay_57 : decode cX10_isWay 57 = .ok (.aload_n 0, 1) := by decide +kernel
theorem dX10_isWay_58 : decode cX10_isWay 58 = .ok (.getfield 66, 3) := by decide +kernel
theorem dX10_isWay_61 : decode cX10_isWay 61 = .ok (.iload_n 1, 1) := by decide +kernel
theorem dX10_isWay_62 : decode cX10_isWay 62 = .ok (.iconst (-1), 1) := by decide +kernel
theorem dX10_isWay_63 : decode cX10_isWay 63 = .ok (.iastore, 1) := by decide +kernel
theorem dX10_isWay_64 : decode cX10_isWay 64 = .ok (.iinc 1 1, 3) := by decide +kernel
theorem dX10_isWay_67 : decode cX10_isWay 67 = .ok (.goto (-65), 3) := by decide +kernel
theorem dX10_isWay_70 : decode cX10_isWay 70 = .ok (.aload_n 0, 1) := by decide +kernel
theorem dX10_isWay_71 : decode cX10_isWay 71 = .ok (.dup, 1) := by decide +kernel
theorem dX10_isWay_72 : decode cX10_isWay 72 = .ok (.getfield 371, 3) := by decide +kernel
theorem dX10_isWay_75 : decode cX10_isWay 75 = .ok (.iconst 1, 1) := by decide +kernel
theorem dX10_isWay_76 : decode cX10_isWay 76 = .ok (.iadd, 1) := by decide +kernel
theorem dX10_isWay_77 : decode cX10_isWay 77 = .ok (.putfield 371, 3) := by decide +kernel
theorem dX10_isWay_80 : decode cX10_isWay 80 = .ok (.aload_n 0, 1) := by decide +kernel
theorem dX10_isWay_81 : decode cX10_isWay 81 = .ok (.getfield 374, 3) := by decide +kernel
theorem dX10_isWay_84 : decode cX10_isWay 84 = .ok (.iconst (-1), 1) := by decide +kernel
theorem dX10_isWay_85 : decode cX10_isWay 85 = .ok (.if_icmp .eq 29, 3) := by decide +kernel
theorem dX10_isWay_88 : decode cX10_isWay 88 = .ok (.aload_n 0, 1) := by decide +kernel
theorem dX10_isWay_89 : decode cX10_isWay 89 = .ok (.getfield 60, 3) := by decide +kernel
theorem dX10_isWay_92 : decode cX10_isWay 92 = .ok (.aload_n 0, 1) := by decide +kernel
theorem dX10_isWay_93 : decode cX10_isWay 93 = .ok (.getfield 374, 3) := by decide +kernel
theorem dX10_isWay_96 : decode cX10_isWay 96 = .ok (.iaload, 1) := by decide +kernel
theorem dX10_isWay_97 : decode cX10_isWay 97 = .ok (.aload_n 0, 1) := by decide +kernel
theorem dX10_isWay_98 : decode cX10_isWay 98 = .ok (.getfield 377, 3) := by decide +kernel
theorem dX10_isWay_101 : decode cX10_isWay 101 = .ok (.if_icmp .ne 13, 3) := by decide +kernel
theorem dX10_isWay_104 : decode cX10_isWay 104 = .ok (.aload_n 0, 1) := by decide +kernel
theorem dX10_isWay_105 : decode cX10_isWay 105 = .ok (.dup, 1) := by decide +kernel
theorem dX10_isWay_106 : decode cX10_isWay 106 = .ok (.getfield 380, 3) := by decide +kernel
theorem dX10_isWay_109 : decode cX10_isWay 109 = .ok (.iconst 1, 1) := by decide +kernel
theorem dX10_isWay_110 : decode cX10_isWay 110 = .ok (.iadd, 1) := by decide +kernel
theorem dX10_isWay_111 : decode cX10_isWay 111 = .ok (.putfield 380, 3) := by decide +kernel
theorem dX10_isWay_114 : decode cX10_isWay 114 = .ok (.return_, 1) := by decide +kernel
theorem dX10_goesBind_0 : decode cX10_goesBind 0 = .ok (.iload_n 1, 1) := by decide +kernel
theorem dX10_goesBind_1 : decode cX10_goesBind 1 = .ok (.aload_n 0, 1) := by decide +kernel
theorem dX10_goesBind_2 : decode cX10_goesBind 2 = .ok (.getfield 13, 3) := by decide +kernel
theorem dX10_goesBind_5 : decode cX10_goesBind 5 = .ok (.iconst 4, 1) := by decide +kernel
theorem dX10_goesBind_6 : decode cX10_goesBind 6 = .ok (.iaload, 1) := by decide +kernel
theorem dX10_goesBind_7 : decode cX10_goesBind 7 = .ok (.if_icmp .ne 8, 3) := by decide +kernel
theorem dX10_goesBind_10 : decode cX10_goesBind 10 = .ok (.aload_n 0, 1) := by decide +kernel
theorem dX10_goesBind_11 : decode cX10_goesBind 11 = .ok (.invokevirtual 383, 3) := by decide +kernel
theorem dX10_goesBind_14 : decode cX10_goesBind 14 = .ok (.return_, 1) := by decide +kernel
theorem dX10_goesBind_15 : decode cX10_goesBind 15 = .ok (.aload_n 0, 1) := by decide +kernel
theorem dX10_goesBind_16 : decode cX10_goesBind 16 = .ok (.getfield 60, 3) := by decide +kernel
theorem dX10_goesBind_19 : decode cX10_goesBind 19 = .ok (.iload_n 1, 1) := by decide +kernel
theorem dX10_goesBind_20 : decode cX10_goesBind 20 = .ok (.iaload, 1) := by decide +kernel
theorem dX10_goesBind_21 : decode cX10_goesBind 21 = .ok (.iconst (-1), 1) := by decide +kernel
theorem dX10_goesBind_22 : decode cX10_goesBind 22 = .ok (.if_icmp .eq 12, 3) := by decide +kernel
theorem dX10_goesBind_25 : decode cX10_goesBind 25 = .ok (.aload_n 0, 1) := by decide +kernel
theorem dX10_goesBind_26 : decode cX10_goesBind 26 = .ok (.iload_n 1, 1) := by decide +kernel
theorem dX10_goesBind_27 : decode cX10_goesBind 27 = .ok (.iconst 1, 1) := by decide +kernel
theorem dX10_goesBind_28 : decode cX10_goesBind 28 = .ok (.iadd, 1) := by decide +kernel
theorem dX10_goesBind_29 : decode cX10_goesBind 29 = .ok (.iload_n 2, 1) := by decide +kernel
theorem dX10_goesBind_30 : decode cX10_goesBind 30 = .ok (.invokevirtual 386, 3) := by decide +kernel
theorem dX10_goesBind_33 : decode cX10_goesBind 33 = .ok (.return_, 1) := by decide +kernel
theorem dX10_goesBind_34 : decode cX10_goesBind 34 = .ok (.iload_n 1, 1) := by decide +kernel
theorem dX10_goesBind_35 : decode cX10_goesBind 35 = .ok (.iconst 1, 1) := by decide +kernel
theorem dX10_goesBind_36 : decode cX10_goesBind 36 = .ok (.iadd, 1) := by decide +kernel
theorem dX10_goesBind_37 : decode cX10_goesBind 37 = .ok (.istore_n 3, 1) := by decide +kernel
theorem dX10_goesBind_38 : decode cX10_goesBind 38 = .ok (.iload_n 3, 1) := by decide +kernel
theorem dX10_goesBind_39 : decode cX10_goesBind 39 = .ok (.aload_n 0, 1) := by decide +kernel
theorem dX10_goesBind_40 : decode cX10_goesBind 40 = .ok (.getfield 13, 3) := by decide +kernel
theorem dX10_goesBind_43 : decode cX10_goesBind 43 = .ok (.iconst 4, 1) := by decide +kernel
theorem dX10_goesBind_44 : decode cX10_goesBind 44 = .ok (.iaload, 1) := by decide +kernel
theorem dX10_goesBind_45 : decode cX10_goesBind 45 = .ok (.if_icmp .ge 67, 3) := by decide +kernel
theorem dX10_goesBind_48 : decode cX10_goesBind 48 = .ok (.aload_n 0, 1) := by decide +kernel
theorem dX10_goesBind_49 : decode cX10_goesBind 49 = .ok (.getfield 60, 3) := by decide +kernel
theorem dX10_goesBind_52 : decode cX10_goesBind 52 = .ok (.iload_n 3, 1) := by decide +kernel
theorem dX10_goesBind_53 : decode cX10_goesBind 53 = .ok (.iaload, 1) := by decide +kernel
theorem dX10_goesBind_54 : decode cX10_goesBind 54 = .ok (.iconst (-1), 1) := by decide +kernel
theorem dX10_goesBind_55 : decode cX10_goesBind 55 = .ok (.if_icmp .ne 51, 3) := by decide +kernel
theorem dX10_goesBind_58 : decode cX10_goesBind 58 = .ok (.aload_n 0, 1) := by decide +kernel
theorem dX10_goesBind_59 : decode cX10_goesBind 59 = .ok (.iload_n 1, 1) := by decide +kernel
theorem dX10_goesBind_60 : decode cX10_goesBind 60 = .ok (.iload_n 3, 1) := by decide +kernel
theorem dX10_goesBind_61 : decode cX10_goesBind 61 = .ok (.invokevirtual 390, 3) := by decide +kernel
theorem dX10_goesBind_64 : decode cX10_goesBind 64 = .ok (.ifCond .ne 6, 3) := by decide +kernel
theorem dX10_goesBind_67 : decode cX10_goesBind 67 = .ok (.goto 39, 3) := by decide +kernel
theorem dX10_goesBind_70 : decode cX10_goesBind 70 = .ok (.aload_n 0, 1) := by decide +kernel
theorem dX10_goesBind_71 : decode cX10_goesBind 71 = .ok (.getfield 60, 3) := by decide +kernel
theorem dX10_goesBind_74 : decode cX10_goesBind 74 = .ok (.iload_n 1, 1) := by decide +kernel
theorem dX10_goesBind_75 : decode cX10_goesBind 75 = .ok (.iload_n 3, 1) := by decide +kernel
theorem dX10_goesBind_76 : decode cX10_goesBind 76 = .ok (.iastore, 1) := by decide +kernel
theorem dX10_goesBind_77 : decode cX10_goesBind 77 = .ok (.aload_n 0, 1) := by decide +kernel
theorem dX10_goesBind_78 : decode cX10_goesBind 78 = .ok (.getfield 60, 3) := by decide +kernel
theorem dX10_goesBind_81 : decode cX10_goesBind 81 = .ok (.iload_n 3, 1) := by decide +kernel
theorem dX10_goesBind_82 : decode cX10_goesBind 82 = .ok (.iload_n 1, 1) := by decide +kernel
theorem dX10_goesBind_83 : decode cX10_goesBind 83 = .ok (.iastore, 1) := by decide +kernel
theorem dX10_goesBind_84 : decode cX10_goesBind 84 = .ok (.aload_n 0, 1) := by decide +kernel
theorem dX10_goesBind_85 : decode cX10_goesBind 85 = .ok (.iload_n 1, 1) := by decide +kernel
theorem dX10_goesBind_86 : decode cX10_goesBind 86 = .ok (.iconst 1, 1) := by decide +kernel
theorem dX10_goesBind_87 : decode cX10_goesBind 87 = .ok (.iadd, 1) := by decide +kernel
theorem dX10_goesBind_88 : decode cX10_goesBind 88 = .ok (.iload_n 2, 1) := by decide +kernel
theorem dX10_goesBind_89 : decode cX10_goesBind 89 = .ok (.invokevirtual 386, 3) := by decide +kernel
theorem dX10_goesBind_92 : decode cX10_goesBind 92 = .ok (.aload_n 0, 1) := by decide +kernel
theorem dX10_goesBind_93 : decode cX10_goesBind 93 = .ok (.getfield 60, 3) := by decide +kernel
theorem dX10_goesBind_96 : decode cX10_goesBind 96 = .ok (.iload_n 1, 1) := by decide +kernel
theorem dX10_goesBind_97 : decode cX10_goesBind 97 = .ok (.iconst (-1), 1) := by decide +kernel
theorem dX10_goesBind_98 : decode cX10_goesBind 98 = .ok (.iastore, 1) := by decide +kernel
theorem dX10_goesBind_99 : decode cX10_goesBind 99 = .ok (.aload_n 0, 1) := by decide +kernel
theorem dX10_goesBind_100 : decode cX10_goesBind 100 = .ok (.getfield 60, 3) := by decide +kernel
theorem dX10_goesBind_103 : decode cX10_goesBind 103 = .ok (.iload_n 3, 1) := by decide +kernel
theorem dX10_goesBind_104 : decode cX10_goesBind 104 = .ok (.iconst (-1), 1) := by decide +kernel
theorem dX10_goesBind_105 : decode cX10_goesBind 105 = .ok (.iastore, 1) := by decide +kernel
theorem dX10_goesBind_106 : decode cX10_goesBind 106 = .ok (.iinc 3 1, 3) := by decide +kernel
theorem dX10_goesBind_109 : decode cX10_goesBind 109 = .ok (.goto (-71), 3) := by decide +kernel
theorem dX10_goesBind_112 : decode cX10_goesBind 112 = .ok (.iload_n 2, 1) := by decide +kernel
theorem dX10_goesBind_113 : decode cX10_goesBind 113 = .ok (.ifCond .eq 20, 3) := by decide +kernel
theorem dX10_goesBind_116 : decode cX10_goesBind 116 = .ok (.aload_n 0, 1) := by decide +kernel
theorem dX10_goesBind_117 : decode cX10_goesBind 117 = .ok (.getfield 13, 3) := by decide +kernel
theorem dX10_goesBind_120 : decode cX10_goesBind 120 = .ok (.bipush 29, 2) := by decide +kernel
theorem dX10_goesBind_122 : decode cX10_goesBind 122 = .ok (.iload_n 1, 1) := by decide +kernel
theorem dX10_goesBind_123 : decode cX10_goesBind 123 = .ok (.iadd, 1) := by decide +kernel
theorem dX10_goesBind_124 : decode cX10_goesBind 124 = .ok (.iaload, 1) := by decide +kernel
theorem dX10_goesBind_125 : decode cX10_goesBind 125 = .ok (.ifCond .ne 8, 3) := by decide +kernel

theorem dX2_depthThen_158 : decode cX2_depthThen 158 = .ok (.iconst 4, 1) := by decide +kernel
theorem dX2_depthThen_159 : decode cX2_depthThen 159 = .ok (.iload 4, 2) := by decide +kernel
theorem dX2_depthThen_161 : decode cX2_depthThen 161 = .ok (.iastore, 1) := by decide +kernel
theorem dX2_depthThen_162 : decode cX2_depthThen 162 = .ok (.iconst 0, 1) := by decide +kernel
theorem dX2_depthThen_163 : decode cX2_depthThen 163 = .ok (.bipush 9, 2) := by decide +kernel
theorem dX2_depthThen_165 : decode cX2_depthThen 165 = .ok (.aload_n 0, 1) := by decide +kernel
theorem dX2_depthThen_166 : decode cX2_depthThen 166 = .ok (.aload_n 0, 1) := by decide +kernel
theorem dX2_depthThen_167 : decode cX2_depthThen 167 = .ok (.getfield 14, 3) := by decide +kernel
theorem dX2_depthThen_170 : decode cX2_depthThen 170 = .ok (.getfield 43, 3) := by decide +kernel
theorem dX2_depthThen_173 : decode cX2_depthThen 173 = .ok (.invokevirtual 87, 3) := by decide +kernel
theorem dX2_depthThen_176 : decode cX2_depthThen 176 = .ok (.invokestatic 91, 3) := by decide +kernel
theorem dX2_depthThen_179 : decode cX2_depthThen 179 = .ok (.invokestatic 80, 3) := by decide +kernel
theorem dX2_depthThen_182 : decode cX2_depthThen 182 = .ok (.istore 7, 2) := by decide +kernel
theorem dX2_depthThen_184 : decode cX2_depthThen 184 = .ok (.iload 6, 2) := by decide +kernel
theorem dX2_depthThen_186 : decode cX2_depthThen 186 = .ok (.ifCond .eq 19, 3) := by decide +kernel
theorem dX2_depthThen_189 : decode cX2_depthThen 189 = .ok (.aload_n 0, 1) := by decide +kernel
theorem dX2_depthThen_190 : decode cX2_depthThen 190 = .ok (.getfield 40, 3) := by decide +kernel
theorem dX2_depthThen_193 : decode cX2_depthThen 193 = .ok (.iload 5, 2) := by decide +kernel
theorem dX2_depthThen_195 : decode cX2_depthThen 195 = .ok (.aload_n 0, 1) := by decide +kernel
theorem dX2_depthThen_196 : decode cX2_depthThen 196 = .ok (.getfield 37, 3) := by decide +kernel
theorem dX2_depthThen_199 : decode cX2_depthThen 199 = .ok (.iconst 4, 1) := by decide +kernel
theorem dX2_depthThen_200 : decode cX2_depthThen 200 = .ok (.ishl, 1) := by decide +kernel
theorem dX2_depthThen_201 : decode cX2_depthThen 201 = .ok (.iload 7, 2) := by decide +kernel
theorem dX2_depthThen_203 : decode cX2_depthThen 203 = .ok (.ior, 1) := by decide +kernel
theorem dX2_depthThen_204 : decode cX2_depthThen 204 = .ok (.iastore, 1) := by decide +kernel
theorem dX2_depthThen_205 : decode cX2_depthThen 205 = .ok (.iload 7, 2) := by decide +kernel
theorem dX2_depthThen_207 : decode cX2_depthThen 207 = .ok (.ireturn, 1) := by decide +kernel
theorem dX2_run_0 : decode cX2_run 0 = .ok (.iconst 0, 1) := by decide +kernel
theorem dX2_run_1 : decode cX2_run 1 = .ok (.istore_n 2, 1) := by decide +kernel
theorem dX2_run_2 : decode cX2_run 2 = .ok (.iconst 0, 1) := by decide +kernel
theorem dX2_run_3 : decode cX2_run 3 = .ok (.istore_n 3, 1) := by decide +kernel
theorem dX2_run_4 : decode cX2_run 4 = .ok (.iload_n 3, 1) := by decide +kernel
theorem dX2_run_5 : decode cX2_run 5 = .ok (.aload_n 1, 1) := by decide +kernel
theorem dX2_run_6 : decode cX2_run 6 = .ok (.arraylength, 1) := by decide +kernel
theorem dX2_run_7 : decode cX2_run 7 = .ok (.if_icmp .ge 184, 3) := by decide +kernel
theorem dX2_run_10 : decode cX2_run 10 = .ok (.aload_n 1, 1) := by decide +kernel
theorem dX2_run_11 : decode cX2_run 11 = .ok (.iload_n 3, 1) := by decide +kernel
theorem dX2_run_12 : decode cX2_run 12 = .ok (.iaload, 1) := by decide +kernel
theorem dX2_run_13 : decode cX2_run 13 = .ok (.istore 4, 2) := by decide +kernel
theorem dX2_run_15 : decode cX2_run 15 = .ok (.iload 4, 2) := by decide +kernel
theorem dX2_run_17 : decode cX2_run 17 = .ok (.bipush (-6), 2) := by decide +kernel
theorem dX2_run_19 : decode cX2_run 19 = .ok (.if_icmp .lt 43, 3) := by decide +kernel
theorem dX2_run_22 : decode cX2_run 22 = .ok (.iload_n 2, 1) := by decide +kernel
theorem dX2_run_23 : decode cX2_run 23 = .ok (.aload_n 0, 1) := by decide +kernel
theorem dX2_run_24 : decode cX2_run 24 = .ok (.getfield 27, 3) := by decide +kernel
theorem dX2_run_27 : decode cX2_run 27 = .ok (.arraylength, 1) := by decide +kernel
theorem dX2_run_28 : decode cX2_run 28 = .ok (.if_icmp .ge 34, 3) := by decide +kernel
theorem dX2_run_31 : decode cX2_run 31 = .ok (.aload_n 0, 1) := by decide +kernel
theorem dX2_run_32 : decode cX2_run 32 = .ok (.getfield 27, 3) := by decide +kernel
theorem dX2_run_35 : decode cX2_run 35 = .ok (.iload_n 2, 1) := by decide +kernel
theorem dX2_run_36 : decode cX2_run 36 = .ok (.iload 4, 2) := by decide +kernel
theorem dX2_run_38 : decode cX2_run 38 = .ok (.ifCond .lt 8, 3) := by decide +kernel
theorem dX2_run_41 : decode cX2_run 41 = .ok (.iload 4, 2) := by decide +kernel
theorem dX2_run_43 : decode cX2_run 43 = .ok (.goto 12, 3) := by decide +kernel
theorem dX2_run_46 : decode cX2_run 46 = .ok (.aload_n 0, 1) := by decide +kernel
theorem dX2_run_47 : decode cX2_run 47 = .ok (.getfield 24, 3) := by decide +kernel
theorem dX2_run_50 : decode cX2_run 50 = .ok (.iconst (-1), 1) := by decide +kernel
theorem dX2_run_51 : decode cX2_run 51 = .ok (.iload 4, 2) := by decide +kernel
theorem dX2_run_53 : decode cX2_run 53 = .ok (.isub, 1) := by decide +kernel
theorem dX2_run_54 : decode cX2_run 54 = .ok (.iaload, 1) := by decide +kernel
theorem dX2_run_55 : decode cX2_run 55 = .ok (.iastore, 1) := by decide +kernel
theorem dX2_run_56 : decode cX2_run 56 = .ok (.iinc 2 1, 3) := by decide +kernel
theorem dX2_run_59 : decode cX2_run 59 = .ok (.goto 126, 3) := by decide +kernel
theorem dX2_run_62 : decode cX2_run 62 = .ok (.iload 4, 2) := by decide +kernel
theorem dX2_run_64 : decode cX2_run 64 = .ok (.bipush (-17), 2) := by decide +kernel
theorem dX2_run_66 : decode cX2_run 66 = .ok (.if_icmp .ne 29, 3) := by decide +kernel
theorem dX2_run_69 : decode cX2_run 69 = .ok (.iload_n 2, 1) := by decide +kernel
theorem dX2_run_70 : decode cX2_run 70 = .ok (.iconst 1, 1) := by decide +kernel
theorem dX2_run_71 : decode cX2_run 71 = .ok (.if_icmp .lt 24, 3) := by decide +kernel
theorem dX2_run_74 : decode cX2_run 74 = .ok (.aload_n 0, 1) := by decide +kernel
theorem dX2_run_75 : decode cX2_run 75 = .ok (.getfield 27, 3) := by decide +kernel
theorem dX2_run_78 : decode cX2_run 78 = .ok (.iload_n 2, 1) := by decide +kernel
theorem dX2_run_79 : decode cX2_run 79 = .ok (.iconst 1, 1) := by decide +kernel
theorem dX2_run_80 : decode cX2_run 80 = .ok (.isub, 1) := by decide +kernel
theorem dX2_run_81 : decode cX2_run 81 = .ok (.iconst 1, 1) := by decide +kernel
theorem dX2_run_82 : decode cX2_run 82 = .ok (.aload_n 0, 1) := by decide +kernel
theorem dX2_run_83 : decode cX2_run 83 = .ok (.getfield 27, 3) := by decide +kernel
theorem dX2_run_86 : decode cX2_run 86 = .ok (.iload_n 2, 1) := by decide +kernel
theorem dX2_run_87 : decode cX2_run 87 = .ok (.iconst 1, 1) := by decide +kernel
theorem dX2_run_88 : decode cX2_run 88 = .ok (.isub, 1) := by decide +kernel
theorem dX2_run_89 : decode cX2_run 89 = .ok (.iaload, 1) := by decide +kernel
theorem dX2_run_90 : decode cX2_run 90 = .ok (.isub, 1) := by decide +kernel
theorem dX2_run_91 : decode cX2_run 91 = .ok (.iastore, 1) := by decide +kernel
theorem dX2_run_92 : decode cX2_run 92 = .ok (.goto 93, 3) := by decide +kernel
theorem dX2_run_95 : decode cX2_run 95 = .ok (.iload 4, 2) := by decide +kernel
theorem dX2_run_97 : decode cX2_run 97 = .ok (.bipush (-20), 2) := by decide +kernel
theorem dX2_run_99 : decode cX2_run 99 = .ok (.if_icmp .ne 51, 3) := by decide +kernel
theorem dX2_run_102 : decode cX2_run 102 = .ok (.iload_n 2, 1) := by decide +kernel
theorem dX2_run_103 : decode cX2_run 103 = .ok (.iconst 3, 1) := by decide +kernel
theorem dX2_run_104 : decode cX2_run 104 = .ok (.if_icmp .lt 46, 3) := by decide +kernel
theorem dX2_run_107 : decode cX2_run 107 = .ok (.iinc 2 (-2), 3) := by decide +kernel
theorem dX2_run_110 : decode cX2_run 110 = .ok (.aload_n 0, 1) := by decide +kernel
theorem dX2_run_111 : decode cX2_run 111 = .ok (.getfield 27, 3) := by decide +kernel
theorem dX2_run_114 : decode cX2_run 114 = .ok (.iload_n 2, 1) := by decide +kernel
theorem dX2_run_115 : decode cX2_run 115 = .ok (.iconst 1, 1) := by decide +kernel
theorem dX2_run_116 : decode cX2_run 116 = .ok (.isub, 1) := by decide +kernel
theorem dX2_run_117 : decode cX2_run 117 = .ok (.aload_n 0, 1) := by decide +kernel
theorem dX2_run_118 : decode cX2_run 118 = .ok (.getfield 27, 3) := by decide +kernel
theorem dX2_run_121 : decode cX2_run 121 = .ok (.iload_n 2, 1) := by decide +kernel
theorem dX2_run_122 : decode cX2_run 122 = .ok (.iconst 1, 1) := by decide +kernel
theorem dX2_run_123 : decode cX2_run 123 = .ok (.isub, 1) := by decide +kernel
theorem dX2_run_124 : decode cX2_run 124 = .ok (.iaload, 1) := by decide +kernel
theorem dX2_run_125 : decode cX2_run 125 = .ok (.iconst 1, 1) := by decide +kernel
theorem dX2_run_126 : decode cX2_run 126 = .ok (.if_icmp .ne 12, 3) := by decide +kernel
theorem dX2_run_129 : decode cX2_run 129 = .ok (.aload_n 0, 1) := by decide +kernel
theorem dX2_run_130 : decode cX2_run 130 = .ok (.getfield 27, 3) := by decide +kernel
theorem dX2_run_133 : decode cX2_run 133 = .ok (.iload_n 2, 1) := by decide +kernel
theorem dX2_run_134 : decode cX2_run 134 = .ok (.iaload, 1) := by decide +kernel
theorem dX2_run_135 : decode cX2_run 135 = .ok (.goto 11, 3) := by decide +kernel
theorem dX2_run_138 : decode cX2_run 138 = .ok (.aload_n 0, 1) := by decide +kernel
theorem dX2_run_139 : decode cX2_run 139 = .ok (.getfield 27, 3) := by decide +kernel
theorem dX2_run_142 : decode cX2_run 142 = .ok (.iload_n 2, 1) := by decide +kernel
theorem dX2_run_143 : decode cX2_run 143 = .ok (.iconst 1, 1) := by decide +kernel
theorem dX2_run_144 : decode cX2_run 144 = .ok (.iadd, 1) := by decide +kernel
theorem dX2_run_145 : decode cX2_run 145 = .ok (.iaload, 1) := by decide +kernel
theorem dX2_run_146 : decode cX2_run 146 = .ok (.iastore, 1) := by decide +kernel
theorem dX2_run_147 : decode cX2_run 147 = .ok (.goto 38, 3) := by decide +kernel
theorem dX2_run_150 : decode cX2_run 150 = .ok (.iload_n 2, 1) := by decide +kernel
theorem dX2_run_151 : decode cX2_run 151 = .ok (.iconst 2, 1) := by decide +kernel
theorem dX2_run_152 : decode cX2_run 152 = .ok (.if_icmp .lt 33, 3) := by decide +kernel
theorem dX2_run_155 : decode cX2_run 155 = .ok (.iinc 2 (-1), 3) := by decide +kernel
theorem dX2_run_158 : decode cX2_run 158 = .ok (.aload_n 0, 1) := by decide +kernel
theorem dX2_run_159 : decode cX2_run 159 = .ok (.getfield 27, 3) := by decide +kernel
theorem dX2_run_162 : decode cX2_run 162 = .ok (.iload_n 2, 1) := by decide +kernel
theorem dX2_run_163 : decode cX2_run 163 = .ok (.iconst 1, 1) := by decide +kernel
theorem dX2_run_164 : decode cX2_run 164 = .ok (.isub, 1) := by decide +kernel
theorem dX2_run_165 : decode cX2_run 165 = .ok (.iload 4, 2) := by decide +kernel
theorem dX2_run_167 : decode cX2_run 167 = .ok (.aload_n 0, 1) := by decide +kernel
theorem dX2_run_168 : decode cX2_run 168 = .ok (.getfield 27, 3) := by decide +kernel
theorem dX2_run_171 : decode cX2_run 171 = .ok (.iload_n 2, 1) := by decide +kernel
theorem dX2_run_172 : decode cX2_run 172 = .ok (.iconst 1, 1) := by decide +kernel
theorem dX2_run_173 : decode cX2_run 173 = .ok (.isub, 1) := by decide +kernel
theorem dX2_run_174 : decode cX2_run 174 = .ok (.iaload, 1) := by decide +kernel
theorem dX2_run_175 : decode cX2_run 175 = .ok (.aload_n 0, 1) := by decide +kernel
theorem dX2_run_176 : decode cX2_run 176 = .ok (.getfield 27, 3) := by decide +kernel
theorem dX2_run_179 : decode cX2_run 179 = .ok (.iload_n 2, 1) := by decide +kernel
theorem dX2_run_180 : decode cX2_run 180 = .ok (.iaload, 1) := by decide +kernel
theorem dX2_run_181 : decode cX2_run 181 = .ok (.invokestatic 94, 3) := by decide +kernel
theorem dX2_run_184 : decode cX2_run 184 = .ok (.iastore, 1) := by decide +kernel
theorem dX2_run_185 : decode cX2_run 185 = .ok (.iinc 3 1, 3) := by decide +kernel
theorem dX2_run_188 : decode cX2_run 188 = .ok (.goto (-184), 3) := by decide +kernel
theorem dX2_run_191 : decode cX2_run 191 = .ok (.aload_n 0, 1) := by decide +kernel
theorem dX2_run_192 : decode cX2_run 192 = .ok (.getfield 27, 3) := by decide +kernel
theorem dX2_run_195 : decode cX2_run 195 = .ok (.iconst 0, 1) := by decide +kernel
theorem dX2_run_196 : decode cX2_run 196 = .ok (.iaload, 1) := by decide +kernel
theorem dX2_run_197 : decode cX2_run 197 = .ok (.ireturn, 1) := by decide +kernel
theorem dX2_join_0 : decode cX2_join 0 = .ok (.iload_n 0, 1) := by decide +kernel
theorem dX2_join_1 : decode cX2_join 1 = .ok (.tableswitch 109 (-18) (-11) #[105, 109, 94, 83, 72, 63, 55, 47], 47) := by decide +kernel
theorem dX2_join_48 : decode cX2_join 48 = .ok (.iload_n 1, 1) := by decide +kernel
theorem dX2_join_49 : decode cX2_join 49 = .ok (.iload_n 2, 1) := by decide +kernel
theorem dX2_join_50 : decode cX2_join 50 = .ok (.iadd, 1) := by decide +kernel
theorem dX2_join_51 : decode cX2_join 51 = .ok (.i2l, 1) := by decide +kernel
theorem dX2_join_52 : decode cX2_join 52 = .ok (.lstore_n 3, 1) := by decide +kernel
theorem dX2_join_53 : decode cX2_join 53 = .ok (.goto 61, 3) := by decide +kernel
theorem dX2_join_56 : decode cX2_join 56 = .ok (.iload_n 1, 1) := by decide +kernel
theorem dX2_join_57 : decode cX2_join 57 = .ok (.iload_n 2, 1) := by decide +kernel
theorem dX2_join_58 : decode cX2_join 58 = .ok (.isub, 1) := by decide +kernel
theorem dX2_join_59 : decode cX2_join 59 = .ok (.i2l, 1) := by decide +kernel
theorem dX2_join_60 : decode cX2_join 60 = .ok (.lstore_n 3, 1) := by decide +kernel
theorem dX2_join_61 : decode cX2_join 61 = .ok (.goto 53, 3) := by decide +kernel
theorem dX2_join_64 : decode cX2_join 64 = .ok (.iload_n 1, 1) := by decide +kernel
theorem dX2_join_65 : decode cX2_join 65 = .ok (.i2l, 1) := by decide +kernel
theorem dX2_join_66 : decode cX2_join 66 = .ok (.iload_n 2, 1) := by decide +kernel
theorem dX2_join_67 : decode cX2_join 67 = .ok (.i2l, 1) := by decide +kernel
theorem dX2_join_68 : decode cX2_join 68 = .ok (.lmul, 1) := by decide +kernel
theorem dX2_join_69 : decode cX2_join 69 = .ok (.lstore_n 3, 1) := by decide +kernel
theorem dX2_join_70 : decode cX2_join 70 = .ok (.goto 44, 3) := by decide +kernel
theorem dX2_join_73 : decode cX2_join 73 = .ok (.iload_n 1, 1) := by decide +kernel
theorem dX2_join_74 : decode cX2_join 74 = .ok (.iload_n 2, 1) := by decide +kernel
theorem dX2_join_75 : decode cX2_join 75 = .ok (.if_icmp .ne 7, 3) := by decide +kernel
theorem dX2_join_78 : decode cX2_join 78 = .ok (.iconst 1, 1) := by decide +kernel
theorem dX2_join_79 : decode cX2_join 79 = .ok (.goto 4, 3) := by decide +kernel
theorem dX2_join_82 : decode cX2_join 82 = .ok (.iconst 0, 1) := by decide +kernel
theorem dX2_join_83 : decode cX2_join 83 = .ok (.ireturn, 1) := by decide +kernel
theorem dX2_join_84 : decode cX2_join 84 = .ok (.iload_n 1, 1) := by decide +kernel
theorem dX2_join_85 : decode cX2_join 85 = .ok (.iload_n 2, 1) := by decide +kernel
theorem dX2_join_86 : decode cX2_join 86 = .ok (.if_icmp .ge 7, 3) := by decide +kernel
theorem dX2_join_89 : decode cX2_join 89 = .ok (.iconst 1, 1) := by decide +kernel
theorem dX2_join_90 : decode cX2_join 90 = .ok (.goto 4, 3) := by decide +kernel
theorem dX2_join_93 : decode cX2_join 93 = .ok (.iconst 0, 1) := by decide +kernel
theorem dX2_join_94 : decode cX2_join 94 = .ok (.ireturn, 1) := by decide +kernel
theorem dX2_join_95 : decode cX2_join 95 = .ok (.iload_n 1, 1) := by decide +kernel
theorem dX2_join_96 : decode cX2_join 96 = .ok (.iload_n 2, 1) := by decide +kernel
theorem dX2_join_97 : decode cX2_join 97 = .ok (.if_icmp .le 7, 3) := by decide +kernel
theorem dX2_join_100 : decode cX2_join 100 = .ok (.iconst 1, 1) := by decide +kernel
theorem dX2_join_101 : decode cX2_join 101 = .ok (.goto 4, 3) := by decide +kernel
theorem dX2_join_104 : decode cX2_join 104 = .ok (.iconst 0, 1) := by decide +kernel
theorem dX2_join_105 : decode cX2_join 105 = .ok (.ireturn, 1) := by decide +kernel
theorem dX2_join_106 : decode cX2_join 106 = .ok (.iload_n 1, 1) := by decide +kernel
theorem dX2_join_107 : decode cX2_join 107 = .ok (.iload_n 2, 1) := by decide +kernel
theorem dX2_join_108 : decode cX2_join 108 = .ok (.iand, 1) := by decide +kernel
theorem dX2_join_109 : decode cX2_join 109 = .ok (.ireturn, 1) := by decide +kernel
theorem dX2_join_110 : decode cX2_join 110 = .ok (.iload_n 1, 1) := by decide +kernel
theorem dX2_join_111 : decode cX2_join 111 = .ok (.iload_n 2, 1) := by decide +kernel
theorem dX2_join_112 : decode cX2_join 112 = .ok (.ior, 1) := by decide +kernel
theorem dX2_join_113 : decode cX2_join 113 = .ok (.ireturn, 1) := by decide +kernel
theorem dX2_join_114 : decode cX2_join 114 = .ok (.lload_n 3, 1) := by decide +kernel
theorem dX2_join_115 : decode cX2_join 115 = .ok (.ldc2_w 97, 3) := by decide +kernel
theorem dX2_join_118 : decode cX2_join 118 = .ok (.lcmp, 1) := by decide +kernel
theorem dX2_join_119 : decode cX2_join 119 = .ok (.ifCond .le 8, 3) := by decide +kernel
theorem dX2_join_122 : decode cX2_join 122 = .ok (.ldc 99, 2) := by decide +kernel
theorem dX2_join_124 : decode cX2_join 124 = .ok (.goto 18, 3) := by decide +kernel
theorem dX2_join_127 : decode cX2_join 127 = .ok (.lload_n 3, 1) := by decide +kernel
theorem dX2_join_128 : decode cX2_join 128 = .ok (.ldc2_w 100, 3) := by decide +kernel
theorem dX2_join_131 : decode cX2_join 131 = .ok (.lcmp, 1) := by decide +kernel
theorem dX2_join_132 : decode cX2_join 132 = .ok (.ifCond .ge 8, 3) := by decide +kernel
theorem dX2_join_135 : decode cX2_join 135 = .ok (.ldc 102, 2) := by decide +kernel
theorem dX2_join_137 : decode cX2_join 137 = .ok (.goto 5, 3) := by decide +kernel
theorem dX2_join_140 : decode cX2_join 140 = .ok (.lload_n 3, 1) := by decide +kernel
theorem dX2_join_141 : decode cX2_join 141 = .ok (.l2i, 1) := by decide +kernel
theorem dX2_join_142 : decode cX2_join 142 = .ok (.ireturn, 1) := by decide +kernel
theorem dX3_init_0 : decode cX3_init 0 = .ok (.aload_n 0, 1) := by decide +kernel
theorem dX3_init_1 : decode cX3_init 1 = .ok (.invokespecial 3, 3) := by decide +kernel
theorem dX3_init_4 : decode cX3_init 4 = .ok (.aload_n 0, 1) := by decide +kernel
theorem dX3_init_5 : decode cX3_init 5 = .ok (.iconst (-1), 1) := by decide +kernel
theorem dX3_init_6 : decode cX3_init 6 = .ok (.putfield 9, 3) := by decide +kernel
theorem dX3_init_9 : decode cX3_init 9 = .ok (.aload_n 0, 1) := by decide +kernel
theorem dX3_init_10 : decode cX3_init 10 = .ok (.sipush 900, 3) := by decide +kernel
theorem dX3_init_13 : decode cX3_init 13 = .ok (.newarray .byte, 2) := by decide +kernel
theorem dX3_init_15 : decode cX3_init 15 = .ok (.putfield 15, 3) := by decide +kernel
theorem dX3_init_18 : decode cX3_init 18 = .ok (.aload_n 0, 1) := by decide +kernel
theorem dX3_init_19 : decode cX3_init 19 = .ok (.sipush 900, 3) := by decide +kernel
theorem dX3_init_22 : decode cX3_init 22 = .ok (.newarray .int, 2) := by decide +kernel
theorem dX3_init_24 : decode cX3_init 24 = .ok (.putfield 19, 3) := by decide +kernel
theorem dX3_init_27 : decode cX3_init 27 = .ok (.aload_n 0, 1) := by decide +kernel
theorem dX3_init_28 : decode cX3_init 28 = .ok (.new 23, 3) := by decide +kernel
theorem dX3_init_31 : decode cX3_init 31 = .ok (.dup, 1) := by decide +kernel
theorem dX3_init_32 : decode cX3_init 32 = .ok (.iconst 0, 1) := by decide +kernel
theorem dX3_init_33 : decode cX3_init 33 = .ok (.invokespecial 25, 3) := by decide +kernel
theorem dX3_init_36 : decode cX3_init 36 = .ok (.putfield 28, 3) := by decide +kernel
theorem dX3_init_39 : decode cX3_init 39 = .ok (.return_, 1) := by decide +kernel
theorem dX3_putBytes_0 : decode cX3_putBytes 0 = .ok (.bipush 24, 2) := by decide +kernel
theorem dX3_putBytes_2 : decode cX3_putBytes 2 = .ok (.istore_n 2, 1) := by decide +kernel
theorem dX3_putBytes_3 : decode cX3_putBytes 3 = .ok (.iload_n 2, 1) := by decide +kernel
theorem dX3_putBytes_4 : decode cX3_putBytes 4 = .ok (.ifCond .lt 42, 3) := by decide +kernel
theorem dX3_putBytes_7 : decode cX3_putBytes 7 = .ok (.aload_n 0, 1) := by decide +kernel
theorem dX3_putBytes_8 : decode cX3_putBytes 8 = .ok (.getfield 32, 3) := by decide +kernel
theorem dX3_putBytes_11 : decode cX3_putBytes 11 = .ok (.sipush 900, 3) := by decide +kernel
theorem dX3_putBytes_14 : decode cX3_putBytes 14 = .ok (.if_icmp .ge 32, 3) := by decide +kernel
theorem dX3_putBytes_17 : decode cX3_putBytes 17 = .ok (.aload_n 0, 1) := by decide +kernel
theorem dX3_putBytes_18 : decode cX3_putBytes 18 = .ok (.getfield 15, 3) := by decide +kernel
theorem dX3_putBytes_21 : decode cX3_putBytes 21 = .ok (.aload_n 0, 1) := by decide +kernel
theorem dX3_putBytes_22 : decode cX3_putBytes 22 = .ok (.getfield 32, 3) := by decide +kernel
theorem dX3_putBytes_25 : decode cX3_putBytes 25 = .ok (.iload_n 1, 1) := by decide +kernel
theorem dX3_putBytes_26 : decode cX3_putBytes 26 = .ok (.iload_n 2, 1) := by decide +kernel
theorem dX3_putBytes_27 : decode cX3_putBytes 27 = .ok (.ishr, 1) := by decide +kernel
theorem dX3_putBytes_28 : decode cX3_putBytes 28 = .ok (.i2b, 1) := by decide +kernel
theorem dX3_putBytes_29 : decode cX3_putBytes 29 = .ok (.bastore, 1) := by decide +kernel
theorem dX3_putBytes_30 : decode cX3_putBytes 30 = .ok (.aload_n 0, 1) := by decide +kernel
theorem dX3_putBytes_31 : decode cX3_putBytes 31 = .ok (.dup, 1) := by decide +kernel
theorem dX3_putBytes_32 : decode cX3_putBytes 32 = .ok (.getfield 32, 3) := by decide +kernel
theorem dX3_putBytes_35 : decode cX3_putBytes 35 = .ok (.iconst 1, 1) := by decide +kernel
theorem dX3_putBytes_36 : decode cX3_putBytes 36 = .ok (.iadd, 1) := by decide +kernel
theorem dX3_putBytes_37 : decode cX3_putBytes 37 = .ok (.putfield 32, 3) := by decide +kernel
theorem dX3_putBytes_40 : decode cX3_putBytes 40 = .ok (.iinc 2 (-8), 3) := by decide +kernel
theorem dX3_putBytes_43 : decode cX3_putBytes 43 = .ok (.goto (-40), 3) := by decide +kernel
theorem dX3_putBytes_46 : decode cX3_putBytes 46 = .ok (.return_, 1) := by decide +kernel
theorem dX3_read_0 : decode cX3_read 0 = .ok (.aload_n 0, 1) := by decide +kernel
theorem dX3_read_1 : decode cX3_read 1 = .ok (.iconst 0, 1) := by decide +kernel
theorem dX3_read_2 : decode cX3_read 2 = .ok (.putfield 32, 3) := by decide +kernel
theorem dX3_read_5 : decode cX3_read 5 = .ok (.aload_n 0, 1) := by decide +kernel
theorem dX3_read_6 : decode cX3_read 6 = .ok (.iload_n 1, 1) := by decide +kernel
theorem dX3_read_7 : decode cX3_read 7 = .ok (.sipush 900, 3) := by decide +kernel
theorem dX3_read_10 : decode cX3_read 10 = .ok (.invokestatic 35, 3) := by decide +kernel
theorem dX3_read_13 : decode cX3_read 13 = .ok (.putfield 41, 3) := by decide +kernel
theorem dX3_read_16 : decode cX3_read 16 = .ok (.aload_n 0, 1) := by decide +kernel
theorem dX3_read_17 : decode cX3_read 17 = .ok (.iconst 0, 1) := by decide +kernel
theorem dX3_read_18 : decode cX3_read 18 = .ok (.putfield 44, 3) := by decide +kernel
theorem dX3_read_21 : decode cX3_read 21 = .ok (.aload_n 0, 1) := by decide +kernel
theorem dX3_read_22 : decode cX3_read 22 = .ok (.iconst (-1), 1) := by decide +kernel
theorem dX3_read_23 : decode cX3_read 23 = .ok (.putfield 9, 3) := by decide +kernel
theorem dX3_read_26 : decode cX3_read 26 = .ok (.aload_n 0, 1) := by decide +kernel
theorem dX3_read_27 : decode cX3_read 27 = .ok (.iconst 0, 1) := by decide +kernel
theorem dX3_read_28 : decode cX3_read 28 = .ok (.putfield 47, 3) := by decide +kernel
theorem dX3_read_31 : decode cX3_read 31 = .ok (.aload_n 0, 1) := by decide +kernel
theorem dX3_read_32 : decode cX3_read 32 = .ok (.iconst 0, 1) := by decide +kernel
theorem dX3_read_33 : decode cX3_read 33 = .ok (.putfield 50, 3) := by decide +kernel
theorem dX3_read_36 : decode cX3_read 36 = .ok (.aload_n 0, 1) := by decide +kernel
theorem dX3_read_37 : decode cX3_read 37 = .ok (.new 23, 3) := by decide +kernel
theorem dX3_read_40 : decode cX3_read 40 = .ok (.dup, 1) := by decide +kernel
theorem dX3_read_41 : decode cX3_read 41 = .ok (.iload_n 2, 1) := by decide +kernel
theorem dX3_read_42 : decode cX3_read 42 = .ok (.invokespecial 25, 3) := by decide +kernel
theorem dX3_read_45 : decode cX3_read 45 = .ok (.putfield 28, 3) := by decide +kernel
theorem dX3_read_48 : decode cX3_read 48 = .ok (.aload_n 0, 1) := by decide +kernel
theorem dX3_read_49 : decode cX3_read 49 = .ok (.invokevirtual 54, 3) := by decide +kernel
theorem dX3_read_52 : decode cX3_read 52 = .ok (.aload_n 0, 1) := by decide +kernel
theorem dX3_read_53 : decode cX3_read 53 = .ok (.invokevirtual 57, 3) := by decide +kernel
theorem dX3_read_56 : decode cX3_read 56 = .ok (.iconst 0, 1) := by decide +kernel
theorem dX3_read_57 : decode cX3_read 57 = .ok (.istore_n 3, 1) := by decide +kernel
theorem dX3_read_58 : decode cX3_read 58 = .ok (.iload_n 3, 1) := by decide +kernel
theorem dX3_read_59 : decode cX3_read 59 = .ok (.sipush 900, 3) := by decide +kernel
theorem dX3_read_62 : decode cX3_read 62 = .ok (.if_icmp .ge 20, 3) := by decide +kernel
theorem dX3_read_65 : decode cX3_read 65 = .ok (.aload_n 0, 1) := by decide +kernel
theorem dX3_read_66 : decode cX3_read 66 = .ok (.getfield 60, 3) := by decide +kernel
theorem dX3_read_69 : decode cX3_read 69 = .ok (.ifCond .eq 13, 3) := by decide +kernel
theorem dX3_read_72 : decode cX3_read 72 = .ok (.aload_n 0, 1) := by decide +kernel
theorem dX3_read_73 : decode cX3_read 73 = .ok (.invokevirtual 63, 3) := by decide +kernel
theorem dX3_read_76 : decode cX3_read 76 = .ok (.iinc 3 1, 3) := by decide +kernel
theorem dX3_read_79 : decode cX3_read 79 = .ok (.goto (-21), 3) := by decide +kernel
theorem dX3_read_82 : decode cX3_read 82 = .ok (.aload_n 0, 1) := by decide +kernel
theorem dX3_read_83 : decode cX3_read 83 = .ok (.getfield 44, 3) := by decide +kernel
theorem dX3_read_86 : decode cX3_read 86 = .ok (.ifCond .ne 10, 3) := by decide +kernel
theorem dX3_read_89 : decode cX3_read 89 = .ok (.aload_n 0, 1) := by decide +kernel
theorem dX3_read_90 : decode cX3_read 90 = .ok (.getfield 28, 3) := by decide +kernel
theorem dX3_read_93 : decode cX3_read 93 = .ok (.goto 4, 3) := by decide +kernel
theorem dX3_read_96 : decode cX3_read 96 = .ok (.aconst_null, 1) := by decide +kernel
theorem dX3_read_97 : decode cX3_read 97 = .ok (.areturn, 1) := by decide +kernel
theorem dX3_refuse_0 : decode cX3_refuse 0 = .ok (.aload_n 0, 1) := by decide +kernel
theorem dX3_refuse_1 : decode cX3_refuse 1 = .ok (.getfield 44, 3) := by decide +kernel
theorem dX3_refuse_4 : decode cX3_refuse 4 = .ok (.ifCond .ne 16, 3) := by decide +kernel
theorem dX3_refuse_7 : decode cX3_refuse 7 = .ok (.aload_n 0, 1) := by decide +kernel
theorem dX3_refuse_8 : decode cX3_refuse 8 = .ok (.iload_n 1, 1) := by decide +kernel
theorem dX3_refuse_9 : decode cX3_refuse 9 = .ok (.putfield 44, 3) := by decide +kernel
theorem dX3_refuse_12 : decode cX3_refuse 12 = .ok (.aload_n 0, 1) := by decide +kernel
theorem dX3_refuse_13 : decode cX3_refuse 13 = .ok (.aload_n 0, 1) := by decide +kernel
theorem dX3_refuse_14 : decode cX3_refuse 14 = .ok (.getfield 66, 3) := by decide +kernel
theorem dX3_refuse_17 : decode cX3_refuse 17 = .ok (.putfield 9, 3) := by decide +kernel
theorem dX3_refuse_20 : decode cX3_refuse 20 = .ok (.aload_n 0, 1) := by decide +kernel
theorem dX3_refuse_21 : decode cX3_refuse 21 = .ok (.iconst 0, 1) := by decide +kernel
theorem dX3_refuse_22 : decode cX3_refuse 22 = .ok (.putfield 60, 3) := by decide +kernel
theorem dX3_refuse_25 : decode cX3_refuse 25 = .ok (.return_, 1) := by decide +kernel
theorem dX3_byteAt_0 : decode cX3_byteAt 0 = .ok (.iload_n 1, 1) := by decide +kernel
theorem dX3_byteAt_1 : decode cX3_byteAt 1 = .ok (.ifCond .lt 20, 3) := by decide +kernel
theorem dX3_byteAt_4 : decode cX3_byteAt 4 = .ok (.iload_n 1, 1) := by decide +kernel
theorem dX3_byteAt_5 : decode cX3_byteAt 5 = .ok (.aload_n 0, 1) := by decide +kernel
theorem dX3_byteAt_6 : decode cX3_byteAt 6 = .ok (.getfield 41, 3) := by decide +kernel
theorem dX3_byteAt_9 : decode cX3_byteAt 9 = .ok (.if_icmp .ge 12, 3) := by decide +kernel
theorem dX3_byteAt_12 : decode cX3_byteAt 12 = .ok (.aload_n 0, 1) := by decide +kernel
theorem dX3_byteAt_13 : decode cX3_byteAt 13 = .ok (.getfield 15, 3) := by decide +kernel
theorem dX3_byteAt_16 : decode cX3_byteAt 16 = .ok (.iload_n 1, 1) := by decide +kernel
theorem dX3_byteAt_17 : decode cX3_byteAt 17 = .ok (.baload, 1) := by decide +kernel
theorem dX3_byteAt_18 : decode cX3_byteAt 18 = .ok (.goto 4, 3) := by decide +kernel
theorem dX3_byteAt_21 : decode cX3_byteAt 21 = .ok (.iconst 0, 1) := by decide +kernel
theorem dX3_byteAt_22 : decode cX3_byteAt 22 = .ok (.ireturn, 1) := by decide +kernel
theorem dX3_advance_0 : decode cX3_advance 0 = .ok (.aload_n 0, 1) := by decide +kernel
theorem dX3_advance_1 : decode cX3_advance 1 = .ok (.aload_n 0, 1) := by decide +kernel
theorem dX3_advance_2 : decode cX3_advance 2 = .ok (.getfield 47, 3) := by decide +kernel
theorem dX3_advance_5 : decode cX3_advance 5 = .ok (.putfield 66, 3) := by decide +kernel
theorem dX3_advance_8 : decode cX3_advance 8 = .ok (.aload_n 0, 1) := by decide +kernel
theorem dX3_advance_9 : decode cX3_advance 9 = .ok (.getfield 66, 3) := by decide +kernel
theorem dX3_advance_12 : decode cX3_advance 12 = .ok (.aload_n 0, 1) := by decide +kernel
theorem dX3_advance_13 : decode cX3_advance 13 = .ok (.getfield 41, 3) := by decide +kernel
theorem dX3_advance_16 : decode cX3_advance 16 = .ok (.if_icmp .ge 42, 3) := by decide +kernel
theorem dX3_advance_19 : decode cX3_advance 19 = .ok (.aload_n 0, 1) := by decide +kernel
theorem dX3_advance_20 : decode cX3_advance 20 = .ok (.aload_n 0, 1) := by decide +kernel
theorem dX3_advance_21 : decode cX3_advance 21 = .ok (.getfield 66, 3) := by decide +kernel
theorem dX3_advance_24 : decode cX3_advance 24 = .ok (.invokevirtual 69, 3) := by decide +kernel
theorem dX3_advance_27 : decode cX3_advance 27 = .ok (.bipush 10, 2) := by decide +kernel
theorem dX3_advance_29 : decode cX3_advance 29 = .ok (.if_icmp .eq 16, 3) := by decide +kernel
theorem dX3_advance_32 : decode cX3_advance 32 = .ok (.aload_n 0, 1) := by decide +kernel
theorem dX3_advance_33 : decode cX3_advance 33 = .ok (.aload_n 0, 1) := by decide +kernel
theorem dX3_advance_34 : decode cX3_advance 34 = .ok (.getfield 66, 3) := by decide +kernel
theorem dX3_advance_37 : decode cX3_advance 37 = .ok (.invokevirtual 69, 3) := by decide +kernel
theorem dX3_advance_40 : decode cX3_advance 40 = .ok (.bipush 32, 2) := by decide +kernel
theorem dX3_advance_42 : decode cX3_advance 42 = .ok (.if_icmp .ne 16, 3) := by decide +kernel
theorem dX3_advance_45 : decode cX3_advance 45 = .ok (.aload_n 0, 1) := by decide +kernel
theorem dX3_advance_46 : decode cX3_advance 46 = .ok (.dup, 1) := by decide +kernel
theorem dX3_advance_47 : decode cX3_advance 47 = .ok (.getfield 66, 3) := by decide +kernel
theorem dX3_advance_50 : decode cX3_advance 50 = .ok (.iconst 1, 1) := by decide +kernel
theorem dX3_advance_51 : decode cX3_advance 51 = .ok (.iadd, 1) := by decide +kernel
theorem dX3_advance_52 : decode cX3_advance 52 = .ok (.putfield 66, 3) := by decide +kernel
theorem dX3_advance_55 : decode cX3_advance 55 = .ok (.goto (-47), 3) := by decide +kernel
theorem dX3_advance_58 : decode cX3_advance 58 = .ok (.aload_n 0, 1) := by decide +kernel
theorem dX3_advance_59 : decode cX3_advance 59 = .ok (.aload_n 0, 1) := by decide +kernel
theorem dX3_advance_60 : decode cX3_advance 60 = .ok (.getfield 66, 3) := by decide +kernel
theorem dX3_advance_63 : decode cX3_advance 63 = .ok (.aload_n 0, 1) := by decide +kernel
theorem dX3_advance_64 : decode cX3_advance 64 = .ok (.getfield 41, 3) := by decide +kernel
theorem dX3_advance_67 : decode cX3_advance 67 = .ok (.if_icmp .ge 24, 3) := by decide +kernel
theorem dX3_advance_70 : decode cX3_advance 70 = .ok (.aload_n 0, 1) := by decide +kernel
theorem dX3_advance_71 : decode cX3_advance 71 = .ok (.getfield 44, 3) := by decide +kernel
theorem dX3_advance_74 : decode cX3_advance 74 = .ok (.ifCond .ne 17, 3) := by decide +kernel
theorem dX3_advance_77 : decode cX3_advance 77 = .ok (.aload_n 0, 1) := by decide +kernel
theorem dX3_advance_78 : decode cX3_advance 78 = .ok (.aload_n 0, 1) := by decide +kernel
theorem dX3_advance_79 : decode cX3_advance 79 = .ok (.getfield 66, 3) := by decide +kernel
theorem dX3_advance_82 : decode cX3_advance 82 = .ok (.invokevirtual 69, 3) := by decide +kernel
theorem dX3_advance_85 : decode cX3_advance 85 = .ok (.invokestatic 73, 3) := by decide +kernel
theorem dX3_advance_88 : decode cX3_advance 88 = .ok (.goto 4, 3) := by decide +kernel
theorem dX3_advance_91 : decode cX3_advance 91 = .ok (.iconst 0, 1) := by decide +kernel
theorem dX3_advance_92 : decode cX3_advance 92 = .ok (.putfield 60, 3) := by decide +kernel
theorem dX3_advance_95 : decode cX3_advance 95 = .ok (.aload_n 0, 1) := by decide +kernel
theorem dX3_advance_96 : decode cX3_advance 96 = .ok (.aload_n 0, 1) := by decide +kernel
theorem dX3_advance_97 : decode cX3_advance 97 = .ok (.getfield 60, 3) := by decide +kernel
theorem dX3_advance_100 : decode cX3_advance 100 = .ok (.iconst 3, 1) := by decide +kernel
theorem dX3_advance_101 : decode cX3_advance 101 = .ok (.if_icmp .ne 12, 3) := by decide +kernel
theorem dX3_advance_104 : decode cX3_advance 104 = .ok (.aload_n 0, 1) := by decide +kernel
theorem dX3_advance_105 : decode cX3_advance 105 = .ok (.getfield 66, 3) := by decide +kernel
theorem dX3_advance_108 : decode cX3_advance 108 = .ok (.iconst 1, 1) := by decide +kernel
theorem dX3_advance_109 : decode cX3_advance 109 = .ok (.iadd, 1) := by decide +kernel
theorem dX3_advance_110 : decode cX3_advance 110 = .ok (.goto 7, 3) := by decide +kernel
theorem dX3_advance_113 : decode cX3_advance 113 = .ok (.aload_n 0, 1) := by decide +kernel
theorem dX3_advance_114 : decode cX3_advance 114 = .ok (.getfield 66, 3) := by decide +kernel
theorem dX3_advance_117 : decode cX3_advance 117 = .ok (.putfield 47, 3) := by decide +kernel
theorem dX3_advance_120 : decode cX3_advance 120 = .ok (.aload_n 0, 1) := by decide +kernel
theorem dX3_advance_121 : decode cX3_advance 121 = .ok (.getfield 60, 3) := by decide +kernel
theorem dX3_advance_124 : decode cX3_advance 124 = .ok (.iconst 1, 1) := by decide +kernel
theorem dX3_advance_125 : decode cX3_advance 125 = .ok (.if_icmp .eq 11, 3) := by decide +kernel
theorem dX3_advance_128 : decode cX3_advance 128 = .ok (.aload_n 0, 1) := by decide +kernel
theorem dX3_advance_129 : decode cX3_advance 129 = .ok (.getfield 60, 3) := by decide +kernel
theorem dX3_advance_132 : decode cX3_advance 132 = .ok (.iconst 2, 1) := by decide +kernel
theorem dX3_advance_133 : decode cX3_advance 133 = .ok (.if_icmp .ne 45, 3) := by decide +kernel
theorem dX3_advance_136 : decode cX3_advance 136 = .ok (.aload_n 0, 1) := by decide +kernel
theorem dX3_advance_137 : decode cX3_advance 137 = .ok (.getfield 47, 3) := by decide +kernel
theorem dX3_advance_140 : decode cX3_advance 140 = .ok (.aload_n 0, 1) := by decide +kernel
theorem dX3_advance_141 : decode cX3_advance 141 = .ok (.getfield 41, 3) := by decide +kernel
theorem dX3_advance_144 : decode cX3_advance 144 = .ok (.if_icmp .ge 34, 3) := by decide +kernel
theorem dX3_advance_147 : decode cX3_advance 147 = .ok (.aload_n 0, 1) := by decide +kernel
theorem dX3_advance_148 : decode cX3_advance 148 = .ok (.aload_n 0, 1) := by decide +kernel
theorem dX3_advance_149 : decode cX3_advance 149 = .ok (.getfield 47, 3) := by decide +kernel
theorem dX3_advance_152 : decode cX3_advance 152 = .ok (.invokevirtual 69, 3) := by decide +kernel
theorem dX3_advance_155 : decode cX3_advance 155 = .ok (.invokestatic 73, 3) := by decide +kernel
theorem dX3_advance_158 : decode cX3_advance 158 = .ok (.aload_n 0, 1) := by decide +kernel
theorem dX3_advance_159 : decode cX3_advance 159 = .ok (.getfield 60, 3) := by decide +kernel
theorem dX3_advance_162 : decode cX3_advance 162 = .ok (.if_icmp .ne 16, 3) := by decide +kernel
theorem dX3_advance_165 : decode cX3_advance 165 = .ok (.aload_n 0, 1) := by decide +kernel
theorem dX3_advance_166 : decode cX3_advance 166 = .ok (.dup, 1) := by decide +kernel
theorem dX3_advance_167 : decode cX3_advance 167 = .ok (.getfield 47, 3) := by decide +kernel
theorem dX3_advance_170 : decode cX3_advance 170 = .ok (.iconst 1, 1) := by decide +kernel
theorem dX3_advance_171 : decode cX3_advance 171 = .ok (.iadd, 1) := by decide +kernel
theorem dX3_advance_172 : decode cX3_advance 172 = .ok (.putfield 47, 3) := by decide +kernel
theorem dX3_advance_175 : decode cX3_advance 175 = .ok (.goto (-39), 3) := by decide +kernel
theorem dX3_advance_178 : decode cX3_advance 178 = .ok (.aload_n 0, 1) := by decide +kernel
theorem dX3_advance_179 : decode cX3_advance 179 = .ok (.getfield 60, 3) := by decide +kernel
theorem dX3_advance_182 : decode cX3_advance 182 = .ok (.iconst 4, 1) := by decide +kernel
theorem dX3_advance_183 : decode cX3_advance 183 = .ok (.if_icmp .eq 24, 3) := by decide +kernel
theorem dX3_advance_186 : decode cX3_advance 186 = .ok (.aload_n 0, 1) := by decide +kernel
theorem dX3_advance_187 : decode cX3_advance 187 = .ok (.getfield 60, 3) := by decide +kernel
theorem dX3_advance_190 : decode cX3_advance 190 = .ok (.iconst 2, 1) := by decide +kernel
theorem dX3_advance_191 : decode cX3_advance 191 = .ok (.if_icmp .ne 21, 3) := by decide +kernel
theorem dX3_advance_194 : decode cX3_advance 194 = .ok (.aload_n 0, 1) := by decide +kernel
theorem dX3_advance_195 : decode cX3_advance 195 = .ok (.getfield 47, 3) := by decide +kernel
theorem dX3_advance_198 : decode cX3_advance 198 = .ok (.aload_n 0, 1) := by decide +kernel
theorem dX3_advance_199 : decode cX3_advance 199 = .ok (.getfield 66, 3) := by decide +kernel
theorem dX3_advance_202 : decode cX3_advance 202 = .ok (.isub, 1) := by decide +kernel
theorem dX3_advance_203 : decode cX3_advance 203 = .ok (.iconst 3, 1) := by decide +kernel
theorem dX3_advance_204 : decode cX3_advance 204 = .ok (.if_icmp .le 8, 3) := by decide +kernel
theorem dX3_advance_207 : decode cX3_advance 207 = .ok (.aload_n 0, 1) := by decide +kernel
theorem dX3_advance_208 : decode cX3_advance 208 = .ok (.iconst 1, 1) := by decide +kernel
theorem dX3_advance_209 : decode cX3_advance 209 = .ok (.invokevirtual 76, 3) := by decide +kernel
theorem dX3_advance_212 : decode cX3_advance 212 = .ok (.return_, 1) := by decide +kernel
theorem dX3_kindOf_0 : decode cX3_kindOf 0 = .ok (.iload_n 0, 1) := by decide +kernel
theorem dX3_kindOf_1 : decode cX3_kindOf 1 = .ok (.bipush 97, 2) := by decide +kernel
theorem dX3_kindOf_3 : decode cX3_kindOf 3 = .ok (.if_icmp .lt 11, 3) := by decide +kernel
theorem dX3_kindOf_6 : decode cX3_kindOf 6 = .ok (.iload_n 0, 1) := by decide +kernel
theorem dX3_kindOf_7 : decode cX3_kindOf 7 = .ok (.bipush 122, 2) := by decide +kernel
theorem dX3_kindOf_9 : decode cX3_kindOf 9 = .ok (.if_icmp .gt 5, 3) := by decide +kernel
theorem dX3_kindOf_12 : decode cX3_kindOf 12 = .ok (.iconst 1, 1) := by decide +kernel
theorem dX3_kindOf_13 : decode cX3_kindOf 13 = .ok (.ireturn, 1) := by decide +kernel
theorem dX3_kindOf_14 : decode cX3_kindOf 14 = .ok (.iload_n 0, 1) := by decide +kernel
theorem dX3_kindOf_15 : decode cX3_kindOf 15 = .ok (.bipush 48, 2) := by decide +kernel
theorem dX3_kindOf_17 : decode cX3_kindOf 17 = .ok (.if_icmp .lt 11, 3) := by decide +kernel
theorem dX3_kindOf_20 : decode cX3_kindOf 20 = .ok (.iload_n 0, 1) := by decide +kernel
theorem dX3_kindOf_21 : decode cX3_kindOf 21 = .ok (.bipush 57, 2) := by decide +kernel
theorem dX3_kindOf_23 : decode cX3_kindOf 23 = .ok (.if_icmp .gt 5, 3) := by decide +kernel
theorem dX3_kindOf_26 : decode cX3_kindOf 26 = .ok (.iconst 2, 1) := by decide +kernel
theorem dX3_kindOf_27 : decode cX3_kindOf 27 = .ok (.ireturn, 1) := by decide +kernel
theorem dX3_kindOf_28 : decode cX3_kindOf 28 = .ok (.iload_n 0, 1) := by decide +kernel
theorem dX3_kindOf_29 : decode cX3_kindOf 29 = .ok (.lookupswitch 109 #[(40, 107), (41, 107), (42, 107), (43, 107), (45, 107), (58, 107), (59, 107), (60, 107), (61, 107), (62, 107), (91, 107), (93, 107)], 107) := by decide +kernel
theorem dX3_kindOf_136 : decode cX3_kindOf 136 = .ok (.iconst 3, 1) := by decide +kernel
theorem dX3_kindOf_137 : decode cX3_kindOf 137 = .ok (.ireturn, 1) := by decide +kernel
theorem dX3_kindOf_138 : decode cX3_kindOf 138 = .ok (.iconst 4, 1) := by decide +kernel
theorem dX3_kindOf_139 : decode cX3_kindOf 139 = .ok (.ireturn, 1) := by decide +kernel
theorem dX3_numberHere_0 : decode cX3_numberHere 0 = .ok (.iconst 0, 1) := by decide +kernel
theorem dX3_numberHere_1 : decode cX3_numberHere 1 = .ok (.istore_n 1, 1) := by decide +kernel
theorem dX3_numberHere_2 : decode cX3_numberHere 2 = .ok (.aload_n 0, 1) := by decide +kernel
theorem dX3_numberHere_3 : decode cX3_numberHere 3 = .ok (.getfield 66, 3) := by decide +kernel
theorem dX3_numberHere_6 : decode cX3_numberHere 6 = .ok (.istore_n 2, 1) := by decide +kernel
theorem dX3_numberHere_7 : decode cX3_numberHere 7 = .ok (.iload_n 2, 1) := by decide +kernel
theorem dX3_numberHere_8 : decode cX3_numberHere 8 = .ok (.aload_n 0, 1) := by decide +kernel
theorem dX3_numberHere_9 : decode cX3_numberHere 9 = .ok (.getfield 47, 3) := by decide +kernel
theorem dX3_numberHere_12 : decode cX3_numberHere 12 = .ok (.if_icmp .ge 33, 3) := by decide +kernel
theorem dX3_numberHere_15 : decode cX3_numberHere 15 = .ok (.iload_n 2, 1) := by decide +kernel
theorem dX3_numberHere_16 : decode cX3_numberHere 16 = .ok (.aload_n 0, 1) := by decide +kernel
theorem dX3_numberHere_17 : decode cX3_numberHere 17 = .ok (.getfield 66, 3) := by decide +kernel
theorem dX3_numberHere_20 : decode cX3_numberHere 20 = .ok (.iconst 3, 1) := by decide +kernel
theorem dX3_numberHere_21 : decode cX3_numberHere 21 = .ok (.iadd, 1) := by decide +kernel
theorem dX3_numberHere_22 : decode cX3_numberHere 22 = .ok (.if_icmp .ge 23, 3) := by decide +kernel
theorem dX3_numberHere_25 : decode cX3_numberHere 25 = .ok (.iload_n 1, 1) := by decide +kernel
theorem dX3_numberHere_26 : decode cX3_numberHere 26 = .ok (.bipush 10, 2) := by decide +kernel
theorem dX3_numberHere_28 : decode cX3_numberHere 28 = .ok (.imul, 1) := by decide +kernel
theorem dX3_numberHere_29 : decode cX3_numberHere 29 = .ok (.aload_n 0, 1) := by decide +kernel
theorem dX3_numberHere_30 : decode cX3_numberHere 30 = .ok (.iload_n 2, 1) := by decide +kernel
theorem dX3_numberHere_31 : decode cX3_numberHere 31 = .ok (.invokevirtual 69, 3) := by decide +kernel
theorem dX3_numberHere_34 : decode cX3_numberHere 34 = .ok (.iadd, 1) := by decide +kernel
theorem dX3_numberHere_35 : decode cX3_numberHere 35 = .ok (.bipush 48, 2) := by decide +kernel
theorem dX3_numberHere_37 : decode cX3_numberHere 37 = .ok (.isub, 1) := by decide +kernel
theorem dX3_numberHere_38 : decode cX3_numberHere 38 = .ok (.istore_n 1, 1) := by decide +kernel
theorem dX3_numberHere_39 : decode cX3_numberHere 39 = .ok (.iinc 2 1, 3) := by decide +kernel
theorem dX3_numberHere_42 : decode cX3_numberHere 42 = .ok (.goto (-35), 3) := by decide +kernel
theorem dX3_numberHere_45 : decode cX3_numberHere 45 = .ok (.iload_n 1, 1) := by decide +kernel
theorem dX3_numberHere_46 : decode cX3_numberHere 46 = .ok (.ireturn, 1) := by decide +kernel
theorem dX3_isWord_0 : decode cX3_isWord 0 = .ok (.aload_n 0, 1) := by decide +kernel
theorem dX3_isWord_1 : decode cX3_isWord 1 = .ok (.getfield 60, 3) := by decide +kernel
theorem dX3_isWord_4 : decode cX3_isWord 4 = .ok (.iconst 1, 1) := by decide +kernel
theorem dX3_isWord_5 : decode cX3_isWord 5 = .ok (.if_icmp .ne 19, 3) := by decide +kernel
theorem dX3_isWord_8 : decode cX3_isWord 8 = .ok (.aload_n 0, 1) := by decide +kernel
theorem dX3_isWord_9 : decode cX3_isWord 9 = .ok (.getfield 47, 3) := by decide +kernel
theorem dX3_isWord_12 : decode cX3_isWord 12 = .ok (.aload_n 0, 1) := by decide +kernel
theorem dX3_isWord_13 : decode cX3_isWord 13 = .ok (.getfield 66, 3) := by decide +kernel
theorem dX3_isWord_16 : decode cX3_isWord 16 = .ok (.isub, 1) := by decide +kernel
theorem dX3_isWord_17 : decode cX3_isWord 17 = .ok (.aload_n 1, 1) := by decide +kernel
theorem dX3_isWord_18 : decode cX3_isWord 18 = .ok (.invokevirtual 79, 3) := by decide +kernel
theorem dX3_isWord_21 : decode cX3_isWord 21 = .ok (.if_icmp .eq 5, 3) := by decide +kernel
theorem dX3_isWord_24 : decode cX3_isWord 24 = .ok (.iconst 0, 1) := by decide +kernel
theorem dX3_isWord_25 : decode cX3_isWord 25 = .ok (.ireturn, 1) := by decide +kernel
theorem dX3_isWord_26 : decode cX3_isWord 26 = .ok (.iconst 0, 1) := by decide +kernel
theorem dX3_isWord_27 : decode cX3_isWord 27 = .ok (.istore_n 2, 1) := by decide +kernel
theorem dX3_isWord_28 : decode cX3_isWord 28 = .ok (.iload_n 2, 1) := by decide +kernel
theorem dX3_isWord_29 : decode cX3_isWord 29 = .ok (.aload_n 1, 1) := by decide +kernel
theorem dX3_isWord_30 : decode cX3_isWord 30 = .ok (.invokevirtual 79, 3) := by decide +kernel
theorem dX3_isWord_33 : decode cX3_isWord 33 = .ok (.if_icmp .ge 29, 3) := by decide +kernel
theorem dX3_isWord_36 : decode cX3_isWord 36 = .ok (.aload_n 0, 1) := by decide +kernel
theorem dX3_isWord_37 : decode cX3_isWord 37 = .ok (.aload_n 0, 1) := by decide +kernel
theorem dX3_isWord_38 : decode cX3_isWord 38 = .ok (.getfield 66, 3) := by decide +kernel
theorem dX3_isWord_41 : decode cX3_isWord 41 = .ok (.iload_n 2, 1) := by decide +kernel
theorem dX3_isWord_42 : decode cX3_isWord 42 = .ok (.iadd, 1) := by decide +kernel
theorem dX3_isWord_43 : decode cX3_isWord 43 = .ok (.invokevirtual 69, 3) := by decide +kernel
theorem dX3_isWord_46 : decode cX3_isWord 46 = .ok (.aload_n 1, 1) := by decide +kernel
theorem dX3_isWord_47 : decode cX3_isWord 47 = .ok (.iload_n 2, 1) := by decide +kernel
theorem dX3_isWord_48 : decode cX3_isWord 48 = .ok (.invokevirtual 84, 3) := by decide +kernel
theorem dX3_isWord_51 : decode cX3_isWord 51 = .ok (.if_icmp .eq 5, 3) := by decide +kernel
theorem dX3_isWord_54 : decode cX3_isWord 54 = .ok (.iconst 0, 1) := by decide +kernel
theorem dX3_isWord_55 : decode cX3_isWord 55 = .ok (.ireturn, 1) := by decide +kernel
theorem dX3_isWord_56 : decode cX3_isWord 56 = .ok (.iinc 2 1, 3) := by decide +kernel
theorem dX3_isWord_59 : decode cX3_isWord 59 = .ok (.goto (-31), 3) := by decide +kernel
theorem dX3_isWord_62 : decode cX3_isWord 62 = .ok (.iconst 1, 1) := by decide +kernel
theorem dX3_isWord_63 : decode cX3_isWord 63 = .ok (.ireturn, 1) := by decide +kernel
theorem dX3_isSign_0 : decode cX3_isSign 0 = .ok (.aload_n 0, 1) := by decide +kernel
theorem dX3_isSign_1 : decode cX3_isSign 1 = .ok (.getfield 60, 3) := by decide +kernel
theorem dX3_isSign_4 : decode cX3_isSign 4 = .ok (.iconst 3, 1) := by decide +kernel
theorem dX3_isSign_5 : decode cX3_isSign 5 = .ok (.if_icmp .ne 19, 3) := by decide +kernel
theorem dX3_isSign_8 : decode cX3_isSign 8 = .ok (.aload_n 0, 1) := by decide +kernel
theorem dX3_isSign_9 : decode cX3_isSign 9 = .ok (.aload_n 0, 1) := by decide +kernel
theorem dX3_isSign_10 : decode cX3_isSign 10 = .ok (.getfield 66, 3) := by decide +kernel
theorem dX3_isSign_13 : decode cX3_isSign 13 = .ok (.invokevirtual 69, 3) := by decide +kernel
theorem dX3_isSign_16 : decode cX3_isSign 16 = .ok (.iload_n 1, 1) := by decide +kernel
theorem dX3_isSign_17 : decode cX3_isSign 17 = .ok (.if_icmp .ne 7, 3) := by decide +kernel
theorem dX3_isSign_20 : decode cX3_isSign 20 = .ok (.iconst 1, 1) := by decide +kernel
theorem dX3_isSign_21 : decode cX3_isSign 21 = .ok (.goto 4, 3) := by decide +kernel
theorem dX3_isSign_24 : decode cX3_isSign 24 = .ok (.iconst 0, 1) := by decide +kernel
theorem dX3_isSign_25 : decode cX3_isSign 25 = .ok (.ireturn, 1) := by decide +kernel
theorem dX3_passWord_0 : decode cX3_passWord 0 = .ok (.aload_n 0, 1) := by decide +kernel
theorem dX3_passWord_1 : decode cX3_passWord 1 = .ok (.aload_n 1, 1) := by decide +kernel
theorem dX3_passWord_2 : decode cX3_passWord 2 = .ok (.invokevirtual 88, 3) := by decide +kernel
theorem dX3_passWord_5 : decode cX3_passWord 5 = .ok (.ifCond .eq 10, 3) := by decide +kernel
theorem dX3_passWord_8 : decode cX3_passWord 8 = .ok (.aload_n 0, 1) := by decide +kernel
theorem dX3_passWord_9 : decode cX3_passWord 9 = .ok (.invokevirtual 54, 3) := by decide +kernel
theorem dX3_passWord_12 : decode cX3_passWord 12 = .ok (.goto 8, 3) := by decide +kernel
theorem dX3_passWord_15 : decode cX3_passWord 15 = .ok (.aload_n 0, 1) := by decide +kernel
theorem dX3_passWord_16 : decode cX3_passWord 16 = .ok (.iconst 2, 1) := by decide +kernel
theorem dX3_passWord_17 : decode cX3_passWord 17 = .ok (.invokevirtual 76, 3) := by decide +kernel
theorem dX3_passWord_20 : decode cX3_passWord 20 = .ok (.return_, 1) := by decide +kernel
theorem dX3_passSign_0 : decode cX3_passSign 0 = .ok (.aload_n 0, 1) := by decide +kernel
theorem dX3_passSign_1 : decode cX3_passSign 1 = .ok (.iload_n 1, 1) := by decide +kernel
theorem dX3_passSign_2 : decode cX3_passSign 2 = .ok (.invokevirtual 92, 3) := by decide +kernel
theorem dX3_passSign_5 : decode cX3_passSign 5 = .ok (.ifCond .eq 10, 3) := by decide +kernel
theorem dX3_passSign_8 : decode cX3_passSign 8 = .ok (.aload_n 0, 1) := by decide +kernel
theorem dX3_passSign_9 : decode cX3_passSign 9 = .ok (.invokevirtual 54, 3) := by decide +kernel
theorem dX3_passSign_12 : decode cX3_passSign 12 = .ok (.goto 8, 3) := by decide +kernel
theorem dX3_passSign_15 : decode cX3_passSign 15 = .ok (.aload_n 0, 1) := by decide +kernel
theorem dX3_passSign_16 : decode cX3_passSign 16 = .ok (.iconst 2, 1) := by decide +kernel
theorem dX3_passSign_17 : decode cX3_passSign 17 = .ok (.invokevirtual 76, 3) := by decide +kernel
theorem dX3_passSign_20 : decode cX3_passSign 20 = .ok (.return_, 1) := by decide +kernel
theorem dX3_passNumber_0 : decode cX3_passNumber 0 = .ok (.aload_n 0, 1) := by decide +kernel
theorem dX3_passNumber_1 : decode cX3_passNumber 1 = .ok (.getfield 60, 3) := by decide +kernel
theorem dX3_passNumber_4 : decode cX3_passNumber 4 = .ok (.iconst 2, 1) := by decide +kernel
theorem dX3_passNumber_5 : decode cX3_passNumber 5 = .ok (.if_icmp .eq 10, 3) := by decide +kernel
theorem dX3_passNumber_8 : decode cX3_passNumber 8 = .ok (.aload_n 0, 1) := by decide +kernel
theorem dX3_passNumber_9 : decode cX3_passNumber 9 = .ok (.iconst 2, 1) := by decide +kernel
theorem dX3_passNumber_10 : decode cX3_passNumber 10 = .ok (.invokevirtual 76, 3) := by decide +kernel
theorem dX3_passNumber_13 : decode cX3_passNumber 13 = .ok (.iconst 0, 1) := by decide +kernel
theorem dX3_passNumber_14 : decode cX3_passNumber 14 = .ok (.ireturn, 1) := by decide +kernel
theorem dX3_passNumber_15 : decode cX3_passNumber 15 = .ok (.aload_n 0, 1) := by decide +kernel
theorem dX3_passNumber_16 : decode cX3_passNumber 16 = .ok (.invokevirtual 96, 3) := by decide +kernel
theorem dX3_passNumber_19 : decode cX3_passNumber 19 = .ok (.istore_n 3, 1) := by decide +kernel
theorem dX3_passNumber_20 : decode cX3_passNumber 20 = .ok (.iload_n 3, 1) := by decide +kernel
theorem dX3_passNumber_21 : decode cX3_passNumber 21 = .ok (.iload_n 1, 1) := by decide +kernel
theorem dX3_passNumber_22 : decode cX3_passNumber 22 = .ok (.if_icmp .lt 8, 3) := by decide +kernel
theorem dX3_passNumber_25 : decode cX3_passNumber 25 = .ok (.iload_n 3, 1) := by decide +kernel
theorem dX3_passNumber_26 : decode cX3_passNumber 26 = .ok (.iload_n 2, 1) := by decide +kernel
theorem dX3_passNumber_27 : decode cX3_passNumber 27 = .ok (.if_icmp .le 10, 3) := by decide +kernel
theorem dX3_passNumber_30 : decode cX3_passNumber 30 = .ok (.aload_n 0, 1) := by decide +kernel
theorem dX3_passNumber_31 : decode cX3_passNumber 31 = .ok (.iconst 3, 1) := by decide +kernel
theorem dX3_passNumber_32 : decode cX3_passNumber 32 = .ok (.invokevirtual 76, 3) := by decide +kernel
theorem dX3_passNumber_35 : decode cX3_passNumber 35 = .ok (.iconst 0, 1) := by decide +kernel
theorem dX3_passNumber_36 : decode cX3_passNumber 36 = .ok (.ireturn, 1) := by decide +kernel
theorem dX3_passNumber_37 : decode cX3_passNumber 37 = .ok (.aload_n 0, 1) := by decide +kernel
theorem dX3_passNumber_38 : decode cX3_passNumber 38 = .ok (.invokevirtual 54, 3) := by decide +kernel
theorem dX3_passNumber_41 : decode cX3_passNumber 41 = .ok (.iload_n 3, 1) := by decide +kernel
theorem dX3_passNumber_42 : decode cX3_passNumber 42 = .ok (.ireturn, 1) := by decide +kernel
theorem dX3_passWordNumber_0 : decode cX3_passWordNumber 0 = .ok (.aload_n 0, 1) := by decide +kernel
theorem dX3_passWordNumber_1 : decode cX3_passWordNumber 1 = .ok (.aload_n 1, 1) := by decide +kernel
theorem dX3_passWordNumber_2 : decode cX3_passWordNumber 2 = .ok (.invokevirtual 99, 3) := by decide +kernel
theorem dX3_passWordNumber_5 : decode cX3_passWordNumber 5 = .ok (.aload_n 0, 1) := by decide +kernel
theorem dX3_passWordNumber_6 : decode cX3_passWordNumber 6 = .ok (.iload_n 2, 1) := by decide +kernel
theorem dX3_passWordNumber_7 : decode cX3_passWordNumber 7 = .ok (.iload_n 3, 1) := by decide +kernel
theorem dX3_passWordNumber_8 : decode cX3_passWordNumber 8 = .ok (.invokevirtual 103, 3) := by decide +kernel
theorem dX3_passWordNumber_11 : decode cX3_passWordNumber 11 = .ok (.ireturn, 1) := by decide +kernel
theorem dX3_readHead_0 : decode cX3_readHead 0 = .ok (.aload_n 0, 1) := by decide +kernel
theorem dX3_readHead_1 : decode cX3_readHead 1 = .ok (.getfield 28, 3) := by decide +kernel
theorem dX3_readHead_4 : decode cX3_readHead 4 = .ok (.aload_n 0, 1) := by decide +kernel
theorem dX3_readHead_5 : decode cX3_readHead 5 = .ok (.ldc 106, 2) := by decide +kernel
theorem dX3_readHead_7 : decode cX3_readHead 7 = .ok (.iconst 1, 1) := by decide +kernel
theorem dX3_readHead_8 : decode cX3_readHead 8 = .ok (.bipush 6, 2) := by decide +kernel
theorem dX3_readHead_10 : decode cX3_readHead 10 = .ok (.invokevirtual 108, 3) := by decide +kernel
theorem dX3_readHead_13 : decode cX3_readHead 13 = .ok (.putfield 112, 3) := by decide +kernel
theorem dX3_readHead_16 : decode cX3_readHead 16 = .ok (.aload_n 0, 1) := by decide +kernel
theorem dX3_readHead_17 : decode cX3_readHead 17 = .ok (.getfield 28, 3) := by decide +kernel
theorem dX3_readHead_20 : decode cX3_readHead 20 = .ok (.aload_n 0, 1) := by decide +kernel
theorem dX3_readHead_21 : decode cX3_readHead 21 = .ok (.ldc 115, 2) := by decide +kernel
theorem dX3_readHead_23 : decode cX3_readHead 23 = .ok (.iconst 0, 1) := by decide +kernel
theorem dX3_readHead_24 : decode cX3_readHead 24 = .ok (.aload_n 0, 1) := by decide +kernel
theorem dX3_readHead_25 : decode cX3_readHead 25 = .ok (.getfield 28, 3) := by decide +kernel
theorem dX3_readHead_28 : decode cX3_readHead 28 = .ok (.getfield 112, 3) := by decide +kernel
theorem dX3_readHead_31 : decode cX3_readHead 31 = .ok (.iconst 1, 1) := by decide +kernel
theorem dX3_readHead_32 : decode cX3_readHead 32 = .ok (.isub, 1) := by decide +kernel
theorem dX3_readHead_33 : decode cX3_readHead 33 = .ok (.invokevirtual 108, 3) := by decide +kernel
theorem dX3_readHead_36 : decode cX3_readHead 36 = .ok (.putfield 117, 3) := by decide +kernel
theorem dX3_readHead_39 : decode cX3_readHead 39 = .ok (.aload_n 0, 1) := by decide +kernel
theorem dX3_readHead_40 : decode cX3_readHead 40 = .ok (.getfield 28, 3) := by decide +kernel
theorem dX3_readHead_43 : decode cX3_readHead 43 = .ok (.getfield 119, 3) := by decide +kernel
theorem dX3_readHead_46 : decode cX3_readHead 46 = .ok (.aload_n 0, 1) := by decide +kernel
theorem dX3_readHead_47 : decode cX3_readHead 47 = .ok (.ldc 122, 2) := by decide +kernel
theorem dX3_readHead_49 : decode cX3_readHead 49 = .ok (.iconst 1, 1) := by decide +kernel
theorem dX3_readHead_50 : decode cX3_readHead 50 = .ok (.bipush 9, 2) := by decide +kernel
theorem dX3_readHead_52 : decode cX3_readHead 52 = .ok (.invokevirtual 108, 3) := by decide +kernel
theorem dX3_readHead_55 : decode cX3_readHead 55 = .ok (.putfield 124, 3) := by decide +kernel
theorem dX3_readHead_58 : decode cX3_readHead 58 = .ok (.aload_n 0, 1) := by decide +kernel
theorem dX3_readHead_59 : decode cX3_readHead 59 = .ok (.invokevirtual 128, 3) := by decide +kernel
theorem dX3_readHead_62 : decode cX3_readHead 62 = .ok (.return_, 1) := by decide +kernel
theorem dX3_endLine_0 : decode cX3_endLine 0 = .ok (.aload_n 0, 1) := by decide +kernel
theorem dX3_endLine_1 : decode cX3_endLine 1 = .ok (.bipush 59, 2) := by decide +kernel
theorem dX3_endLine_3 : decode cX3_endLine 3 = .ok (.invokevirtual 131, 3) := by decide +kernel
theorem dX3_endLine_6 : decode cX3_endLine 6 = .ok (.aload_n 0, 1) := by decide +kernel
theorem dX3_endLine_7 : decode cX3_endLine 7 = .ok (.getfield 28, 3) := by decide +kernel
theorem dX3_endLine_10 : decode cX3_endLine 10 = .ok (.dup, 1) := by decide +kernel
theorem dX3_endLine_11 : decode cX3_endLine 11 = .ok (.getfield 135, 3) := by decide +kernel
theorem dX3_endLine_14 : decode cX3_endLine 14 = .ok (.iconst 1, 1) := by decide +kernel
theorem dX3_endLine_15 : decode cX3_endLine 15 = .ok (.iadd, 1) := by decide +kernel
theorem dX3_endLine_16 : decode cX3_endLine 16 = .ok (.putfield 135, 3) := by decide +kernel
theorem dX3_endLine_19 : decode cX3_endLine 19 = .ok (.return_, 1) := by decide +kernel
theorem dX3_readLine_0 : decode cX3_readLine 0 = .ok (.aload_n 0, 1) := by decide +kernel
theorem dX3_readLine_1 : decode cX3_readLine 1 = .ok (.ldc 138, 2) := by decide +kernel
theorem dX3_readLine_3 : decode cX3_readLine 3 = .ok (.invokevirtual 88, 3) := by decide +kernel
theorem dX3_readLine_6 : decode cX3_readLine 6 = .ok (.ifCond .eq 10, 3) := by decide +kernel
theorem dX3_readLine_9 : decode cX3_readLine 9 = .ok (.aload_n 0, 1) := by decide +kernel
theorem dX3_readLine_10 : decode cX3_readLine 10 = .ok (.invokevirtual 140, 3) := by decide +kernel
theorem dX3_readLine_13 : decode cX3_readLine 13 = .ok (.goto 178, 3) := by decide +kernel
theorem dX3_readLine_16 : decode cX3_readLine 16 = .ok (.aload_n 0, 1) := by decide +kernel
theorem dX3_readLine_17 : decode cX3_readLine 17 = .ok (.ldc 143, 2) := by decide +kernel
theorem dX3_readLine_19 : decode cX3_readLine 19 = .ok (.invokevirtual 88, 3) := by decide +kernel
theorem dX3_readLine_22 : decode cX3_readLine 22 = .ok (.ifCond .eq 10, 3) := by decide +kernel
theorem dX3_readLine_25 : decode cX3_readLine 25 = .ok (.aload_n 0, 1) := by decide +kernel
theorem dX3_readLine_26 : decode cX3_readLine 26 = .ok (.invokevirtual 145, 3) := by decide +kernel
theorem dX3_readLine_29 : decode cX3_readLine 29 = .ok (.goto 162, 3) := by decide +kernel
theorem dX3_readLine_32 : decode cX3_readLine 32 = .ok (.aload_n 0, 1) := by decide +kernel
theorem dX3_readLine_33 : decode cX3_readLine 33 = .ok (.ldc 148, 2) := by decide +kernel
theorem dX3_readLine_35 : decode cX3_readLine 35 = .ok (.invokevirtual 88, 3) := by decide +kernel
theorem dX3_readLine_38 : decode cX3_readLine 38 = .ok (.ifCond .ne 12, 3) := by decide +kernel
theorem dX3_readLine_41 : decode cX3_readLine 41 = .ok (.aload_n 0, 1) := by decide +kernel
theorem dX3_readLine_42 : decode cX3_readLine 42 = .ok (.ldc 150, 2) := by decide +kernel
theorem dX3_readLine_44 : decode cX3_readLine 44 = .ok (.invokevirtual 88, 3) := by decide +kernel
theorem dX3_readLine_47 : decode cX3_readLine 47 = .ok (.ifCond .eq 16, 3) := by decide +kernel
theorem dX3_readLine_50 : decode cX3_readLine 50 = .ok (.aload_n 0, 1) := by decide +kernel
theorem dX3_readLine_51 : decode cX3_readLine 51 = .ok (.aload_n 0, 1) := by decide +kernel
theorem dX3_readLine_52 : decode cX3_readLine 52 = .ok (.ldc 148, 2) := by decide +kernel
theorem dX3_readLine_54 : decode cX3_readLine 54 = .ok (.invokevirtual 88, 3) := by decide +kernel
theorem dX3_readLine_57 : decode cX3_readLine 57 = .ok (.invokevirtual 152, 3) := by decide +kernel
theorem dX3_readLine_60 : decode cX3_readLine 60 = .ok (.goto 131, 3) := by decide +kernel
theorem dX3_readLine_63 : decode cX3_readLine 63 = .ok (.aload_n 0, 1) := by decide +kernel
theorem dX3_readLine_64 : decode cX3_readLine 64 = .ok (.ldc 156, 2) := by decide +kernel
theorem dX3_readLine_66 : decode cX3_readLine 66 = .ok (.invokevirtual 88, 3) := by decide +kernel
theorem dX3_readLine_69 : decode cX3_readLine 69 = .ok (.ifCond .eq 38, 3) := by decide +kernel
theorem dX3_readLine_72 : decode cX3_readLine 72 = .ok (.aload_n 0, 1) := by decide +kernel
theorem dX3_readLine_73 : decode cX3_readLine 73 = .ok (.getfield 28, 3) := by decide +kernel
theorem dX3_readLine_76 : decode cX3_readLine 76 = .ok (.aload_n 0, 1) := by decide +kernel
theorem dX3_readLine_77 : decode cX3_readLine 77 = .ok (.ldc 156, 2) := by decide +kernel
theorem dX3_readLine_79 : decode cX3_readLine 79 = .ok (.iconst 0, 1) := by decide +kernel
theorem dX3_readLine_80 : decode cX3_readLine 80 = .ok (.bipush 10, 2) := by decide +kernel
theorem dX3_readLine_82 : decode cX3_readLine 82 = .ok (.invokevirtual 108, 3) := by decide +kernel
theorem dX3_readLine_85 : decode cX3_readLine 85 = .ok (.putfield 158, 3) := by decide +kernel
theorem dX3_readLine_88 : decode cX3_readLine 88 = .ok (.aload_n 0, 1) := by decide +kernel
theorem dX3_readLine_89 : decode cX3_readLine 89 = .ok (.getfield 28, 3) := by decide +kernel
theorem dX3_readLine_92 : decode cX3_readLine 92 = .ok (.aload_n 0, 1) := by decide +kernel
theorem dX3_readLine_93 : decode cX3_readLine 93 = .ok (.ldc 161, 2) := by decide +kernel
theorem dX3_readLine_95 : decode cX3_readLine 95 = .ok (.iconst 0, 1) := by decide +kernel
theorem dX3_readLine_96 : decode cX3_readLine 96 = .ok (.bipush 9, 2) := by decide +kernel
theorem dX3_readLine_98 : decode cX3_readLine 98 = .ok (.invokevirtual 108, 3) := by decide +kernel
theorem dX3_readLine_101 : decode cX3_readLine 101 = .ok (.putfield 163, 3) := by decide +kernel
theorem dX3_readLine_104 : decode cX3_readLine 104 = .ok (.goto 87, 3) := by decide +kernel
theorem dX3_readLine_107 : decode cX3_readLine 107 = .ok (.aload_n 0, 1) := by decide +kernel
theorem dX3_readLine_108 : decode cX3_readLine 108 = .ok (.ldc 166, 2) := by decide +kernel
theorem dX3_readLine_110 : decode cX3_readLine 110 = .ok (.invokevirtual 88, 3) := by decide +kernel
theorem dX3_readLine_113 : decode cX3_readLine 113 = .ok (.ifCond .eq 25, 3) := by decide +kernel

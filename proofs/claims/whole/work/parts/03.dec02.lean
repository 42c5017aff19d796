theorem dX3_readLine_116 : decode cX3_readLine 116 = .ok (.aload_n 0, 1) := by decide +kernel
theorem dX3_readLine_117 : decode cX3_readLine 117 = .ok (.getfield 28, 3) := by decide +kernel
theorem dX3_readLine_120 : decode cX3_readLine 120 = .ok (.getfield 119, 3) := by decide +kernel
theorem dX3_readLine_123 : decode cX3_readLine 123 = .ok (.aload_n 0, 1) := by decide +kernel
theorem dX3_readLine_124 : decode cX3_readLine 124 = .ok (.ldc 166, 2) := by decide +kernel
theorem dX3_readLine_126 : decode cX3_readLine 126 = .ok (.iconst 0, 1) := by decide +kernel
theorem dX3_readLine_127 : decode cX3_readLine 127 = .ok (.bipush 9, 2) := by decide +kernel
theorem dX3_readLine_129 : decode cX3_readLine 129 = .ok (.invokevirtual 108, 3) := by decide +kernel
theorem dX3_readLine_132 : decode cX3_readLine 132 = .ok (.putfield 168, 3) := by decide +kernel
theorem dX3_readLine_135 : decode cX3_readLine 135 = .ok (.goto 56, 3) := by decide +kernel
theorem dX3_readLine_138 : decode cX3_readLine 138 = .ok (.aload_n 0, 1) := by decide +kernel
theorem dX3_readLine_139 : decode cX3_readLine 139 = .ok (.ldc 161, 2) := by decide +kernel
theorem dX3_readLine_141 : decode cX3_readLine 141 = .ok (.invokevirtual 88, 3) := by decide +kernel
theorem dX3_readLine_144 : decode cX3_readLine 144 = .ok (.ifCond .eq 18, 3) := by decide +kernel
theorem dX3_readLine_147 : decode cX3_readLine 147 = .ok (.aload_n 0, 1) := by decide +kernel
theorem dX3_readLine_148 : decode cX3_readLine 148 = .ok (.getfield 28, 3) := by decide +kernel
theorem dX3_readLine_151 : decode cX3_readLine 151 = .ok (.aload_n 0, 1) := by decide +kernel
theorem dX3_readLine_152 : decode cX3_readLine 152 = .ok (.iconst 1, 1) := by decide +kernel
theorem dX3_readLine_153 : decode cX3_readLine 153 = .ok (.invokevirtual 170, 3) := by decide +kernel
theorem dX3_readLine_156 : decode cX3_readLine 156 = .ok (.putfield 174, 3) := by decide +kernel
theorem dX3_readLine_159 : decode cX3_readLine 159 = .ok (.goto 32, 3) := by decide +kernel
theorem dX3_readLine_162 : decode cX3_readLine 162 = .ok (.aload_n 0, 1) := by decide +kernel
theorem dX3_readLine_163 : decode cX3_readLine 163 = .ok (.ldc 177, 2) := by decide +kernel
theorem dX3_readLine_165 : decode cX3_readLine 165 = .ok (.invokevirtual 88, 3) := by decide +kernel
theorem dX3_readLine_168 : decode cX3_readLine 168 = .ok (.ifCond .eq 18, 3) := by decide +kernel
theorem dX3_readLine_171 : decode cX3_readLine 171 = .ok (.aload_n 0, 1) := by decide +kernel
theorem dX3_readLine_172 : decode cX3_readLine 172 = .ok (.getfield 28, 3) := by decide +kernel
theorem dX3_readLine_175 : decode cX3_readLine 175 = .ok (.aload_n 0, 1) := by decide +kernel
theorem dX3_readLine_176 : decode cX3_readLine 176 = .ok (.iconst 0, 1) := by decide +kernel
theorem dX3_readLine_177 : decode cX3_readLine 177 = .ok (.invokevirtual 170, 3) := by decide +kernel
theorem dX3_readLine_180 : decode cX3_readLine 180 = .ok (.putfield 179, 3) := by decide +kernel
theorem dX3_readLine_183 : decode cX3_readLine 183 = .ok (.goto 8, 3) := by decide +kernel
theorem dX3_readLine_186 : decode cX3_readLine 186 = .ok (.aload_n 0, 1) := by decide +kernel
theorem dX3_readLine_187 : decode cX3_readLine 187 = .ok (.iconst 2, 1) := by decide +kernel
theorem dX3_readLine_188 : decode cX3_readLine 188 = .ok (.invokevirtual 76, 3) := by decide +kernel
theorem dX3_readLine_191 : decode cX3_readLine 191 = .ok (.aload_n 0, 1) := by decide +kernel
theorem dX3_readLine_192 : decode cX3_readLine 192 = .ok (.invokevirtual 128, 3) := by decide +kernel
theorem dX3_readLine_195 : decode cX3_readLine 195 = .ok (.return_, 1) := by decide +kernel
theorem dX3_readGoer_0 : decode cX3_readGoer 0 = .ok (.aload_n 0, 1) := by decide +kernel
theorem dX3_readGoer_1 : decode cX3_readGoer 1 = .ok (.getfield 28, 3) := by decide +kernel
theorem dX3_readGoer_4 : decode cX3_readGoer 4 = .ok (.getfield 182, 3) := by decide +kernel
theorem dX3_readGoer_7 : decode cX3_readGoer 7 = .ok (.iconst 4, 1) := by decide +kernel
theorem dX3_readGoer_8 : decode cX3_readGoer 8 = .ok (.if_icmp .lt 9, 3) := by decide +kernel
theorem dX3_readGoer_11 : decode cX3_readGoer 11 = .ok (.aload_n 0, 1) := by decide +kernel
theorem dX3_readGoer_12 : decode cX3_readGoer 12 = .ok (.iconst 4, 1) := by decide +kernel
theorem dX3_readGoer_13 : decode cX3_readGoer 13 = .ok (.invokevirtual 76, 3) := by decide +kernel
theorem dX3_readGoer_16 : decode cX3_readGoer 16 = .ok (.return_, 1) := by decide +kernel
theorem dX3_readGoer_17 : decode cX3_readGoer 17 = .ok (.aload_n 0, 1) := by decide +kernel
theorem dX3_readGoer_18 : decode cX3_readGoer 18 = .ok (.invokevirtual 54, 3) := by decide +kernel
theorem dX3_readGoer_21 : decode cX3_readGoer 21 = .ok (.aload_n 0, 1) := by decide +kernel
theorem dX3_readGoer_22 : decode cX3_readGoer 22 = .ok (.ldc 185, 2) := by decide +kernel
theorem dX3_readGoer_24 : decode cX3_readGoer 24 = .ok (.iconst 0, 1) := by decide +kernel
theorem dX3_readGoer_25 : decode cX3_readGoer 25 = .ok (.bipush 9, 2) := by decide +kernel
theorem dX3_readGoer_27 : decode cX3_readGoer 27 = .ok (.invokevirtual 108, 3) := by decide +kernel
theorem dX3_readGoer_30 : decode cX3_readGoer 30 = .ok (.istore_n 1, 1) := by decide +kernel
theorem dX3_readGoer_31 : decode cX3_readGoer 31 = .ok (.iconst 0, 1) := by decide +kernel
theorem dX3_readGoer_32 : decode cX3_readGoer 32 = .ok (.istore_n 2, 1) := by decide +kernel
theorem dX3_readGoer_33 : decode cX3_readGoer 33 = .ok (.iconst 0, 1) := by decide +kernel
theorem dX3_readGoer_34 : decode cX3_readGoer 34 = .ok (.istore_n 3, 1) := by decide +kernel
theorem dX3_readGoer_35 : decode cX3_readGoer 35 = .ok (.iconst 0, 1) := by decide +kernel
theorem dX3_readGoer_36 : decode cX3_readGoer 36 = .ok (.istore 4, 2) := by decide +kernel
theorem dX3_readGoer_38 : decode cX3_readGoer 38 = .ok (.iload 4, 2) := by decide +kernel
theorem dX3_readGoer_40 : decode cX3_readGoer 40 = .ok (.sipush 900, 3) := by decide +kernel
theorem dX3_readGoer_43 : decode cX3_readGoer 43 = .ok (.if_icmp .ge 64, 3) := by decide +kernel
theorem dX3_readGoer_46 : decode cX3_readGoer 46 = .ok (.aload_n 0, 1) := by decide +kernel
theorem dX3_readGoer_47 : decode cX3_readGoer 47 = .ok (.ldc 187, 2) := by decide +kernel
theorem dX3_readGoer_49 : decode cX3_readGoer 49 = .ok (.invokevirtual 88, 3) := by decide +kernel
theorem dX3_readGoer_52 : decode cX3_readGoer 52 = .ok (.ifCond .ne 12, 3) := by decide +kernel
theorem dX3_readGoer_55 : decode cX3_readGoer 55 = .ok (.aload_n 0, 1) := by decide +kernel
theorem dX3_readGoer_56 : decode cX3_readGoer 56 = .ok (.ldc 189, 2) := by decide +kernel
theorem dX3_readGoer_58 : decode cX3_readGoer 58 = .ok (.invokevirtual 88, 3) := by decide +kernel
theorem dX3_readGoer_61 : decode cX3_readGoer 61 = .ok (.ifCond .eq 46, 3) := by decide +kernel
theorem dX3_readGoer_64 : decode cX3_readGoer 64 = .ok (.aload_n 0, 1) := by decide +kernel
theorem dX3_readGoer_65 : decode cX3_readGoer 65 = .ok (.ldc 187, 2) := by decide +kernel
theorem dX3_readGoer_67 : decode cX3_readGoer 67 = .ok (.invokevirtual 88, 3) := by decide +kernel
theorem dX3_readGoer_70 : decode cX3_readGoer 70 = .ok (.ifCond .eq 21, 3) := by decide +kernel
theorem dX3_readGoer_73 : decode cX3_readGoer 73 = .ok (.aload_n 0, 1) := by decide +kernel
theorem dX3_readGoer_74 : decode cX3_readGoer 74 = .ok (.ldc 187, 2) := by decide +kernel
theorem dX3_readGoer_76 : decode cX3_readGoer 76 = .ok (.iconst 0, 1) := by decide +kernel
theorem dX3_readGoer_77 : decode cX3_readGoer 77 = .ok (.aload_n 0, 1) := by decide +kernel
theorem dX3_readGoer_78 : decode cX3_readGoer 78 = .ok (.getfield 28, 3) := by decide +kernel
theorem dX3_readGoer_81 : decode cX3_readGoer 81 = .ok (.getfield 112, 3) := by decide +kernel
theorem dX3_readGoer_84 : decode cX3_readGoer 84 = .ok (.invokevirtual 108, 3) := by decide +kernel
theorem dX3_readGoer_87 : decode cX3_readGoer 87 = .ok (.istore_n 2, 1) := by decide +kernel
theorem dX3_readGoer_88 : decode cX3_readGoer 88 = .ok (.goto 13, 3) := by decide +kernel
theorem dX3_readGoer_91 : decode cX3_readGoer 91 = .ok (.aload_n 0, 1) := by decide +kernel
theorem dX3_readGoer_92 : decode cX3_readGoer 92 = .ok (.ldc 189, 2) := by decide +kernel
theorem dX3_readGoer_94 : decode cX3_readGoer 94 = .ok (.iconst 0, 1) := by decide +kernel
theorem dX3_readGoer_95 : decode cX3_readGoer 95 = .ok (.bipush 9, 2) := by decide +kernel
theorem dX3_readGoer_97 : decode cX3_readGoer 97 = .ok (.invokevirtual 108, 3) := by decide +kernel
theorem dX3_readGoer_100 : decode cX3_readGoer 100 = .ok (.istore_n 3, 1) := by decide +kernel
theorem dX3_readGoer_101 : decode cX3_readGoer 101 = .ok (.iinc 4 1, 3) := by decide +kernel
theorem dX3_readGoer_104 : decode cX3_readGoer 104 = .ok (.goto (-66), 3) := by decide +kernel
theorem dX3_readGoer_107 : decode cX3_readGoer 107 = .ok (.aload_n 0, 1) := by decide +kernel
theorem dX3_readGoer_108 : decode cX3_readGoer 108 = .ok (.getfield 28, 3) := by decide +kernel
theorem dX3_readGoer_111 : decode cX3_readGoer 111 = .ok (.getfield 191, 3) := by decide +kernel
theorem dX3_readGoer_114 : decode cX3_readGoer 114 = .ok (.aload_n 0, 1) := by decide +kernel
theorem dX3_readGoer_115 : decode cX3_readGoer 115 = .ok (.getfield 28, 3) := by decide +kernel
theorem dX3_readGoer_118 : decode cX3_readGoer 118 = .ok (.getfield 182, 3) := by decide +kernel
theorem dX3_readGoer_121 : decode cX3_readGoer 121 = .ok (.iload_n 1, 1) := by decide +kernel
theorem dX3_readGoer_122 : decode cX3_readGoer 122 = .ok (.iastore, 1) := by decide +kernel
theorem dX3_readGoer_123 : decode cX3_readGoer 123 = .ok (.aload_n 0, 1) := by decide +kernel
theorem dX3_readGoer_124 : decode cX3_readGoer 124 = .ok (.getfield 28, 3) := by decide +kernel
theorem dX3_readGoer_127 : decode cX3_readGoer 127 = .ok (.getfield 193, 3) := by decide +kernel
theorem dX3_readGoer_130 : decode cX3_readGoer 130 = .ok (.aload_n 0, 1) := by decide +kernel
theorem dX3_readGoer_131 : decode cX3_readGoer 131 = .ok (.getfield 28, 3) := by decide +kernel
theorem dX3_readGoer_134 : decode cX3_readGoer 134 = .ok (.getfield 182, 3) := by decide +kernel
theorem dX3_readGoer_137 : decode cX3_readGoer 137 = .ok (.iload_n 3, 1) := by decide +kernel
theorem dX3_readGoer_138 : decode cX3_readGoer 138 = .ok (.iastore, 1) := by decide +kernel
theorem dX3_readGoer_139 : decode cX3_readGoer 139 = .ok (.aload_n 0, 1) := by decide +kernel
theorem dX3_readGoer_140 : decode cX3_readGoer 140 = .ok (.getfield 28, 3) := by decide +kernel
theorem dX3_readGoer_143 : decode cX3_readGoer 143 = .ok (.getfield 119, 3) := by decide +kernel
theorem dX3_readGoer_146 : decode cX3_readGoer 146 = .ok (.dup, 1) := by decide +kernel
theorem dX3_readGoer_147 : decode cX3_readGoer 147 = .ok (.getfield 195, 3) := by decide +kernel
theorem dX3_readGoer_150 : decode cX3_readGoer 150 = .ok (.iload_n 2, 1) := by decide +kernel
theorem dX3_readGoer_151 : decode cX3_readGoer 151 = .ok (.getstatic 198, 3) := by decide +kernel
theorem dX3_readGoer_154 : decode cX3_readGoer 154 = .ok (.aload_n 0, 1) := by decide +kernel
theorem dX3_readGoer_155 : decode cX3_readGoer 155 = .ok (.getfield 28, 3) := by decide +kernel
theorem dX3_readGoer_158 : decode cX3_readGoer 158 = .ok (.getfield 182, 3) := by decide +kernel
theorem dX3_readGoer_161 : decode cX3_readGoer 161 = .ok (.iaload, 1) := by decide +kernel
theorem dX3_readGoer_162 : decode cX3_readGoer 162 = .ok (.imul, 1) := by decide +kernel
theorem dX3_readGoer_163 : decode cX3_readGoer 163 = .ok (.iadd, 1) := by decide +kernel
theorem dX3_readGoer_164 : decode cX3_readGoer 164 = .ok (.putfield 195, 3) := by decide +kernel
theorem dX3_readGoer_167 : decode cX3_readGoer 167 = .ok (.aload_n 0, 1) := by decide +kernel
theorem dX3_readGoer_168 : decode cX3_readGoer 168 = .ok (.getfield 28, 3) := by decide +kernel
theorem dX3_readGoer_171 : decode cX3_readGoer 171 = .ok (.dup, 1) := by decide +kernel
theorem dX3_readGoer_172 : decode cX3_readGoer 172 = .ok (.getfield 182, 3) := by decide +kernel
theorem dX3_readGoer_175 : decode cX3_readGoer 175 = .ok (.iconst 1, 1) := by decide +kernel
theorem dX3_readGoer_176 : decode cX3_readGoer 176 = .ok (.iadd, 1) := by decide +kernel
theorem dX3_readGoer_177 : decode cX3_readGoer 177 = .ok (.putfield 182, 3) := by decide +kernel
theorem dX3_readGoer_180 : decode cX3_readGoer 180 = .ok (.return_, 1) := by decide +kernel
theorem dX3_readPeople_0 : decode cX3_readPeople 0 = .ok (.aload_n 0, 1) := by decide +kernel
theorem dX3_readPeople_1 : decode cX3_readPeople 1 = .ok (.getfield 50, 3) := by decide +kernel
theorem dX3_readPeople_4 : decode cX3_readPeople 4 = .ok (.ifCond .eq 9, 3) := by decide +kernel
theorem dX3_readPeople_7 : decode cX3_readPeople 7 = .ok (.aload_n 0, 1) := by decide +kernel
theorem dX3_readPeople_8 : decode cX3_readPeople 8 = .ok (.iconst 2, 1) := by decide +kernel
theorem dX3_readPeople_9 : decode cX3_readPeople 9 = .ok (.invokevirtual 76, 3) := by decide +kernel
theorem dX3_readPeople_12 : decode cX3_readPeople 12 = .ok (.return_, 1) := by decide +kernel
theorem dX3_readPeople_13 : decode cX3_readPeople 13 = .ok (.aload_n 0, 1) := by decide +kernel
theorem dX3_readPeople_14 : decode cX3_readPeople 14 = .ok (.iconst 1, 1) := by decide +kernel
theorem dX3_readPeople_15 : decode cX3_readPeople 15 = .ok (.putfield 50, 3) := by decide +kernel
theorem dX3_readPeople_18 : decode cX3_readPeople 18 = .ok (.aload_n 0, 1) := by decide +kernel
theorem dX3_readPeople_19 : decode cX3_readPeople 19 = .ok (.getfield 28, 3) := by decide +kernel
theorem dX3_readPeople_22 : decode cX3_readPeople 22 = .ok (.aload_n 0, 1) := by decide +kernel
theorem dX3_readPeople_23 : decode cX3_readPeople 23 = .ok (.ldc 143, 2) := by decide +kernel
theorem dX3_readPeople_25 : decode cX3_readPeople 25 = .ok (.iconst 0, 1) := by decide +kernel
theorem dX3_readPeople_26 : decode cX3_readPeople 26 = .ok (.bipush 8, 2) := by decide +kernel
theorem dX3_readPeople_28 : decode cX3_readPeople 28 = .ok (.invokevirtual 108, 3) := by decide +kernel
theorem dX3_readPeople_31 : decode cX3_readPeople 31 = .ok (.putfield 201, 3) := by decide +kernel
theorem dX3_readPeople_34 : decode cX3_readPeople 34 = .ok (.return_, 1) := by decide +kernel
theorem dX3_readHint_0 : decode cX3_readHint 0 = .ok (.aload_n 0, 1) := by decide +kernel
theorem dX3_readHint_1 : decode cX3_readHint 1 = .ok (.invokevirtual 54, 3) := by decide +kernel
theorem dX3_readHint_4 : decode cX3_readHint 4 = .ok (.aload_n 0, 1) := by decide +kernel
theorem dX3_readHint_5 : decode cX3_readHint 5 = .ok (.iconst 0, 1) := by decide +kernel
theorem dX3_readHint_6 : decode cX3_readHint 6 = .ok (.aload_n 0, 1) := by decide +kernel
theorem dX3_readHint_7 : decode cX3_readHint 7 = .ok (.getfield 28, 3) := by decide +kernel
theorem dX3_readHint_10 : decode cX3_readHint 10 = .ok (.getfield 201, 3) := by decide +kernel
theorem dX3_readHint_13 : decode cX3_readHint 13 = .ok (.iconst 1, 1) := by decide +kernel
theorem dX3_readHint_14 : decode cX3_readHint 14 = .ok (.isub, 1) := by decide +kernel
theorem dX3_readHint_15 : decode cX3_readHint 15 = .ok (.invokevirtual 103, 3) := by decide +kernel
theorem dX3_readHint_18 : decode cX3_readHint 18 = .ok (.istore_n 2, 1) := by decide +kernel
theorem dX3_readHint_19 : decode cX3_readHint 19 = .ok (.aload_n 0, 1) := by decide +kernel
theorem dX3_readHint_20 : decode cX3_readHint 20 = .ok (.getfield 60, 3) := by decide +kernel
theorem dX3_readHint_23 : decode cX3_readHint 23 = .ok (.iconst 2, 1) := by decide +kernel
theorem dX3_readHint_24 : decode cX3_readHint 24 = .ok (.if_icmp .ne 16, 3) := by decide +kernel
theorem dX3_readHint_27 : decode cX3_readHint 27 = .ok (.aload_n 0, 1) := by decide +kernel
theorem dX3_readHint_28 : decode cX3_readHint 28 = .ok (.invokevirtual 96, 3) := by decide +kernel
theorem dX3_readHint_31 : decode cX3_readHint 31 = .ok (.iload_n 2, 1) := by decide +kernel
theorem dX3_readHint_32 : decode cX3_readHint 32 = .ok (.if_icmp .ne 8, 3) := by decide +kernel
theorem dX3_readHint_35 : decode cX3_readHint 35 = .ok (.aload_n 0, 1) := by decide +kernel
theorem dX3_readHint_36 : decode cX3_readHint 36 = .ok (.iconst 3, 1) := by decide +kernel
theorem dX3_readHint_37 : decode cX3_readHint 37 = .ok (.invokevirtual 76, 3) := by decide +kernel
theorem dX3_readHint_40 : decode cX3_readHint 40 = .ok (.aload_n 0, 1) := by decide +kernel
theorem dX3_readHint_41 : decode cX3_readHint 41 = .ok (.iconst 0, 1) := by decide +kernel
theorem dX3_readHint_42 : decode cX3_readHint 42 = .ok (.aload_n 0, 1) := by decide +kernel
theorem dX3_readHint_43 : decode cX3_readHint 43 = .ok (.getfield 28, 3) := by decide +kernel
theorem dX3_readHint_46 : decode cX3_readHint 46 = .ok (.getfield 201, 3) := by decide +kernel
theorem dX3_readHint_49 : decode cX3_readHint 49 = .ok (.iconst 1, 1) := by decide +kernel
theorem dX3_readHint_50 : decode cX3_readHint 50 = .ok (.isub, 1) := by decide +kernel
theorem dX3_readHint_51 : decode cX3_readHint 51 = .ok (.invokevirtual 103, 3) := by decide +kernel
theorem dX3_readHint_54 : decode cX3_readHint 54 = .ok (.istore_n 3, 1) := by decide +kernel
theorem dX3_readHint_55 : decode cX3_readHint 55 = .ok (.aload_n 0, 1) := by decide +kernel
theorem dX3_readHint_56 : decode cX3_readHint 56 = .ok (.getfield 44, 3) := by decide +kernel
theorem dX3_readHint_59 : decode cX3_readHint 59 = .ok (.ifCond .ne 16, 3) := by decide +kernel
theorem dX3_readHint_62 : decode cX3_readHint 62 = .ok (.aload_n 0, 1) := by decide +kernel
theorem dX3_readHint_63 : decode cX3_readHint 63 = .ok (.getfield 28, 3) := by decide +kernel
theorem dX3_readHint_66 : decode cX3_readHint 66 = .ok (.getfield 119, 3) := by decide +kernel
theorem dX3_readHint_69 : decode cX3_readHint 69 = .ok (.iload_n 2, 1) := by decide +kernel
theorem dX3_readHint_70 : decode cX3_readHint 70 = .ok (.iload_n 3, 1) := by decide +kernel
theorem dX3_readHint_71 : decode cX3_readHint 71 = .ok (.iload_n 1, 1) := by decide +kernel
theorem dX3_readHint_72 : decode cX3_readHint 72 = .ok (.invokevirtual 203, 3) := by decide +kernel
theorem dX3_readHint_75 : decode cX3_readHint 75 = .ok (.return_, 1) := by decide +kernel
theorem dX3_readLaw_0 : decode cX3_readLaw 0 = .ok (.aload_n 0, 1) := by decide +kernel
theorem dX3_readLaw_1 : decode cX3_readLaw 1 = .ok (.invokevirtual 54, 3) := by decide +kernel
theorem dX3_readLaw_4 : decode cX3_readLaw 4 = .ok (.aload_n 0, 1) := by decide +kernel
theorem dX3_readLaw_5 : decode cX3_readLaw 5 = .ok (.bipush 58, 2) := by decide +kernel
theorem dX3_readLaw_7 : decode cX3_readLaw 7 = .ok (.invokevirtual 131, 3) := by decide +kernel
theorem dX3_readLaw_10 : decode cX3_readLaw 10 = .ok (.aload_n 0, 1) := by decide +kernel
theorem dX3_readLaw_11 : decode cX3_readLaw 11 = .ok (.iload_n 1, 1) := by decide +kernel
theorem dX3_readLaw_12 : decode cX3_readLaw 12 = .ok (.putfield 207, 3) := by decide +kernel
theorem dX3_readLaw_15 : decode cX3_readLaw 15 = .ok (.aload_n 0, 1) := by decide +kernel
theorem dX3_readLaw_16 : decode cX3_readLaw 16 = .ok (.iconst 0, 1) := by decide +kernel
theorem dX3_readLaw_17 : decode cX3_readLaw 17 = .ok (.putfield 210, 3) := by decide +kernel
theorem dX3_readLaw_20 : decode cX3_readLaw 20 = .ok (.aload_n 0, 1) := by decide +kernel
theorem dX3_readLaw_21 : decode cX3_readLaw 21 = .ok (.iconst 0, 1) := by decide +kernel
theorem dX3_readLaw_22 : decode cX3_readLaw 22 = .ok (.putfield 213, 3) := by decide +kernel
theorem dX3_readLaw_25 : decode cX3_readLaw 25 = .ok (.aload_n 0, 1) := by decide +kernel
theorem dX3_readLaw_26 : decode cX3_readLaw 26 = .ok (.invokevirtual 216, 3) := by decide +kernel
theorem dX3_readLaw_29 : decode cX3_readLaw 29 = .ok (.aload_n 0, 1) := by decide +kernel
theorem dX3_readLaw_30 : decode cX3_readLaw 30 = .ok (.getfield 19, 3) := by decide +kernel
theorem dX3_readLaw_33 : decode cX3_readLaw 33 = .ok (.aload_n 0, 1) := by decide +kernel
theorem dX3_readLaw_34 : decode cX3_readLaw 34 = .ok (.getfield 213, 3) := by decide +kernel
theorem dX3_readLaw_37 : decode cX3_readLaw 37 = .ok (.invokestatic 219, 3) := by decide +kernel
theorem dX3_readLaw_40 : decode cX3_readLaw 40 = .ok (.areturn, 1) := by decide +kernel
theorem dX3_emit_0 : decode cX3_emit 0 = .ok (.aload_n 0, 1) := by decide +kernel
theorem dX3_emit_1 : decode cX3_emit 1 = .ok (.getfield 213, 3) := by decide +kernel
theorem dX3_emit_4 : decode cX3_emit 4 = .ok (.aload_n 0, 1) := by decide +kernel
theorem dX3_emit_5 : decode cX3_emit 5 = .ok (.getfield 19, 3) := by decide +kernel
theorem dX3_emit_8 : decode cX3_emit 8 = .ok (.arraylength, 1) := by decide +kernel
theorem dX3_emit_9 : decode cX3_emit 9 = .ok (.if_icmp .ge 23, 3) := by decide +kernel
theorem dX3_emit_12 : decode cX3_emit 12 = .ok (.aload_n 0, 1) := by decide +kernel
theorem dX3_emit_13 : decode cX3_emit 13 = .ok (.getfield 19, 3) := by decide +kernel
theorem dX3_emit_16 : decode cX3_emit 16 = .ok (.aload_n 0, 1) := by decide +kernel
theorem dX3_emit_17 : decode cX3_emit 17 = .ok (.getfield 213, 3) := by decide +kernel
theorem dX3_emit_20 : decode cX3_emit 20 = .ok (.iload_n 1, 1) := by decide +kernel
theorem dX3_emit_21 : decode cX3_emit 21 = .ok (.iastore, 1) := by decide +kernel
theorem dX3_emit_22 : decode cX3_emit 22 = .ok (.aload_n 0, 1) := by decide +kernel
theorem dX3_emit_23 : decode cX3_emit 23 = .ok (.dup, 1) := by decide +kernel
theorem dX3_emit_24 : decode cX3_emit 24 = .ok (.getfield 213, 3) := by decide +kernel
theorem dX3_emit_27 : decode cX3_emit 27 = .ok (.iconst 1, 1) := by decide +kernel
theorem dX3_emit_28 : decode cX3_emit 28 = .ok (.iadd, 1) := by decide +kernel
theorem dX3_emit_29 : decode cX3_emit 29 = .ok (.putfield 213, 3) := by decide +kernel
theorem dX3_emit_32 : decode cX3_emit 32 = .ok (.return_, 1) := by decide +kernel
theorem dX3_enter_0 : decode cX3_enter 0 = .ok (.aload_n 0, 1) := by decide +kernel
theorem dX3_enter_1 : decode cX3_enter 1 = .ok (.getfield 210, 3) := by decide +kernel
theorem dX3_enter_4 : decode cX3_enter 4 = .ok (.bipush 6, 2) := by decide +kernel
theorem dX3_enter_6 : decode cX3_enter 6 = .ok (.if_icmp .lt 10, 3) := by decide +kernel
theorem dX3_enter_9 : decode cX3_enter 9 = .ok (.aload_n 0, 1) := by decide +kernel
theorem dX3_enter_10 : decode cX3_enter 10 = .ok (.iconst 4, 1) := by decide +kernel
theorem dX3_enter_11 : decode cX3_enter 11 = .ok (.invokevirtual 76, 3) := by decide +kernel
theorem dX3_enter_14 : decode cX3_enter 14 = .ok (.iconst 0, 1) := by decide +kernel
theorem dX3_enter_15 : decode cX3_enter 15 = .ok (.ireturn, 1) := by decide +kernel
theorem dX3_enter_16 : decode cX3_enter 16 = .ok (.aload_n 0, 1) := by decide +kernel
theorem dX3_enter_17 : decode cX3_enter 17 = .ok (.dup, 1) := by decide +kernel
theorem dX3_enter_18 : decode cX3_enter 18 = .ok (.getfield 210, 3) := by decide +kernel
theorem dX3_enter_21 : decode cX3_enter 21 = .ok (.iconst 1, 1) := by decide +kernel
theorem dX3_enter_22 : decode cX3_enter 22 = .ok (.iadd, 1) := by decide +kernel
theorem dX3_enter_23 : decode cX3_enter 23 = .ok (.putfield 210, 3) := by decide +kernel
theorem dX3_enter_26 : decode cX3_enter 26 = .ok (.aload_n 0, 1) := by decide +kernel
theorem dX3_enter_27 : decode cX3_enter 27 = .ok (.invokevirtual 54, 3) := by decide +kernel
theorem dX3_enter_30 : decode cX3_enter 30 = .ok (.iconst 1, 1) := by decide +kernel
theorem dX3_enter_31 : decode cX3_enter 31 = .ok (.ireturn, 1) := by decide +kernel
theorem dX3_readSum_0 : decode cX3_readSum 0 = .ok (.aload_n 0, 1) := by decide +kernel
theorem dX3_readSum_1 : decode cX3_readSum 1 = .ok (.invokevirtual 225, 3) := by decide +kernel
theorem dX3_readSum_4 : decode cX3_readSum 4 = .ok (.iconst 0, 1) := by decide +kernel
theorem dX3_readSum_5 : decode cX3_readSum 5 = .ok (.istore_n 1, 1) := by decide +kernel
theorem dX3_readSum_6 : decode cX3_readSum 6 = .ok (.iload_n 1, 1) := by decide +kernel
theorem dX3_readSum_7 : decode cX3_readSum 7 = .ok (.sipush 900, 3) := by decide +kernel
theorem dX3_readSum_10 : decode cX3_readSum 10 = .ok (.if_icmp .ge 57, 3) := by decide +kernel
theorem dX3_readSum_13 : decode cX3_readSum 13 = .ok (.aload_n 0, 1) := by decide +kernel
theorem dX3_readSum_14 : decode cX3_readSum 14 = .ok (.bipush 43, 2) := by decide +kernel
theorem dX3_readSum_16 : decode cX3_readSum 16 = .ok (.invokevirtual 92, 3) := by decide +kernel
theorem dX3_readSum_19 : decode cX3_readSum 19 = .ok (.ifCond .ne 12, 3) := by decide +kernel
theorem dX3_readSum_22 : decode cX3_readSum 22 = .ok (.aload_n 0, 1) := by decide +kernel
theorem dX3_readSum_23 : decode cX3_readSum 23 = .ok (.bipush 45, 2) := by decide +kernel
theorem dX3_readSum_25 : decode cX3_readSum 25 = .ok (.invokevirtual 92, 3) := by decide +kernel
theorem dX3_readSum_28 : decode cX3_readSum 28 = .ok (.ifCond .eq 39, 3) := by decide +kernel
theorem dX3_readSum_31 : decode cX3_readSum 31 = .ok (.aload_n 0, 1) := by decide +kernel
theorem dX3_readSum_32 : decode cX3_readSum 32 = .ok (.bipush 43, 2) := by decide +kernel
theorem dX3_readSum_34 : decode cX3_readSum 34 = .ok (.invokevirtual 92, 3) := by decide +kernel
theorem dX3_readSum_37 : decode cX3_readSum 37 = .ok (.ifCond .eq 8, 3) := by decide +kernel
theorem dX3_readSum_40 : decode cX3_readSum 40 = .ok (.bipush (-11), 2) := by decide +kernel
theorem dX3_readSum_42 : decode cX3_readSum 42 = .ok (.goto 5, 3) := by decide +kernel
theorem dX3_readSum_45 : decode cX3_readSum 45 = .ok (.bipush (-12), 2) := by decide +kernel
theorem dX3_readSum_47 : decode cX3_readSum 47 = .ok (.istore_n 2, 1) := by decide +kernel
theorem dX3_readSum_48 : decode cX3_readSum 48 = .ok (.aload_n 0, 1) := by decide +kernel
theorem dX3_readSum_49 : decode cX3_readSum 49 = .ok (.invokevirtual 54, 3) := by decide +kernel
theorem dX3_readSum_52 : decode cX3_readSum 52 = .ok (.aload_n 0, 1) := by decide +kernel
theorem dX3_readSum_53 : decode cX3_readSum 53 = .ok (.invokevirtual 225, 3) := by decide +kernel
theorem dX3_readSum_56 : decode cX3_readSum 56 = .ok (.aload_n 0, 1) := by decide +kernel
theorem dX3_readSum_57 : decode cX3_readSum 57 = .ok (.iload_n 2, 1) := by decide +kernel
theorem dX3_readSum_58 : decode cX3_readSum 58 = .ok (.invokevirtual 230, 3) := by decide +kernel
theorem dX3_readSum_61 : decode cX3_readSum 61 = .ok (.iinc 1 1, 3) := by decide +kernel
theorem dX3_readSum_64 : decode cX3_readSum 64 = .ok (.goto (-58), 3) := by decide +kernel
theorem dX3_readSum_67 : decode cX3_readSum 67 = .ok (.return_, 1) := by decide +kernel
theorem dX3_readTerm_0 : decode cX3_readTerm 0 = .ok (.aload_n 0, 1) := by decide +kernel
theorem dX3_readTerm_1 : decode cX3_readTerm 1 = .ok (.invokevirtual 233, 3) := by decide +kernel
theorem dX3_readTerm_4 : decode cX3_readTerm 4 = .ok (.iconst 0, 1) := by decide +kernel
theorem dX3_readTerm_5 : decode cX3_readTerm 5 = .ok (.istore_n 1, 1) := by decide +kernel
theorem dX3_readTerm_6 : decode cX3_readTerm 6 = .ok (.iload_n 1, 1) := by decide +kernel
theorem dX3_readTerm_7 : decode cX3_readTerm 7 = .ok (.sipush 900, 3) := by decide +kernel
theorem dX3_readTerm_10 : decode cX3_readTerm 10 = .ok (.if_icmp .ge 32, 3) := by decide +kernel
theorem dX3_readTerm_13 : decode cX3_readTerm 13 = .ok (.aload_n 0, 1) := by decide +kernel
theorem dX3_readTerm_14 : decode cX3_readTerm 14 = .ok (.bipush 42, 2) := by decide +kernel
theorem dX3_readTerm_16 : decode cX3_readTerm 16 = .ok (.invokevirtual 92, 3) := by decide +kernel
theorem dX3_readTerm_19 : decode cX3_readTerm 19 = .ok (.ifCond .eq 23, 3) := by decide +kernel
theorem dX3_readTerm_22 : decode cX3_readTerm 22 = .ok (.aload_n 0, 1) := by decide +kernel
theorem dX3_readTerm_23 : decode cX3_readTerm 23 = .ok (.invokevirtual 54, 3) := by decide +kernel
theorem dX3_readTerm_26 : decode cX3_readTerm 26 = .ok (.aload_n 0, 1) := by decide +kernel
theorem dX3_readTerm_27 : decode cX3_readTerm 27 = .ok (.invokevirtual 233, 3) := by decide +kernel
theorem dX3_readTerm_30 : decode cX3_readTerm 30 = .ok (.aload_n 0, 1) := by decide +kernel
theorem dX3_readTerm_31 : decode cX3_readTerm 31 = .ok (.bipush (-13), 2) := by decide +kernel
theorem dX3_readTerm_33 : decode cX3_readTerm 33 = .ok (.invokevirtual 230, 3) := by decide +kernel
theorem dX3_readTerm_36 : decode cX3_readTerm 36 = .ok (.iinc 1 1, 3) := by decide +kernel
theorem dX3_readTerm_39 : decode cX3_readTerm 39 = .ok (.goto (-33), 3) := by decide +kernel
theorem dX3_readTerm_42 : decode cX3_readTerm 42 = .ok (.return_, 1) := by decide +kernel
theorem dX3_readAtom_0 : decode cX3_readAtom 0 = .ok (.aload_n 0, 1) := by decide +kernel
theorem dX3_readAtom_1 : decode cX3_readAtom 1 = .ok (.getfield 60, 3) := by decide +kernel
theorem dX3_readAtom_4 : decode cX3_readAtom 4 = .ok (.iconst 2, 1) := by decide +kernel
theorem dX3_readAtom_5 : decode cX3_readAtom 5 = .ok (.if_icmp .ne 18, 3) := by decide +kernel
theorem dX3_readAtom_8 : decode cX3_readAtom 8 = .ok (.aload_n 0, 1) := by decide +kernel
theorem dX3_readAtom_9 : decode cX3_readAtom 9 = .ok (.aload_n 0, 1) := by decide +kernel
theorem dX3_readAtom_10 : decode cX3_readAtom 10 = .ok (.invokevirtual 96, 3) := by decide +kernel
theorem dX3_readAtom_13 : decode cX3_readAtom 13 = .ok (.invokevirtual 230, 3) := by decide +kernel
theorem dX3_readAtom_16 : decode cX3_readAtom 16 = .ok (.aload_n 0, 1) := by decide +kernel
theorem dX3_readAtom_17 : decode cX3_readAtom 17 = .ok (.invokevirtual 54, 3) := by decide +kernel
theorem dX3_readAtom_20 : decode cX3_readAtom 20 = .ok (.goto 101, 3) := by decide +kernel
theorem dX3_readAtom_23 : decode cX3_readAtom 23 = .ok (.aload_n 0, 1) := by decide +kernel
theorem dX3_readAtom_24 : decode cX3_readAtom 24 = .ok (.bipush 40, 2) := by decide +kernel
theorem dX3_readAtom_26 : decode cX3_readAtom 26 = .ok (.invokevirtual 92, 3) := by decide +kernel
theorem dX3_readAtom_29 : decode cX3_readAtom 29 = .ok (.ifCond .eq 33, 3) := by decide +kernel
theorem dX3_readAtom_32 : decode cX3_readAtom 32 = .ok (.aload_n 0, 1) := by decide +kernel
theorem dX3_readAtom_33 : decode cX3_readAtom 33 = .ok (.invokevirtual 236, 3) := by decide +kernel
theorem dX3_readAtom_36 : decode cX3_readAtom 36 = .ok (.ifCond .eq 85, 3) := by decide +kernel
theorem dX3_readAtom_39 : decode cX3_readAtom 39 = .ok (.aload_n 0, 1) := by decide +kernel
theorem dX3_readAtom_40 : decode cX3_readAtom 40 = .ok (.invokevirtual 216, 3) := by decide +kernel
theorem dX3_readAtom_43 : decode cX3_readAtom 43 = .ok (.aload_n 0, 1) := by decide +kernel
theorem dX3_readAtom_44 : decode cX3_readAtom 44 = .ok (.bipush 41, 2) := by decide +kernel
theorem dX3_readAtom_46 : decode cX3_readAtom 46 = .ok (.invokevirtual 131, 3) := by decide +kernel
theorem dX3_readAtom_49 : decode cX3_readAtom 49 = .ok (.aload_n 0, 1) := by decide +kernel
theorem dX3_readAtom_50 : decode cX3_readAtom 50 = .ok (.dup, 1) := by decide +kernel
theorem dX3_readAtom_51 : decode cX3_readAtom 51 = .ok (.getfield 210, 3) := by decide +kernel
theorem dX3_readAtom_54 : decode cX3_readAtom 54 = .ok (.iconst 1, 1) := by decide +kernel
theorem dX3_readAtom_55 : decode cX3_readAtom 55 = .ok (.isub, 1) := by decide +kernel
theorem dX3_readAtom_56 : decode cX3_readAtom 56 = .ok (.putfield 210, 3) := by decide +kernel
theorem dX3_readAtom_59 : decode cX3_readAtom 59 = .ok (.goto 62, 3) := by decide +kernel
theorem dX3_readAtom_62 : decode cX3_readAtom 62 = .ok (.aload_n 0, 1) := by decide +kernel
theorem dX3_readAtom_63 : decode cX3_readAtom 63 = .ok (.ldc 240, 2) := by decide +kernel
theorem dX3_readAtom_65 : decode cX3_readAtom 65 = .ok (.invokevirtual 88, 3) := by decide +kernel
theorem dX3_readAtom_68 : decode cX3_readAtom 68 = .ok (.ifCond .eq 27, 3) := by decide +kernel
theorem dX3_readAtom_71 : decode cX3_readAtom 71 = .ok (.aload_n 0, 1) := by decide +kernel
theorem dX3_readAtom_72 : decode cX3_readAtom 72 = .ok (.invokevirtual 236, 3) := by decide +kernel
theorem dX3_readAtom_75 : decode cX3_readAtom 75 = .ok (.ifCond .eq 46, 3) := by decide +kernel
theorem dX3_readAtom_78 : decode cX3_readAtom 78 = .ok (.aload_n 0, 1) := by decide +kernel
theorem dX3_readAtom_79 : decode cX3_readAtom 79 = .ok (.invokevirtual 242, 3) := by decide +kernel
theorem dX3_readAtom_82 : decode cX3_readAtom 82 = .ok (.aload_n 0, 1) := by decide +kernel
theorem dX3_readAtom_83 : decode cX3_readAtom 83 = .ok (.dup, 1) := by decide +kernel
theorem dX3_readAtom_84 : decode cX3_readAtom 84 = .ok (.getfield 210, 3) := by decide +kernel
theorem dX3_readAtom_87 : decode cX3_readAtom 87 = .ok (.iconst 1, 1) := by decide +kernel
theorem dX3_readAtom_88 : decode cX3_readAtom 88 = .ok (.isub, 1) := by decide +kernel
theorem dX3_readAtom_89 : decode cX3_readAtom 89 = .ok (.putfield 210, 3) := by decide +kernel
theorem dX3_readAtom_92 : decode cX3_readAtom 92 = .ok (.goto 29, 3) := by decide +kernel
theorem dX3_readAtom_95 : decode cX3_readAtom 95 = .ok (.aload_n 0, 1) := by decide +kernel
theorem dX3_readAtom_96 : decode cX3_readAtom 96 = .ok (.invokevirtual 245, 3) := by decide +kernel
theorem dX3_readAtom_99 : decode cX3_readAtom 99 = .ok (.istore_n 1, 1) := by decide +kernel
theorem dX3_readAtom_100 : decode cX3_readAtom 100 = .ok (.iload_n 1, 1) := by decide +kernel
theorem dX3_readAtom_101 : decode cX3_readAtom 101 = .ok (.ifCond .ne 11, 3) := by decide +kernel
theorem dX3_readAtom_104 : decode cX3_readAtom 104 = .ok (.aload_n 0, 1) := by decide +kernel
theorem dX3_readAtom_105 : decode cX3_readAtom 105 = .ok (.iconst 2, 1) := by decide +kernel
theorem dX3_readAtom_106 : decode cX3_readAtom 106 = .ok (.invokevirtual 76, 3) := by decide +kernel
theorem dX3_readAtom_109 : decode cX3_readAtom 109 = .ok (.goto 12, 3) := by decide +kernel
theorem dX3_readAtom_112 : decode cX3_readAtom 112 = .ok (.aload_n 0, 1) := by decide +kernel
theorem dX3_readAtom_113 : decode cX3_readAtom 113 = .ok (.iload_n 1, 1) := by decide +kernel
theorem dX3_readAtom_114 : decode cX3_readAtom 114 = .ok (.invokevirtual 230, 3) := by decide +kernel
theorem dX3_readAtom_117 : decode cX3_readAtom 117 = .ok (.aload_n 0, 1) := by decide +kernel
theorem dX3_readAtom_118 : decode cX3_readAtom 118 = .ok (.invokevirtual 54, 3) := by decide +kernel
theorem dX3_readAtom_121 : decode cX3_readAtom 121 = .ok (.return_, 1) := by decide +kernel
theorem dX3_readChoice_0 : decode cX3_readChoice 0 = .ok (.aload_n 0, 1) := by decide +kernel
theorem dX3_readChoice_1 : decode cX3_readChoice 1 = .ok (.invokevirtual 248, 3) := by decide +kernel
theorem dX3_readChoice_4 : decode cX3_readChoice 4 = .ok (.aload_n 0, 1) := by decide +kernel
theorem dX3_readChoice_5 : decode cX3_readChoice 5 = .ok (.ldc 251, 2) := by decide +kernel
theorem dX3_readChoice_7 : decode cX3_readChoice 7 = .ok (.invokevirtual 99, 3) := by decide +kernel
theorem dX3_readChoice_10 : decode cX3_readChoice 10 = .ok (.aload_n 0, 1) := by decide +kernel
theorem dX3_readChoice_11 : decode cX3_readChoice 11 = .ok (.invokevirtual 216, 3) := by decide +kernel
theorem dX3_readChoice_14 : decode cX3_readChoice 14 = .ok (.aload_n 0, 1) := by decide +kernel
theorem dX3_readChoice_15 : decode cX3_readChoice 15 = .ok (.ldc 253, 2) := by decide +kernel
theorem dX3_readChoice_17 : decode cX3_readChoice 17 = .ok (.invokevirtual 99, 3) := by decide +kernel
theorem dX3_readChoice_20 : decode cX3_readChoice 20 = .ok (.aload_n 0, 1) := by decide +kernel
theorem dX3_readChoice_21 : decode cX3_readChoice 21 = .ok (.invokevirtual 216, 3) := by decide +kernel
theorem dX3_readChoice_24 : decode cX3_readChoice 24 = .ok (.aload_n 0, 1) := by decide +kernel
theorem dX3_readChoice_25 : decode cX3_readChoice 25 = .ok (.ldc 255, 2) := by decide +kernel
theorem dX3_readChoice_27 : decode cX3_readChoice 27 = .ok (.invokevirtual 99, 3) := by decide +kernel
theorem dX3_readChoice_30 : decode cX3_readChoice 30 = .ok (.aload_n 0, 1) := by decide +kernel
theorem dX3_readChoice_31 : decode cX3_readChoice 31 = .ok (.bipush (-20), 2) := by decide +kernel
theorem dX3_readChoice_33 : decode cX3_readChoice 33 = .ok (.invokevirtual 230, 3) := by decide +kernel
theorem dX3_readChoice_36 : decode cX3_readChoice 36 = .ok (.return_, 1) := by decide +kernel
theorem dX3_lawWord_0 : decode cX3_lawWord 0 = .ok (.aload_n 0, 1) := by decide +kernel
theorem dX3_lawWord_1 : decode cX3_lawWord 1 = .ok (.ldc 166, 2) := by decide +kernel
theorem dX3_lawWord_3 : decode cX3_lawWord 3 = .ok (.invokevirtual 88, 3) := by decide +kernel
theorem dX3_lawWord_6 : decode cX3_lawWord 6 = .ok (.ifCond .eq 5, 3) := by decide +kernel
theorem dX3_lawWord_9 : decode cX3_lawWord 9 = .ok (.iconst (-1), 1) := by decide +kernel
theorem dX3_lawWord_10 : decode cX3_lawWord 10 = .ok (.ireturn, 1) := by decide +kernel
theorem dX3_lawWord_11 : decode cX3_lawWord 11 = .ok (.aload_n 0, 1) := by decide +kernel
theorem dX3_lawWord_12 : decode cX3_lawWord 12 = .ok (.ldc 122, 2) := by decide +kernel
theorem dX3_lawWord_14 : decode cX3_lawWord 14 = .ok (.invokevirtual 88, 3) := by decide +kernel
theorem dX3_lawWord_17 : decode cX3_lawWord 17 = .ok (.ifCond .eq 6, 3) := by decide +kernel
theorem dX3_lawWord_20 : decode cX3_lawWord 20 = .ok (.bipush (-2), 2) := by decide +kernel
theorem dX3_lawWord_22 : decode cX3_lawWord 22 = .ok (.ireturn, 1) := by decide +kernel
theorem dX3_lawWord_23 : decode cX3_lawWord 23 = .ok (.aload_n 0, 1) := by decide +kernel
theorem dX3_lawWord_24 : decode cX3_lawWord 24 = .ok (.getfield 207, 3) := by decide +kernel
theorem dX3_lawWord_27 : decode cX3_lawWord 27 = .ok (.ifCond .eq 15, 3) := by decide +kernel
theorem dX3_lawWord_30 : decode cX3_lawWord 30 = .ok (.aload_n 0, 1) := by decide +kernel
theorem dX3_lawWord_31 : decode cX3_lawWord 31 = .ok (.ldc 138, 2) := by decide +kernel
theorem dX3_lawWord_33 : decode cX3_lawWord 33 = .ok (.invokevirtual 88, 3) := by decide +kernel
theorem dX3_lawWord_36 : decode cX3_lawWord 36 = .ok (.ifCond .eq 6, 3) := by decide +kernel
theorem dX3_lawWord_39 : decode cX3_lawWord 39 = .ok (.bipush (-3), 2) := by decide +kernel
theorem dX3_lawWord_41 : decode cX3_lawWord 41 = .ok (.ireturn, 1) := by decide +kernel
theorem dX3_lawWord_42 : decode cX3_lawWord 42 = .ok (.aload_n 0, 1) := by decide +kernel
theorem dX3_lawWord_43 : decode cX3_lawWord 43 = .ok (.getfield 207, 3) := by decide +kernel
theorem dX3_lawWord_46 : decode cX3_lawWord 46 = .ok (.ifCond .eq 15, 3) := by decide +kernel
theorem dX3_lawWord_49 : decode cX3_lawWord 49 = .ok (.aload_n 0, 1) := by decide +kernel
theorem dX3_lawWord_50 : decode cX3_lawWord 50 = .ok (.ldc 185, 2) := by decide +kernel
theorem dX3_lawWord_52 : decode cX3_lawWord 52 = .ok (.invokevirtual 88, 3) := by decide +kernel
theorem dX3_lawWord_55 : decode cX3_lawWord 55 = .ok (.ifCond .eq 6, 3) := by decide +kernel
theorem dX3_lawWord_58 : decode cX3_lawWord 58 = .ok (.bipush (-4), 2) := by decide +kernel
theorem dX3_lawWord_60 : decode cX3_lawWord 60 = .ok (.ireturn, 1) := by decide +kernel
theorem dX3_lawWord_61 : decode cX3_lawWord 61 = .ok (.aload_n 0, 1) := by decide +kernel
theorem dX3_lawWord_62 : decode cX3_lawWord 62 = .ok (.getfield 207, 3) := by decide +kernel
theorem dX3_lawWord_65 : decode cX3_lawWord 65 = .ok (.ifCond .eq 15, 3) := by decide +kernel
theorem dX3_lawWord_68 : decode cX3_lawWord 68 = .ok (.aload_n 0, 1) := by decide +kernel
theorem dX3_lawWord_69 : decode cX3_lawWord 69 = .ok (.ldc 189, 2) := by decide +kernel
theorem dX3_lawWord_71 : decode cX3_lawWord 71 = .ok (.invokevirtual 88, 3) := by decide +kernel
theorem dX3_lawWord_74 : decode cX3_lawWord 74 = .ok (.ifCond .eq 6, 3) := by decide +kernel
theorem dX3_lawWord_77 : decode cX3_lawWord 77 = .ok (.bipush (-5), 2) := by decide +kernel
theorem dX3_lawWord_79 : decode cX3_lawWord 79 = .ok (.ireturn, 1) := by decide +kernel
theorem dX3_lawWord_80 : decode cX3_lawWord 80 = .ok (.aload_n 0, 1) := by decide +kernel
theorem dX3_lawWord_81 : decode cX3_lawWord 81 = .ok (.getfield 207, 3) := by decide +kernel
theorem dX3_lawWord_84 : decode cX3_lawWord 84 = .ok (.ifCond .eq 16, 3) := by decide +kernel
theorem dX3_lawWord_87 : decode cX3_lawWord 87 = .ok (.aload_n 0, 1) := by decide +kernel
theorem dX3_lawWord_88 : decode cX3_lawWord 88 = .ok (.ldc_w 256, 3) := by decide +kernel
theorem dX3_lawWord_91 : decode cX3_lawWord 91 = .ok (.invokevirtual 88, 3) := by decide +kernel
theorem dX3_lawWord_94 : decode cX3_lawWord 94 = .ok (.ifCond .eq 6, 3) := by decide +kernel
theorem dX3_lawWord_97 : decode cX3_lawWord 97 = .ok (.bipush (-6), 2) := by decide +kernel
theorem dX3_lawWord_99 : decode cX3_lawWord 99 = .ok (.ireturn, 1) := by decide +kernel
theorem dX3_lawWord_100 : decode cX3_lawWord 100 = .ok (.aload_n 0, 1) := by decide +kernel
theorem dX3_lawWord_101 : decode cX3_lawWord 101 = .ok (.getfield 207, 3) := by decide +kernel
theorem dX3_lawWord_104 : decode cX3_lawWord 104 = .ok (.ifCond .ne 15, 3) := by decide +kernel
theorem dX3_lawWord_107 : decode cX3_lawWord 107 = .ok (.aload_n 0, 1) := by decide +kernel
theorem dX3_lawWord_108 : decode cX3_lawWord 108 = .ok (.ldc 161, 2) := by decide +kernel
theorem dX3_lawWord_110 : decode cX3_lawWord 110 = .ok (.invokevirtual 88, 3) := by decide +kernel
theorem dX3_lawWord_113 : decode cX3_lawWord 113 = .ok (.ifCond .eq 6, 3) := by decide +kernel
theorem dX3_lawWord_116 : decode cX3_lawWord 116 = .ok (.bipush (-3), 2) := by decide +kernel
theorem dX3_lawWord_118 : decode cX3_lawWord 118 = .ok (.ireturn, 1) := by decide +kernel
theorem dX3_lawWord_119 : decode cX3_lawWord 119 = .ok (.aload_n 0, 1) := by decide +kernel
theorem dX3_lawWord_120 : decode cX3_lawWord 120 = .ok (.getfield 207, 3) := by decide +kernel
theorem dX3_lawWord_123 : decode cX3_lawWord 123 = .ok (.ifCond .ne 16, 3) := by decide +kernel
theorem dX3_lawWord_126 : decode cX3_lawWord 126 = .ok (.aload_n 0, 1) := by decide +kernel
theorem dX3_lawWord_127 : decode cX3_lawWord 127 = .ok (.ldc_w 258, 3) := by decide +kernel
theorem dX3_lawWord_130 : decode cX3_lawWord 130 = .ok (.invokevirtual 88, 3) := by decide +kernel
theorem dX3_lawWord_133 : decode cX3_lawWord 133 = .ok (.ifCond .eq 6, 3) := by decide +kernel
theorem dX3_lawWord_136 : decode cX3_lawWord 136 = .ok (.bipush (-4), 2) := by decide +kernel
theorem dX3_lawWord_138 : decode cX3_lawWord 138 = .ok (.ireturn, 1) := by decide +kernel
theorem dX3_lawWord_139 : decode cX3_lawWord 139 = .ok (.aload_n 0, 1) := by decide +kernel
theorem dX3_lawWord_140 : decode cX3_lawWord 140 = .ok (.getfield 207, 3) := by decide +kernel
theorem dX3_lawWord_143 : decode cX3_lawWord 143 = .ok (.ifCond .ne 18, 3) := by decide +kernel
theorem dX3_lawWord_146 : decode cX3_lawWord 146 = .ok (.aload_n 0, 1) := by decide +kernel
theorem dX3_lawWord_147 : decode cX3_lawWord 147 = .ok (.ldc_w 260, 3) := by decide +kernel
theorem dX3_lawWord_150 : decode cX3_lawWord 150 = .ok (.invokevirtual 88, 3) := by decide +kernel
theorem dX3_lawWord_153 : decode cX3_lawWord 153 = .ok (.ifCond .eq 8, 3) := by decide +kernel
theorem dX3_lawWord_156 : decode cX3_lawWord 156 = .ok (.bipush (-5), 2) := by decide +kernel
theorem dX3_lawWord_158 : decode cX3_lawWord 158 = .ok (.goto 4, 3) := by decide +kernel
theorem dX3_lawWord_161 : decode cX3_lawWord 161 = .ok (.iconst 0, 1) := by decide +kernel
theorem dX3_lawWord_162 : decode cX3_lawWord 162 = .ok (.ireturn, 1) := by decide +kernel
theorem dX3_readTruth_0 : decode cX3_readTruth 0 = .ok (.aload_n 0, 1) := by decide +kernel
theorem dX3_readTruth_1 : decode cX3_readTruth 1 = .ok (.invokevirtual 262, 3) := by decide +kernel
theorem dX3_readTruth_4 : decode cX3_readTruth 4 = .ok (.iconst 0, 1) := by decide +kernel
theorem dX3_readTruth_5 : decode cX3_readTruth 5 = .ok (.istore_n 1, 1) := by decide +kernel
theorem dX3_readTruth_6 : decode cX3_readTruth 6 = .ok (.iload_n 1, 1) := by decide +kernel
theorem dX3_readTruth_7 : decode cX3_readTruth 7 = .ok (.sipush 900, 3) := by decide +kernel
theorem dX3_readTruth_10 : decode cX3_readTruth 10 = .ok (.if_icmp .ge 33, 3) := by decide +kernel
theorem dX3_readTruth_13 : decode cX3_readTruth 13 = .ok (.aload_n 0, 1) := by decide +kernel
theorem dX3_readTruth_14 : decode cX3_readTruth 14 = .ok (.ldc_w 265, 3) := by decide +kernel
theorem dX3_readTruth_17 : decode cX3_readTruth 17 = .ok (.invokevirtual 88, 3) := by decide +kernel
theorem dX3_readTruth_20 : decode cX3_readTruth 20 = .ok (.ifCond .eq 23, 3) := by decide +kernel
theorem dX3_readTruth_23 : decode cX3_readTruth 23 = .ok (.aload_n 0, 1) := by decide +kernel
theorem dX3_readTruth_24 : decode cX3_readTruth 24 = .ok (.invokevirtual 54, 3) := by decide +kernel
theorem dX3_readTruth_27 : decode cX3_readTruth 27 = .ok (.aload_n 0, 1) := by decide +kernel
theorem dX3_readTruth_28 : decode cX3_readTruth 28 = .ok (.invokevirtual 262, 3) := by decide +kernel
theorem dX3_readTruth_31 : decode cX3_readTruth 31 = .ok (.aload_n 0, 1) := by decide +kernel
theorem dX3_readTruth_32 : decode cX3_readTruth 32 = .ok (.bipush (-19), 2) := by decide +kernel
theorem dX3_readTruth_34 : decode cX3_readTruth 34 = .ok (.invokevirtual 230, 3) := by decide +kernel
theorem dX3_readTruth_37 : decode cX3_readTruth 37 = .ok (.iinc 1 1, 3) := by decide +kernel
theorem dX3_readTruth_40 : decode cX3_readTruth 40 = .ok (.goto (-34), 3) := by decide +kernel
theorem dX3_readTruth_43 : decode cX3_readTruth 43 = .ok (.return_, 1) := by decide +kernel
theorem dX3_readBoth_0 : decode cX3_readBoth 0 = .ok (.aload_n 0, 1) := by decide +kernel
theorem dX3_readBoth_1 : decode cX3_readBoth 1 = .ok (.invokevirtual 267, 3) := by decide +kernel
theorem dX3_readBoth_4 : decode cX3_readBoth 4 = .ok (.iconst 0, 1) := by decide +kernel
theorem dX3_readBoth_5 : decode cX3_readBoth 5 = .ok (.istore_n 1, 1) := by decide +kernel
theorem dX3_readBoth_6 : decode cX3_readBoth 6 = .ok (.iload_n 1, 1) := by decide +kernel
theorem dX3_readBoth_7 : decode cX3_readBoth 7 = .ok (.sipush 900, 3) := by decide +kernel
theorem dX3_readBoth_10 : decode cX3_readBoth 10 = .ok (.if_icmp .ge 33, 3) := by decide +kernel
theorem dX3_readBoth_13 : decode cX3_readBoth 13 = .ok (.aload_n 0, 1) := by decide +kernel
theorem dX3_readBoth_14 : decode cX3_readBoth 14 = .ok (.ldc_w 270, 3) := by decide +kernel
theorem dX3_readBoth_17 : decode cX3_readBoth 17 = .ok (.invokevirtual 88, 3) := by decide +kernel
theorem dX3_readBoth_20 : decode cX3_readBoth 20 = .ok (.ifCond .eq 23, 3) := by decide +kernel
theorem dX3_readBoth_23 : decode cX3_readBoth 23 = .ok (.aload_n 0, 1) := by decide +kernel
theorem dX3_readBoth_24 : decode cX3_readBoth 24 = .ok (.invokevirtual 54, 3) := by decide +kernel
theorem dX3_readBoth_27 : decode cX3_readBoth 27 = .ok (.aload_n 0, 1) := by decide +kernel
theorem dX3_readBoth_28 : decode cX3_readBoth 28 = .ok (.invokevirtual 267, 3) := by decide +kernel
theorem dX3_readBoth_31 : decode cX3_readBoth 31 = .ok (.aload_n 0, 1) := by decide +kernel
theorem dX3_readBoth_32 : decode cX3_readBoth 32 = .ok (.bipush (-18), 2) := by decide +kernel
theorem dX3_readBoth_34 : decode cX3_readBoth 34 = .ok (.invokevirtual 230, 3) := by decide +kernel
theorem dX3_readBoth_37 : decode cX3_readBoth 37 = .ok (.iinc 1 1, 3) := by decide +kernel
theorem dX3_readBoth_40 : decode cX3_readBoth 40 = .ok (.goto (-34), 3) := by decide +kernel
theorem dX3_readBoth_43 : decode cX3_readBoth 43 = .ok (.return_, 1) := by decide +kernel
theorem dX3_readUnit_0 : decode cX3_readUnit 0 = .ok (.aload_n 0, 1) := by decide +kernel
theorem dX3_readUnit_1 : decode cX3_readUnit 1 = .ok (.ldc 150, 2) := by decide +kernel
theorem dX3_readUnit_3 : decode cX3_readUnit 3 = .ok (.invokevirtual 88, 3) := by decide +kernel
theorem dX3_readUnit_6 : decode cX3_readUnit 6 = .ok (.ifCond .eq 33, 3) := by decide +kernel
theorem dX3_readUnit_9 : decode cX3_readUnit 9 = .ok (.aload_n 0, 1) := by decide +kernel
theorem dX3_readUnit_10 : decode cX3_readUnit 10 = .ok (.invokevirtual 236, 3) := by decide +kernel
theorem dX3_readUnit_13 : decode cX3_readUnit 13 = .ok (.ifCond .eq 69, 3) := by decide +kernel
theorem dX3_readUnit_16 : decode cX3_readUnit 16 = .ok (.aload_n 0, 1) := by decide +kernel
theorem dX3_readUnit_17 : decode cX3_readUnit 17 = .ok (.invokevirtual 267, 3) := by decide +kernel
theorem dX3_readUnit_20 : decode cX3_readUnit 20 = .ok (.aload_n 0, 1) := by decide +kernel
theorem dX3_readUnit_21 : decode cX3_readUnit 21 = .ok (.bipush (-17), 2) := by decide +kernel
theorem dX3_readUnit_23 : decode cX3_readUnit 23 = .ok (.invokevirtual 230, 3) := by decide +kernel
theorem dX3_readUnit_26 : decode cX3_readUnit 26 = .ok (.aload_n 0, 1) := by decide +kernel
theorem dX3_readUnit_27 : decode cX3_readUnit 27 = .ok (.dup, 1) := by decide +kernel
theorem dX3_readUnit_28 : decode cX3_readUnit 28 = .ok (.getfield 210, 3) := by decide +kernel
theorem dX3_readUnit_31 : decode cX3_readUnit 31 = .ok (.iconst 1, 1) := by decide +kernel
theorem dX3_readUnit_32 : decode cX3_readUnit 32 = .ok (.isub, 1) := by decide +kernel
theorem dX3_readUnit_33 : decode cX3_readUnit 33 = .ok (.putfield 210, 3) := by decide +kernel
theorem dX3_readUnit_36 : decode cX3_readUnit 36 = .ok (.goto 46, 3) := by decide +kernel
theorem dX3_readUnit_39 : decode cX3_readUnit 39 = .ok (.aload_n 0, 1) := by decide +kernel
theorem dX3_readUnit_40 : decode cX3_readUnit 40 = .ok (.bipush 91, 2) := by decide +kernel
theorem dX3_readUnit_42 : decode cX3_readUnit 42 = .ok (.invokevirtual 92, 3) := by decide +kernel
theorem dX3_readUnit_45 : decode cX3_readUnit 45 = .ok (.ifCond .eq 33, 3) := by decide +kernel
theorem dX3_readUnit_48 : decode cX3_readUnit 48 = .ok (.aload_n 0, 1) := by decide +kernel
theorem dX3_readUnit_49 : decode cX3_readUnit 49 = .ok (.invokevirtual 236, 3) := by decide +kernel
theorem dX3_readUnit_52 : decode cX3_readUnit 52 = .ok (.ifCond .eq 30, 3) := by decide +kernel
theorem dX3_readUnit_55 : decode cX3_readUnit 55 = .ok (.aload_n 0, 1) := by decide +kernel
theorem dX3_readUnit_56 : decode cX3_readUnit 56 = .ok (.invokevirtual 248, 3) := by decide +kernel
theorem dX3_readUnit_59 : decode cX3_readUnit 59 = .ok (.aload_n 0, 1) := by decide +kernel
theorem dX3_readUnit_60 : decode cX3_readUnit 60 = .ok (.bipush 93, 2) := by decide +kernel
theorem dX3_readUnit_62 : decode cX3_readUnit 62 = .ok (.invokevirtual 131, 3) := by decide +kernel
theorem dX3_readUnit_65 : decode cX3_readUnit 65 = .ok (.aload_n 0, 1) := by decide +kernel
theorem dX3_readUnit_66 : decode cX3_readUnit 66 = .ok (.dup, 1) := by decide +kernel
theorem dX3_readUnit_67 : decode cX3_readUnit 67 = .ok (.getfield 210, 3) := by decide +kernel
theorem dX3_readUnit_70 : decode cX3_readUnit 70 = .ok (.iconst 1, 1) := by decide +kernel
theorem dX3_readUnit_71 : decode cX3_readUnit 71 = .ok (.isub, 1) := by decide +kernel
theorem dX3_readUnit_72 : decode cX3_readUnit 72 = .ok (.putfield 210, 3) := by decide +kernel
theorem dX3_readUnit_75 : decode cX3_readUnit 75 = .ok (.goto 7, 3) := by decide +kernel
theorem dX3_readUnit_78 : decode cX3_readUnit 78 = .ok (.aload_n 0, 1) := by decide +kernel
theorem dX3_readUnit_79 : decode cX3_readUnit 79 = .ok (.invokevirtual 272, 3) := by decide +kernel
theorem dX3_readUnit_82 : decode cX3_readUnit 82 = .ok (.return_, 1) := by decide +kernel
theorem dX3_readComparison_0 : decode cX3_readComparison 0 = .ok (.aload_n 0, 1) := by decide +kernel
theorem dX3_readComparison_1 : decode cX3_readComparison 1 = .ok (.invokevirtual 216, 3) := by decide +kernel
theorem dX3_readComparison_4 : decode cX3_readComparison 4 = .ok (.iconst 0, 1) := by decide +kernel
theorem dX3_readComparison_5 : decode cX3_readComparison 5 = .ok (.istore_n 1, 1) := by decide +kernel
theorem dX3_readComparison_6 : decode cX3_readComparison 6 = .ok (.aload_n 0, 1) := by decide +kernel
theorem dX3_readComparison_7 : decode cX3_readComparison 7 = .ok (.bipush 61, 2) := by decide +kernel
theorem dX3_readComparison_9 : decode cX3_readComparison 9 = .ok (.invokevirtual 92, 3) := by decide +kernel
theorem dX3_readComparison_12 : decode cX3_readComparison 12 = .ok (.ifCond .eq 9, 3) := by decide +kernel
theorem dX3_readComparison_15 : decode cX3_readComparison 15 = .ok (.bipush (-14), 2) := by decide +kernel
theorem dX3_readComparison_17 : decode cX3_readComparison 17 = .ok (.istore_n 1, 1) := by decide +kernel
theorem dX3_readComparison_18 : decode cX3_readComparison 18 = .ok (.goto 30, 3) := by decide +kernel
theorem dX3_readComparison_21 : decode cX3_readComparison 21 = .ok (.aload_n 0, 1) := by decide +kernel
theorem dX3_readComparison_22 : decode cX3_readComparison 22 = .ok (.bipush 60, 2) := by decide +kernel
theorem dX3_readComparison_24 : decode cX3_readComparison 24 = .ok (.invokevirtual 92, 3) := by decide +kernel
theorem dX3_readComparison_27 : decode cX3_readComparison 27 = .ok (.ifCond .eq 9, 3) := by decide +kernel
theorem dX3_readComparison_30 : decode cX3_readComparison 30 = .ok (.bipush (-15), 2) := by decide +kernel
theorem dX3_readComparison_32 : decode cX3_readComparison 32 = .ok (.istore_n 1, 1) := by decide +kernel
theorem dX3_readComparison_33 : decode cX3_readComparison 33 = .ok (.goto 15, 3) := by decide +kernel
theorem dX3_readComparison_36 : decode cX3_readComparison 36 = .ok (.aload_n 0, 1) := by decide +kernel
theorem dX3_readComparison_37 : decode cX3_readComparison 37 = .ok (.bipush 62, 2) := by decide +kernel
theorem dX3_readComparison_39 : decode cX3_readComparison 39 = .ok (.invokevirtual 92, 3) := by decide +kernel
theorem dX3_readComparison_42 : decode cX3_readComparison 42 = .ok (.ifCond .eq 6, 3) := by decide +kernel
theorem dX3_readComparison_45 : decode cX3_readComparison 45 = .ok (.bipush (-16), 2) := by decide +kernel
theorem dX3_readComparison_47 : decode cX3_readComparison 47 = .ok (.istore_n 1, 1) := by decide +kernel
theorem dX3_readComparison_48 : decode cX3_readComparison 48 = .ok (.iload_n 1, 1) := by decide +kernel
theorem dX3_readComparison_49 : decode cX3_readComparison 49 = .ok (.ifCond .ne 9, 3) := by decide +kernel
theorem dX3_readComparison_52 : decode cX3_readComparison 52 = .ok (.aload_n 0, 1) := by decide +kernel
theorem dX3_readComparison_53 : decode cX3_readComparison 53 = .ok (.iconst 2, 1) := by decide +kernel
theorem dX3_readComparison_54 : decode cX3_readComparison 54 = .ok (.invokevirtual 76, 3) := by decide +kernel
theorem dX3_readComparison_57 : decode cX3_readComparison 57 = .ok (.return_, 1) := by decide +kernel
theorem dX3_readComparison_58 : decode cX3_readComparison 58 = .ok (.aload_n 0, 1) := by decide +kernel
theorem dX3_readComparison_59 : decode cX3_readComparison 59 = .ok (.invokevirtual 54, 3) := by decide +kernel
theorem dX3_readComparison_62 : decode cX3_readComparison 62 = .ok (.aload_n 0, 1) := by decide +kernel
theorem dX3_readComparison_63 : decode cX3_readComparison 63 = .ok (.invokevirtual 216, 3) := by decide +kernel
theorem dX3_readComparison_66 : decode cX3_readComparison 66 = .ok (.aload_n 0, 1) := by decide +kernel
theorem dX3_readComparison_67 : decode cX3_readComparison 67 = .ok (.iload_n 1, 1) := by decide +kernel
theorem dX3_readComparison_68 : decode cX3_readComparison 68 = .ok (.invokevirtual 230, 3) := by decide +kernel
theorem dX3_readComparison_71 : decode cX3_readComparison 71 = .ok (.return_, 1) := by decide +kernel
theorem dX4_init_0 : decode cX4_init 0 = .ok (.aload_n 0, 1) := by decide +kernel
theorem dX4_init_1 : decode cX4_init 1 = .ok (.invokespecial 3, 3) := by decide +kernel
theorem dX4_init_4 : decode cX4_init 4 = .ok (.aload_n 0, 1) := by decide +kernel
theorem dX4_init_5 : decode cX4_init 5 = .ok (.bipush 8, 2) := by decide +kernel
theorem dX4_init_7 : decode cX4_init 7 = .ok (.newarray .int, 2) := by decide +kernel
theorem dX4_init_9 : decode cX4_init 9 = .ok (.putfield 9, 3) := by decide +kernel
theorem dX4_init_12 : decode cX4_init 12 = .ok (.aload_n 0, 1) := by decide +kernel
theorem dX4_init_13 : decode cX4_init 13 = .ok (.iconst (-1), 1) := by decide +kernel
theorem dX4_init_14 : decode cX4_init 14 = .ok (.putfield 15, 3) := by decide +kernel
theorem dX4_init_17 : decode cX4_init 17 = .ok (.aload_n 0, 1) := by decide +kernel
theorem dX4_init_18 : decode cX4_init 18 = .ok (.bipush 8, 2) := by decide +kernel
theorem dX4_init_20 : decode cX4_init 20 = .ok (.newarray .int, 2) := by decide +kernel
theorem dX4_init_22 : decode cX4_init 22 = .ok (.putfield 19, 3) := by decide +kernel
theorem dX4_init_25 : decode cX4_init 25 = .ok (.aload_n 0, 1) := by decide +kernel
theorem dX4_init_26 : decode cX4_init 26 = .ok (.bipush 64, 2) := by decide +kernel
theorem dX4_init_28 : decode cX4_init 28 = .ok (.newarray .int, 2) := by decide +kernel
theorem dX4_init_30 : decode cX4_init 30 = .ok (.putfield 22, 3) := by decide +kernel
theorem dX4_init_33 : decode cX4_init 33 = .ok (.return_, 1) := by decide +kernel
theorem dX4_learn_0 : decode cX4_learn 0 = .ok (.aload_n 0, 1) := by decide +kernel
theorem dX4_learn_1 : decode cX4_learn 1 = .ok (.getfield 15, 3) := by decide +kernel
theorem dX4_learn_4 : decode cX4_learn 4 = .ok (.iload_n 1, 1) := by decide +kernel
theorem dX4_learn_5 : decode cX4_learn 5 = .ok (.if_icmp .ne 23, 3) := by decide +kernel
theorem dX4_learn_8 : decode cX4_learn 8 = .ok (.aload_n 0, 1) := by decide +kernel
theorem dX4_learn_9 : decode cX4_learn 9 = .ok (.getfield 25, 3) := by decide +kernel
theorem dX4_learn_12 : decode cX4_learn 12 = .ok (.lload_n 2, 1) := by decide +kernel
theorem dX4_learn_13 : decode cX4_learn 13 = .ok (.lcmp, 1) := by decide +kernel
theorem dX4_learn_14 : decode cX4_learn 14 = .ok (.ifCond .ne 14, 3) := by decide +kernel
theorem dX4_learn_17 : decode cX4_learn 17 = .ok (.aload_n 0, 1) := by decide +kernel
theorem dX4_learn_18 : decode cX4_learn 18 = .ok (.getfield 29, 3) := by decide +kernel
theorem dX4_learn_21 : decode cX4_learn 21 = .ok (.lload 4, 2) := by decide +kernel
theorem dX4_learn_23 : decode cX4_learn 23 = .ok (.lcmp, 1) := by decide +kernel
theorem dX4_learn_24 : decode cX4_learn 24 = .ok (.ifCond .ne 4, 3) := by decide +kernel
theorem dX4_learn_27 : decode cX4_learn 27 = .ok (.return_, 1) := by decide +kernel
theorem dX4_learn_28 : decode cX4_learn 28 = .ok (.aload_n 0, 1) := by decide +kernel
theorem dX4_learn_29 : decode cX4_learn 29 = .ok (.iload_n 1, 1) := by decide +kernel
theorem dX4_learn_30 : decode cX4_learn 30 = .ok (.bipush 8, 2) := by decide +kernel
theorem dX4_learn_32 : decode cX4_learn 32 = .ok (.invokestatic 32, 3) := by decide +kernel
theorem dX4_learn_35 : decode cX4_learn 35 = .ok (.putfield 15, 3) := by decide +kernel
theorem dX4_learn_38 : decode cX4_learn 38 = .ok (.aload_n 0, 1) := by decide +kernel
theorem dX4_learn_39 : decode cX4_learn 39 = .ok (.lload_n 2, 1) := by decide +kernel
theorem dX4_learn_40 : decode cX4_learn 40 = .ok (.putfield 25, 3) := by decide +kernel
theorem dX4_learn_43 : decode cX4_learn 43 = .ok (.aload_n 0, 1) := by decide +kernel
theorem dX4_learn_44 : decode cX4_learn 44 = .ok (.lload 4, 2) := by decide +kernel
theorem dX4_learn_46 : decode cX4_learn 46 = .ok (.putfield 29, 3) := by decide +kernel
theorem dX4_learn_49 : decode cX4_learn 49 = .ok (.aload_n 0, 1) := by decide +kernel
theorem dX4_learn_50 : decode cX4_learn 50 = .ok (.iconst 0, 1) := by decide +kernel
theorem dX4_learn_51 : decode cX4_learn 51 = .ok (.putfield 38, 3) := by decide +kernel
theorem dX4_learn_54 : decode cX4_learn 54 = .ok (.aload_n 0, 1) := by decide +kernel
theorem dX4_learn_55 : decode cX4_learn 55 = .ok (.getfield 22, 3) := by decide +kernel
theorem dX4_learn_58 : decode cX4_learn 58 = .ok (.iconst 0, 1) := by decide +kernel
theorem dX4_learn_59 : decode cX4_learn 59 = .ok (.invokestatic 41, 3) := by decide +kernel
theorem dX4_learn_62 : decode cX4_learn 62 = .ok (.aload_n 0, 1) := by decide +kernel
theorem dX4_learn_63 : decode cX4_learn 63 = .ok (.iconst 1, 1) := by decide +kernel
theorem dX4_learn_64 : decode cX4_learn 64 = .ok (.aload_n 0, 1) := by decide +kernel
theorem dX4_learn_65 : decode cX4_learn 65 = .ok (.getfield 15, 3) := by decide +kernel
theorem dX4_learn_68 : decode cX4_learn 68 = .ok (.ishl, 1) := by decide +kernel
theorem dX4_learn_69 : decode cX4_learn 69 = .ok (.iconst 1, 1) := by decide +kernel
theorem dX4_learn_70 : decode cX4_learn 70 = .ok (.isub, 1) := by decide +kernel
theorem dX4_learn_71 : decode cX4_learn 71 = .ok (.aload_n 0, 1) := by decide +kernel
theorem dX4_learn_72 : decode cX4_learn 72 = .ok (.getfield 15, 3) := by decide +kernel
theorem dX4_learn_75 : decode cX4_learn 75 = .ok (.iconst 2, 1) := by decide +kernel
theorem dX4_learn_76 : decode cX4_learn 76 = .ok (.irem, 1) := by decide +kernel
theorem dX4_learn_77 : decode cX4_learn 77 = .ok (.iconst 1, 1) := by decide +kernel
theorem dX4_learn_78 : decode cX4_learn 78 = .ok (.if_icmp .ne 7, 3) := by decide +kernel
theorem dX4_learn_81 : decode cX4_learn 81 = .ok (.iconst 1, 1) := by decide +kernel
theorem dX4_learn_82 : decode cX4_learn 82 = .ok (.goto 4, 3) := by decide +kernel
theorem dX4_learn_85 : decode cX4_learn 85 = .ok (.iconst 0, 1) := by decide +kernel
theorem dX4_learn_86 : decode cX4_learn 86 = .ok (.iconst 0, 1) := by decide +kernel
theorem dX4_learn_87 : decode cX4_learn 87 = .ok (.invokevirtual 47, 3) := by decide +kernel
theorem dX4_learn_90 : decode cX4_learn 90 = .ok (.return_, 1) := by decide +kernel
theorem dX4_waysWith_0 : decode cX4_waysWith 0 = .ok (.bipush 8, 2) := by decide +kernel
theorem dX4_waysWith_2 : decode cX4_waysWith 2 = .ok (.iload_n 1, 1) := by decide +kernel
theorem dX4_waysWith_3 : decode cX4_waysWith 3 = .ok (.imul, 1) := by decide +kernel
theorem dX4_waysWith_4 : decode cX4_waysWith 4 = .ok (.iload_n 2, 1) := by decide +kernel
theorem dX4_waysWith_5 : decode cX4_waysWith 5 = .ok (.iadd, 1) := by decide +kernel
theorem dX4_waysWith_6 : decode cX4_waysWith 6 = .ok (.istore_n 3, 1) := by decide +kernel
theorem dX4_waysWith_7 : decode cX4_waysWith 7 = .ok (.iload_n 3, 1) := by decide +kernel
theorem dX4_waysWith_8 : decode cX4_waysWith 8 = .ok (.ifCond .lt 21, 3) := by decide +kernel
theorem dX4_waysWith_11 : decode cX4_waysWith 11 = .ok (.iload_n 3, 1) := by decide +kernel
theorem dX4_waysWith_12 : decode cX4_waysWith 12 = .ok (.aload_n 0, 1) := by decide +kernel
theorem dX4_waysWith_13 : decode cX4_waysWith 13 = .ok (.getfield 22, 3) := by decide +kernel
theorem dX4_waysWith_16 : decode cX4_waysWith 16 = .ok (.arraylength, 1) := by decide +kernel
theorem dX4_waysWith_17 : decode cX4_waysWith 17 = .ok (.if_icmp .ge 12, 3) := by decide +kernel
theorem dX4_waysWith_20 : decode cX4_waysWith 20 = .ok (.aload_n 0, 1) := by decide +kernel
theorem dX4_waysWith_21 : decode cX4_waysWith 21 = .ok (.getfield 22, 3) := by decide +kernel
theorem dX4_waysWith_24 : decode cX4_waysWith 24 = .ok (.iload_n 3, 1) := by decide +kernel
theorem dX4_waysWith_25 : decode cX4_waysWith 25 = .ok (.iaload, 1) := by decide +kernel
theorem dX4_waysWith_26 : decode cX4_waysWith 26 = .ok (.goto 4, 3) := by decide +kernel
theorem dX4_waysWith_29 : decode cX4_waysWith 29 = .ok (.iconst 0, 1) := by decide +kernel
theorem dX4_waysWith_30 : decode cX4_waysWith 30 = .ok (.ireturn, 1) := by decide +kernel
theorem dX4_bindLeast_0 : decode cX4_bindLeast 0 = .ok (.iload_n 1, 1) := by decide +kernel
theorem dX4_bindLeast_1 : decode cX4_bindLeast 1 = .ok (.ifCond .ne 8, 3) := by decide +kernel
theorem dX4_bindLeast_4 : decode cX4_bindLeast 4 = .ok (.aload_n 0, 1) := by decide +kernel
theorem dX4_bindLeast_5 : decode cX4_bindLeast 5 = .ok (.invokevirtual 51, 3) := by decide +kernel
theorem dX4_bindLeast_8 : decode cX4_bindLeast 8 = .ok (.return_, 1) := by decide +kernel
theorem dX4_bindLeast_9 : decode cX4_bindLeast 9 = .ok (.iload_n 3, 1) := by decide +kernel
theorem dX4_bindLeast_10 : decode cX4_bindLeast 10 = .ok (.bipush 8, 2) := by decide +kernel
theorem dX4_bindLeast_12 : decode cX4_bindLeast 12 = .ok (.if_icmp .le 4, 3) := by decide +kernel
theorem dX4_bindLeast_15 : decode cX4_bindLeast 15 = .ok (.return_, 1) := by decide +kernel
theorem dX4_bindLeast_16 : decode cX4_bindLeast 16 = .ok (.iconst 0, 1) := by decide +kernel
theorem dX4_bindLeast_17 : decode cX4_bindLeast 17 = .ok (.istore 4, 2) := by decide +kernel
theorem dX4_bindLeast_19 : decode cX4_bindLeast 19 = .ok (.iload 4, 2) := by decide +kernel
theorem dX4_bindLeast_21 : decode cX4_bindLeast 21 = .ok (.aload_n 0, 1) := by decide +kernel
theorem dX4_bindLeast_22 : decode cX4_bindLeast 22 = .ok (.getfield 15, 3) := by decide +kernel
theorem dX4_bindLeast_25 : decode cX4_bindLeast 25 = .ok (.iconst 1, 1) := by decide +kernel
theorem dX4_bindLeast_26 : decode cX4_bindLeast 26 = .ok (.isub, 1) := by decide +kernel
theorem dX4_bindLeast_27 : decode cX4_bindLeast 27 = .ok (.if_icmp .ge 18, 3) := by decide +kernel
theorem dX4_bindLeast_30 : decode cX4_bindLeast 30 = .ok (.iload_n 1, 1) := by decide +kernel
theorem dX4_bindLeast_31 : decode cX4_bindLeast 31 = .ok (.iload 4, 2) := by decide +kernel
theorem dX4_bindLeast_33 : decode cX4_bindLeast 33 = .ok (.ishr, 1) := by decide +kernel
theorem dX4_bindLeast_34 : decode cX4_bindLeast 34 = .ok (.iconst 1, 1) := by decide +kernel
theorem dX4_bindLeast_35 : decode cX4_bindLeast 35 = .ok (.iand, 1) := by decide +kernel
theorem dX4_bindLeast_36 : decode cX4_bindLeast 36 = .ok (.ifCond .ne 9, 3) := by decide +kernel
theorem dX4_bindLeast_39 : decode cX4_bindLeast 39 = .ok (.iinc 4 1, 3) := by decide +kernel
theorem dX4_bindLeast_42 : decode cX4_bindLeast 42 = .ok (.goto (-23), 3) := by decide +kernel
theorem dX4_bindLeast_45 : decode cX4_bindLeast 45 = .ok (.iload 4, 2) := by decide +kernel

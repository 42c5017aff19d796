theorem dX9_goer_6 : decode cX9_goer 6 = .ok (.getfield 21, 3) := by decide +kernel
theorem dX9_goer_9 : decode cX9_goer 9 = .ok (.getfield 111, 3) := by decide +kernel
theorem dX9_goer_12 : decode cX9_goer 12 = .ok (.if_icmp .ge 12, 3) := by decide +kernel
theorem dX9_goer_15 : decode cX9_goer 15 = .ok (.iload_n 2, 1) := by decide +kernel
theorem dX9_goer_16 : decode cX9_goer 16 = .ok (.ifCond .lt 8, 3) := by decide +kernel
theorem dX9_goer_19 : decode cX9_goer 19 = .ok (.iload_n 2, 1) := by decide +kernel
theorem dX9_goer_20 : decode cX9_goer 20 = .ok (.iconst 3, 1) := by decide +kernel
theorem dX9_goer_21 : decode cX9_goer 21 = .ok (.if_icmp .le 6, 3) := by decide +kernel
theorem dX9_goer_24 : decode cX9_goer 24 = .ok (.bipush (-2), 2) := by decide +kernel
theorem dX9_goer_26 : decode cX9_goer 26 = .ok (.ireturn, 1) := by decide +kernel
theorem dX9_goer_27 : decode cX9_goer 27 = .ok (.aload_n 0, 1) := by decide +kernel
theorem dX9_goer_28 : decode cX9_goer 28 = .ok (.getfield 28, 3) := by decide +kernel
theorem dX9_goer_31 : decode cX9_goer 31 = .ok (.getfield 114, 3) := by decide +kernel
theorem dX9_goer_34 : decode cX9_goer 34 = .ok (.iload_n 1, 1) := by decide +kernel
theorem dX9_goer_35 : decode cX9_goer 35 = .ok (.invokestatic 117, 3) := by decide +kernel
theorem dX9_goer_38 : decode cX9_goer 38 = .ok (.istore_n 3, 1) := by decide +kernel
theorem dX9_goer_39 : decode cX9_goer 39 = .ok (.iload_n 2, 1) := by decide +kernel
theorem dX9_goer_40 : decode cX9_goer 40 = .ok (.tableswitch 50 0 2 #[28, 30, 40], 28) := by decide +kernel
theorem dX9_goer_68 : decode cX9_goer 68 = .ok (.iload_n 3, 1) := by decide +kernel
theorem dX9_goer_69 : decode cX9_goer 69 = .ok (.ireturn, 1) := by decide +kernel
theorem dX9_goer_70 : decode cX9_goer 70 = .ok (.aload_n 0, 1) := by decide +kernel
theorem dX9_goer_71 : decode cX9_goer 71 = .ok (.getfield 21, 3) := by decide +kernel
theorem dX9_goer_74 : decode cX9_goer 74 = .ok (.getfield 121, 3) := by decide +kernel
theorem dX9_goer_77 : decode cX9_goer 77 = .ok (.iload_n 1, 1) := by decide +kernel
theorem dX9_goer_78 : decode cX9_goer 78 = .ok (.iaload, 1) := by decide +kernel
theorem dX9_goer_79 : decode cX9_goer 79 = .ok (.ireturn, 1) := by decide +kernel
theorem dX9_goer_80 : decode cX9_goer 80 = .ok (.aload_n 0, 1) := by decide +kernel
theorem dX9_goer_81 : decode cX9_goer 81 = .ok (.getfield 21, 3) := by decide +kernel
theorem dX9_goer_84 : decode cX9_goer 84 = .ok (.getfield 124, 3) := by decide +kernel
theorem dX9_goer_87 : decode cX9_goer 87 = .ok (.iload_n 1, 1) := by decide +kernel
theorem dX9_goer_88 : decode cX9_goer 88 = .ok (.iaload, 1) := by decide +kernel
theorem dX9_goer_89 : decode cX9_goer 89 = .ok (.ireturn, 1) := by decide +kernel
theorem dX9_goer_90 : decode cX9_goer 90 = .ok (.aload_n 0, 1) := by decide +kernel
theorem dX9_goer_91 : decode cX9_goer 91 = .ok (.getfield 55, 3) := by decide +kernel
theorem dX9_goer_94 : decode cX9_goer 94 = .ok (.aload_n 0, 1) := by decide +kernel
theorem dX9_goer_95 : decode cX9_goer 95 = .ok (.getfield 21, 3) := by decide +kernel
theorem dX9_goer_98 : decode cX9_goer 98 = .ok (.aload_n 0, 1) := by decide +kernel
theorem dX9_goer_99 : decode cX9_goer 99 = .ok (.getfield 28, 3) := by decide +kernel
theorem dX9_goer_102 : decode cX9_goer 102 = .ok (.getfield 127, 3) := by decide +kernel
theorem dX9_goer_105 : decode cX9_goer 105 = .ok (.invokevirtual 130, 3) := by decide +kernel
theorem dX9_goer_108 : decode cX9_goer 108 = .ok (.iload_n 3, 1) := by decide +kernel
theorem dX9_goer_109 : decode cX9_goer 109 = .ok (.aload_n 0, 1) := by decide +kernel
theorem dX9_goer_110 : decode cX9_goer 110 = .ok (.getfield 21, 3) := by decide +kernel
theorem dX9_goer_113 : decode cX9_goer 113 = .ok (.getfield 134, 3) := by decide +kernel
theorem dX9_goer_116 : decode cX9_goer 116 = .ok (.if_icmp .lt 7, 3) := by decide +kernel
theorem dX9_goer_119 : decode cX9_goer 119 = .ok (.iconst (-1), 1) := by decide +kernel
theorem dX9_goer_120 : decode cX9_goer 120 = .ok (.goto 21, 3) := by decide +kernel
theorem dX9_goer_123 : decode cX9_goer 123 = .ok (.aload_n 0, 1) := by decide +kernel
theorem dX9_goer_124 : decode cX9_goer 124 = .ok (.getfield 55, 3) := by decide +kernel
theorem dX9_goer_127 : decode cX9_goer 127 = .ok (.iload_n 1, 1) := by decide +kernel
theorem dX9_goer_128 : decode cX9_goer 128 = .ok (.iload_n 3, 1) := by decide +kernel
theorem dX9_goer_129 : decode cX9_goer 129 = .ok (.iconst 1, 1) := by decide +kernel
theorem dX9_goer_130 : decode cX9_goer 130 = .ok (.iadd, 1) := by decide +kernel
theorem dX9_goer_131 : decode cX9_goer 131 = .ok (.aload_n 0, 1) := by decide +kernel
theorem dX9_goer_132 : decode cX9_goer 132 = .ok (.getfield 28, 3) := by decide +kernel
theorem dX9_goer_135 : decode cX9_goer 135 = .ok (.getfield 137, 3) := by decide +kernel
theorem dX9_goer_138 : decode cX9_goer 138 = .ok (.invokevirtual 140, 3) := by decide +kernel
theorem dX9_goer_141 : decode cX9_goer 141 = .ok (.ireturn, 1) := by decide +kernel
theorem dX9_cellOf_0 : decode cX9_cellOf 0 = .ok (.iload_n 0, 1) := by decide +kernel
theorem dX9_cellOf_1 : decode cX9_cellOf 1 = .ok (.istore_n 2, 1) := by decide +kernel
theorem dX9_cellOf_2 : decode cX9_cellOf 2 = .ok (.iconst 0, 1) := by decide +kernel
theorem dX9_cellOf_3 : decode cX9_cellOf 3 = .ok (.istore_n 3, 1) := by decide +kernel
theorem dX9_cellOf_4 : decode cX9_cellOf 4 = .ok (.iload_n 3, 1) := by decide +kernel
theorem dX9_cellOf_5 : decode cX9_cellOf 5 = .ok (.iload_n 1, 1) := by decide +kernel
theorem dX9_cellOf_6 : decode cX9_cellOf 6 = .ok (.if_icmp .ge 19, 3) := by decide +kernel
theorem dX9_cellOf_9 : decode cX9_cellOf 9 = .ok (.iload_n 3, 1) := by decide +kernel
theorem dX9_cellOf_10 : decode cX9_cellOf 10 = .ok (.iconst 4, 1) := by decide +kernel
theorem dX9_cellOf_11 : decode cX9_cellOf 11 = .ok (.if_icmp .ge 14, 3) := by decide +kernel
theorem dX9_cellOf_14 : decode cX9_cellOf 14 = .ok (.iload_n 2, 1) := by decide +kernel
theorem dX9_cellOf_15 : decode cX9_cellOf 15 = .ok (.bipush 7, 2) := by decide +kernel
theorem dX9_cellOf_17 : decode cX9_cellOf 17 = .ok (.idiv, 1) := by decide +kernel
theorem dX9_cellOf_18 : decode cX9_cellOf 18 = .ok (.istore_n 2, 1) := by decide +kernel
theorem dX9_cellOf_19 : decode cX9_cellOf 19 = .ok (.iinc 3 1, 3) := by decide +kernel
theorem dX9_cellOf_22 : decode cX9_cellOf 22 = .ok (.goto (-18), 3) := by decide +kernel
theorem dX9_cellOf_25 : decode cX9_cellOf 25 = .ok (.iload_n 2, 1) := by decide +kernel
theorem dX9_cellOf_26 : decode cX9_cellOf 26 = .ok (.bipush 7, 2) := by decide +kernel
theorem dX9_cellOf_28 : decode cX9_cellOf 28 = .ok (.irem, 1) := by decide +kernel
theorem dX9_cellOf_29 : decode cX9_cellOf 29 = .ok (.ireturn, 1) := by decide +kernel
theorem dX9_by_0 : decode cX9_by 0 = .ok (.aload_n 0, 1) := by decide +kernel
theorem dX9_by_1 : decode cX9_by 1 = .ok (.iload_n 1, 1) := by decide +kernel
theorem dX9_by_2 : decode cX9_by 2 = .ok (.i2l, 1) := by decide +kernel
theorem dX9_by_3 : decode cX9_by 3 = .ok (.invokevirtual 144, 3) := by decide +kernel
theorem dX9_by_6 : decode cX9_by 6 = .ok (.ifCond .ne 6, 3) := by decide +kernel
theorem dX9_by_9 : decode cX9_by 9 = .ok (.bipush (-3), 2) := by decide +kernel
theorem dX9_by_11 : decode cX9_by 11 = .ok (.ireturn, 1) := by decide +kernel
theorem dX9_by_12 : decode cX9_by 12 = .ok (.aload_n 0, 1) := by decide +kernel
theorem dX9_by_13 : decode cX9_by 13 = .ok (.aload_n 0, 1) := by decide +kernel
theorem dX9_by_14 : decode cX9_by 14 = .ok (.getfield 28, 3) := by decide +kernel
theorem dX9_by_17 : decode cX9_by 17 = .ok (.iload_n 1, 1) := by decide +kernel
theorem dX9_by_18 : decode cX9_by 18 = .ok (.invokevirtual 148, 3) := by decide +kernel
theorem dX9_by_21 : decode cX9_by 21 = .ok (.ifCond .eq 6, 3) := by decide +kernel
theorem dX9_by_24 : decode cX9_by 24 = .ok (.bipush (-5), 2) := by decide +kernel
theorem dX9_by_26 : decode cX9_by 26 = .ok (.ireturn, 1) := by decide +kernel
theorem dX9_by_27 : decode cX9_by 27 = .ok (.aload_n 0, 1) := by decide +kernel
theorem dX9_by_28 : decode cX9_by 28 = .ok (.getfield 55, 3) := by decide +kernel
theorem dX9_by_31 : decode cX9_by 31 = .ok (.aload_n 0, 1) := by decide +kernel
theorem dX9_by_32 : decode cX9_by 32 = .ok (.getfield 21, 3) := by decide +kernel
theorem dX9_by_35 : decode cX9_by 35 = .ok (.aload_n 0, 1) := by decide +kernel
theorem dX9_by_36 : decode cX9_by 36 = .ok (.getfield 28, 3) := by decide +kernel
theorem dX9_by_39 : decode cX9_by 39 = .ok (.getfield 127, 3) := by decide +kernel
theorem dX9_by_42 : decode cX9_by 42 = .ok (.invokevirtual 130, 3) := by decide +kernel
theorem dX9_by_45 : decode cX9_by 45 = .ok (.aload_n 0, 1) := by decide +kernel
theorem dX9_by_46 : decode cX9_by 46 = .ok (.getfield 55, 3) := by decide +kernel
theorem dX9_by_49 : decode cX9_by 49 = .ok (.aload_n 0, 1) := by decide +kernel
theorem dX9_by_50 : decode cX9_by 50 = .ok (.getfield 28, 3) := by decide +kernel
theorem dX9_by_53 : decode cX9_by 53 = .ok (.getfield 114, 3) := by decide +kernel
theorem dX9_by_56 : decode cX9_by 56 = .ok (.aload_n 0, 1) := by decide +kernel
theorem dX9_by_57 : decode cX9_by 57 = .ok (.getfield 28, 3) := by decide +kernel
theorem dX9_by_60 : decode cX9_by 60 = .ok (.getfield 137, 3) := by decide +kernel
theorem dX9_by_63 : decode cX9_by 63 = .ok (.iload_n 1, 1) := by decide +kernel
theorem dX9_by_64 : decode cX9_by 64 = .ok (.iconst 0, 1) := by decide +kernel
theorem dX9_by_65 : decode cX9_by 65 = .ok (.invokevirtual 152, 3) := by decide +kernel
theorem dX9_by_68 : decode cX9_by 68 = .ok (.ireturn, 1) := by decide +kernel
theorem dX9_isSet_0 : decode cX9_isSet 0 = .ok (.lload_n 1, 1) := by decide +kernel
theorem dX9_isSet_1 : decode cX9_isSet 1 = .ok (.lconst 0, 1) := by decide +kernel
theorem dX9_isSet_2 : decode cX9_isSet 2 = .ok (.lcmp, 1) := by decide +kernel
theorem dX9_isSet_3 : decode cX9_isSet 3 = .ok (.ifCond .lt 21, 3) := by decide +kernel
theorem dX9_isSet_6 : decode cX9_isSet 6 = .ok (.lload_n 1, 1) := by decide +kernel
theorem dX9_isSet_7 : decode cX9_isSet 7 = .ok (.lconst 1, 1) := by decide +kernel
theorem dX9_isSet_8 : decode cX9_isSet 8 = .ok (.aload_n 0, 1) := by decide +kernel
theorem dX9_isSet_9 : decode cX9_isSet 9 = .ok (.getfield 21, 3) := by decide +kernel
theorem dX9_isSet_12 : decode cX9_isSet 12 = .ok (.getfield 111, 3) := by decide +kernel
theorem dX9_isSet_15 : decode cX9_isSet 15 = .ok (.lshl, 1) := by decide +kernel
theorem dX9_isSet_16 : decode cX9_isSet 16 = .ok (.lcmp, 1) := by decide +kernel
theorem dX9_isSet_17 : decode cX9_isSet 17 = .ok (.ifCond .ge 7, 3) := by decide +kernel
theorem dX9_isSet_20 : decode cX9_isSet 20 = .ok (.iconst 1, 1) := by decide +kernel
theorem dX9_isSet_21 : decode cX9_isSet 21 = .ok (.goto 4, 3) := by decide +kernel
theorem dX9_isSet_24 : decode cX9_isSet 24 = .ok (.iconst 0, 1) := by decide +kernel
theorem dX9_isSet_25 : decode cX9_isSet 25 = .ok (.ireturn, 1) := by decide +kernel
theorem dX9_refusal_0 : decode cX9_refusal 0 = .ok (.aload_n 0, 1) := by decide +kernel
theorem dX9_refusal_1 : decode cX9_refusal 1 = .ok (.iload_n 2, 1) := by decide +kernel
theorem dX9_refusal_2 : decode cX9_refusal 2 = .ok (.i2l, 1) := by decide +kernel
theorem dX9_refusal_3 : decode cX9_refusal 3 = .ok (.invokevirtual 144, 3) := by decide +kernel
theorem dX9_refusal_6 : decode cX9_refusal 6 = .ok (.ifCond .ne 5, 3) := by decide +kernel
theorem dX9_refusal_9 : decode cX9_refusal 9 = .ok (.iconst 1, 1) := by decide +kernel
theorem dX9_refusal_10 : decode cX9_refusal 10 = .ok (.ireturn, 1) := by decide +kernel
theorem dX9_refusal_11 : decode cX9_refusal 11 = .ok (.iload_n 2, 1) := by decide +kernel
theorem dX9_refusal_12 : decode cX9_refusal 12 = .ok (.aload_n 0, 1) := by decide +kernel
theorem dX9_refusal_13 : decode cX9_refusal 13 = .ok (.getfield 21, 3) := by decide +kernel
theorem dX9_refusal_16 : decode cX9_refusal 16 = .ok (.aload_n 1, 1) := by decide +kernel
theorem dX9_refusal_17 : decode cX9_refusal 17 = .ok (.getfield 114, 3) := by decide +kernel
theorem dX9_refusal_20 : decode cX9_refusal 20 = .ok (.invokevirtual 156, 3) := by decide +kernel
theorem dX9_refusal_23 : decode cX9_refusal 23 = .ok (.iand, 1) := by decide +kernel
theorem dX9_refusal_24 : decode cX9_refusal 24 = .ok (.ifCond .eq 5, 3) := by decide +kernel
theorem dX9_refusal_27 : decode cX9_refusal 27 = .ok (.iconst 2, 1) := by decide +kernel
theorem dX9_refusal_28 : decode cX9_refusal 28 = .ok (.ireturn, 1) := by decide +kernel
theorem dX9_refusal_29 : decode cX9_refusal 29 = .ok (.aload_n 1, 1) := by decide +kernel
theorem dX9_refusal_30 : decode cX9_refusal 30 = .ok (.getfield 137, 3) := by decide +kernel
theorem dX9_refusal_33 : decode cX9_refusal 33 = .ok (.ifCond .ne 7, 3) := by decide +kernel
theorem dX9_refusal_36 : decode cX9_refusal 36 = .ok (.iconst 3, 1) := by decide +kernel
theorem dX9_refusal_37 : decode cX9_refusal 37 = .ok (.goto 4, 3) := by decide +kernel
theorem dX9_refusal_40 : decode cX9_refusal 40 = .ok (.iconst 0, 1) := by decide +kernel
theorem dX9_refusal_41 : decode cX9_refusal 41 = .ok (.ireturn, 1) := by decide +kernel
theorem dX9_stepHour_0 : decode cX9_stepHour 0 = .ok (.aload_n 0, 1) := by decide +kernel
theorem dX9_stepHour_1 : decode cX9_stepHour 1 = .ok (.aload_n 1, 1) := by decide +kernel
theorem dX9_stepHour_2 : decode cX9_stepHour 2 = .ok (.iload_n 2, 1) := by decide +kernel
theorem dX9_stepHour_3 : decode cX9_stepHour 3 = .ok (.invokevirtual 148, 3) := by decide +kernel
theorem dX9_stepHour_6 : decode cX9_stepHour 6 = .ok (.istore_n 3, 1) := by decide +kernel
theorem dX9_stepHour_7 : decode cX9_stepHour 7 = .ok (.iload_n 3, 1) := by decide +kernel
theorem dX9_stepHour_8 : decode cX9_stepHour 8 = .ok (.ifCond .ne 62, 3) := by decide +kernel
theorem dX9_stepHour_11 : decode cX9_stepHour 11 = .ok (.aload_n 0, 1) := by decide +kernel
theorem dX9_stepHour_12 : decode cX9_stepHour 12 = .ok (.getfield 55, 3) := by decide +kernel
theorem dX9_stepHour_15 : decode cX9_stepHour 15 = .ok (.aload_n 0, 1) := by decide +kernel
theorem dX9_stepHour_16 : decode cX9_stepHour 16 = .ok (.getfield 21, 3) := by decide +kernel
theorem dX9_stepHour_19 : decode cX9_stepHour 19 = .ok (.aload_n 1, 1) := by decide +kernel
theorem dX9_stepHour_20 : decode cX9_stepHour 20 = .ok (.getfield 127, 3) := by decide +kernel
theorem dX9_stepHour_23 : decode cX9_stepHour 23 = .ok (.invokevirtual 130, 3) := by decide +kernel
theorem dX9_stepHour_26 : decode cX9_stepHour 26 = .ok (.aload_n 1, 1) := by decide +kernel
theorem dX9_stepHour_27 : decode cX9_stepHour 27 = .ok (.aload_n 0, 1) := by decide +kernel
theorem dX9_stepHour_28 : decode cX9_stepHour 28 = .ok (.getfield 55, 3) := by decide +kernel
theorem dX9_stepHour_31 : decode cX9_stepHour 31 = .ok (.aload_n 1, 1) := by decide +kernel
theorem dX9_stepHour_32 : decode cX9_stepHour 32 = .ok (.getfield 114, 3) := by decide +kernel
theorem dX9_stepHour_35 : decode cX9_stepHour 35 = .ok (.aload_n 1, 1) := by decide +kernel
theorem dX9_stepHour_36 : decode cX9_stepHour 36 = .ok (.getfield 137, 3) := by decide +kernel
theorem dX9_stepHour_39 : decode cX9_stepHour 39 = .ok (.iload_n 2, 1) := by decide +kernel
theorem dX9_stepHour_40 : decode cX9_stepHour 40 = .ok (.iconst 0, 1) := by decide +kernel
theorem dX9_stepHour_41 : decode cX9_stepHour 41 = .ok (.invokevirtual 152, 3) := by decide +kernel
theorem dX9_stepHour_44 : decode cX9_stepHour 44 = .ok (.putfield 137, 3) := by decide +kernel
theorem dX9_stepHour_47 : decode cX9_stepHour 47 = .ok (.aload_n 1, 1) := by decide +kernel
theorem dX9_stepHour_48 : decode cX9_stepHour 48 = .ok (.dup, 1) := by decide +kernel
theorem dX9_stepHour_49 : decode cX9_stepHour 49 = .ok (.getfield 114, 3) := by decide +kernel
theorem dX9_stepHour_52 : decode cX9_stepHour 52 = .ok (.iload_n 2, 1) := by decide +kernel
theorem dX9_stepHour_53 : decode cX9_stepHour 53 = .ok (.invokestatic 160, 3) := by decide +kernel
theorem dX9_stepHour_56 : decode cX9_stepHour 56 = .ok (.iadd, 1) := by decide +kernel
theorem dX9_stepHour_57 : decode cX9_stepHour 57 = .ok (.putfield 114, 3) := by decide +kernel
theorem dX9_stepHour_60 : decode cX9_stepHour 60 = .ok (.aload_n 1, 1) := by decide +kernel
theorem dX9_stepHour_61 : decode cX9_stepHour 61 = .ok (.dup, 1) := by decide +kernel
theorem dX9_stepHour_62 : decode cX9_stepHour 62 = .ok (.getfield 163, 3) := by decide +kernel
theorem dX9_stepHour_65 : decode cX9_stepHour 65 = .ok (.iconst 1, 1) := by decide +kernel
theorem dX9_stepHour_66 : decode cX9_stepHour 66 = .ok (.iadd, 1) := by decide +kernel
theorem dX9_stepHour_67 : decode cX9_stepHour 67 = .ok (.putfield 163, 3) := by decide +kernel
theorem dX9_stepHour_70 : decode cX9_stepHour 70 = .ok (.iload_n 3, 1) := by decide +kernel
theorem dX9_stepHour_71 : decode cX9_stepHour 71 = .ok (.ireturn, 1) := by decide +kernel
theorem dX9_shiftOf_0 : decode cX9_shiftOf 0 = .ok (.iconst 0, 1) := by decide +kernel
theorem dX9_shiftOf_1 : decode cX9_shiftOf 1 = .ok (.istore_n 1, 1) := by decide +kernel
theorem dX9_shiftOf_2 : decode cX9_shiftOf 2 = .ok (.iconst 0, 1) := by decide +kernel
theorem dX9_shiftOf_3 : decode cX9_shiftOf 3 = .ok (.istore_n 2, 1) := by decide +kernel
theorem dX9_shiftOf_4 : decode cX9_shiftOf 4 = .ok (.iload_n 2, 1) := by decide +kernel
theorem dX9_shiftOf_5 : decode cX9_shiftOf 5 = .ok (.iconst 4, 1) := by decide +kernel
theorem dX9_shiftOf_6 : decode cX9_shiftOf 6 = .ok (.if_icmp .ge 26, 3) := by decide +kernel
theorem dX9_shiftOf_9 : decode cX9_shiftOf 9 = .ok (.iload_n 0, 1) := by decide +kernel
theorem dX9_shiftOf_10 : decode cX9_shiftOf 10 = .ok (.iload_n 2, 1) := by decide +kernel
theorem dX9_shiftOf_11 : decode cX9_shiftOf 11 = .ok (.ishr, 1) := by decide +kernel
theorem dX9_shiftOf_12 : decode cX9_shiftOf 12 = .ok (.iconst 1, 1) := by decide +kernel
theorem dX9_shiftOf_13 : decode cX9_shiftOf 13 = .ok (.iand, 1) := by decide +kernel
theorem dX9_shiftOf_14 : decode cX9_shiftOf 14 = .ok (.iconst 1, 1) := by decide +kernel
theorem dX9_shiftOf_15 : decode cX9_shiftOf 15 = .ok (.if_icmp .ne 11, 3) := by decide +kernel
theorem dX9_shiftOf_18 : decode cX9_shiftOf 18 = .ok (.iload_n 1, 1) := by decide +kernel
theorem dX9_shiftOf_19 : decode cX9_shiftOf 19 = .ok (.getstatic 166, 3) := by decide +kernel
theorem dX9_shiftOf_22 : decode cX9_shiftOf 22 = .ok (.iload_n 2, 1) := by decide +kernel
theorem dX9_shiftOf_23 : decode cX9_shiftOf 23 = .ok (.iaload, 1) := by decide +kernel
theorem dX9_shiftOf_24 : decode cX9_shiftOf 24 = .ok (.iadd, 1) := by decide +kernel
theorem dX9_shiftOf_25 : decode cX9_shiftOf 25 = .ok (.istore_n 1, 1) := by decide +kernel
theorem dX9_shiftOf_26 : decode cX9_shiftOf 26 = .ok (.iinc 2 1, 3) := by decide +kernel
theorem dX9_shiftOf_29 : decode cX9_shiftOf 29 = .ok (.goto (-25), 3) := by decide +kernel
theorem dX9_shiftOf_32 : decode cX9_shiftOf 32 = .ok (.iload_n 1, 1) := by decide +kernel
theorem dX9_shiftOf_33 : decode cX9_shiftOf 33 = .ok (.ireturn, 1) := by decide +kernel
theorem dX9_tellHint_0 : decode cX9_tellHint 0 = .ok (.aload_n 0, 1) := by decide +kernel
theorem dX9_tellHint_1 : decode cX9_tellHint 1 = .ok (.iload_n 2, 1) := by decide +kernel
theorem dX9_tellHint_2 : decode cX9_tellHint 2 = .ok (.invokevirtual 169, 3) := by decide +kernel
theorem dX9_tellHint_5 : decode cX9_tellHint 5 = .ok (.ifCond .eq 16, 3) := by decide +kernel
theorem dX9_tellHint_8 : decode cX9_tellHint 8 = .ok (.aload_n 0, 1) := by decide +kernel
theorem dX9_tellHint_9 : decode cX9_tellHint 9 = .ok (.iload_n 3, 1) := by decide +kernel
theorem dX9_tellHint_10 : decode cX9_tellHint 10 = .ok (.invokevirtual 169, 3) := by decide +kernel
theorem dX9_tellHint_13 : decode cX9_tellHint 13 = .ok (.ifCond .eq 8, 3) := by decide +kernel
theorem dX9_tellHint_16 : decode cX9_tellHint 16 = .ok (.iload_n 2, 1) := by decide +kernel
theorem dX9_tellHint_17 : decode cX9_tellHint 17 = .ok (.iload_n 3, 1) := by decide +kernel
theorem dX9_tellHint_18 : decode cX9_tellHint 18 = .ok (.if_icmp .ne 5, 3) := by decide +kernel
theorem dX9_tellHint_21 : decode cX9_tellHint 21 = .ok (.iconst 1, 1) := by decide +kernel
theorem dX9_tellHint_22 : decode cX9_tellHint 22 = .ok (.ireturn, 1) := by decide +kernel
theorem dX9_tellHint_23 : decode cX9_tellHint 23 = .ok (.aload_n 1, 1) := by decide +kernel
theorem dX9_tellHint_24 : decode cX9_tellHint 24 = .ok (.iload_n 2, 1) := by decide +kernel
theorem dX9_tellHint_25 : decode cX9_tellHint 25 = .ok (.iload_n 3, 1) := by decide +kernel
theorem dX9_tellHint_26 : decode cX9_tellHint 26 = .ok (.iload 4, 2) := by decide +kernel
theorem dX9_tellHint_28 : decode cX9_tellHint 28 = .ok (.invokevirtual 173, 3) := by decide +kernel
theorem dX9_tellHint_31 : decode cX9_tellHint 31 = .ok (.iconst 0, 1) := by decide +kernel
theorem dX9_tellHint_32 : decode cX9_tellHint 32 = .ok (.ireturn, 1) := by decide +kernel
theorem dX9_isPerson_0 : decode cX9_isPerson 0 = .ok (.iload_n 1, 1) := by decide +kernel
theorem dX9_isPerson_1 : decode cX9_isPerson 1 = .ok (.ifCond .lt 18, 3) := by decide +kernel
theorem dX9_isPerson_4 : decode cX9_isPerson 4 = .ok (.iload_n 1, 1) := by decide +kernel
theorem dX9_isPerson_5 : decode cX9_isPerson 5 = .ok (.aload_n 0, 1) := by decide +kernel
theorem dX9_isPerson_6 : decode cX9_isPerson 6 = .ok (.getfield 21, 3) := by decide +kernel
theorem dX9_isPerson_9 : decode cX9_isPerson 9 = .ok (.getfield 177, 3) := by decide +kernel
theorem dX9_isPerson_12 : decode cX9_isPerson 12 = .ok (.if_icmp .ge 7, 3) := by decide +kernel
theorem dX9_isPerson_15 : decode cX9_isPerson 15 = .ok (.iconst 1, 1) := by decide +kernel
theorem dX9_isPerson_16 : decode cX9_isPerson 16 = .ok (.goto 4, 3) := by decide +kernel
theorem dX9_isPerson_19 : decode cX9_isPerson 19 = .ok (.iconst 0, 1) := by decide +kernel
theorem dX9_isPerson_20 : decode cX9_isPerson 20 = .ok (.ireturn, 1) := by decide +kernel
theorem dX9_changeDraught_0 : decode cX9_changeDraught 0 = .ok (.iload_n 2, 1) := by decide +kernel
theorem dX9_changeDraught_1 : decode cX9_changeDraught 1 = .ok (.ifCond .lt 9, 3) := by decide +kernel
theorem dX9_changeDraught_4 : decode cX9_changeDraught 4 = .ok (.iload_n 2, 1) := by decide +kernel
theorem dX9_changeDraught_5 : decode cX9_changeDraught 5 = .ok (.bipush 9, 2) := by decide +kernel
theorem dX9_changeDraught_7 : decode cX9_changeDraught 7 = .ok (.if_icmp .le 5, 3) := by decide +kernel
theorem dX9_changeDraught_10 : decode cX9_changeDraught 10 = .ok (.iconst 1, 1) := by decide +kernel
theorem dX9_changeDraught_11 : decode cX9_changeDraught 11 = .ok (.ireturn, 1) := by decide +kernel
theorem dX9_changeDraught_12 : decode cX9_changeDraught 12 = .ok (.aload_n 1, 1) := by decide +kernel
theorem dX9_changeDraught_13 : decode cX9_changeDraught 13 = .ok (.iload_n 2, 1) := by decide +kernel
theorem dX9_changeDraught_14 : decode cX9_changeDraught 14 = .ok (.putfield 127, 3) := by decide +kernel
theorem dX9_changeDraught_17 : decode cX9_changeDraught 17 = .ok (.iconst 0, 1) := by decide +kernel
theorem dX9_changeDraught_18 : decode cX9_changeDraught 18 = .ok (.ireturn, 1) := by decide +kernel
theorem dX9_doDeed_0 : decode cX9_doDeed 0 = .ok (.lload_n 2, 1) := by decide +kernel
theorem dX9_doDeed_1 : decode cX9_doDeed 1 = .ok (.lconst 0, 1) := by decide +kernel
theorem dX9_doDeed_2 : decode cX9_doDeed 2 = .ok (.lcmp, 1) := by decide +kernel
theorem dX9_doDeed_3 : decode cX9_doDeed 3 = .ok (.ifCond .lt 19, 3) := by decide +kernel
theorem dX9_doDeed_6 : decode cX9_doDeed 6 = .ok (.lload_n 2, 1) := by decide +kernel
theorem dX9_doDeed_7 : decode cX9_doDeed 7 = .ok (.ldc2_w 180, 3) := by decide +kernel
theorem dX9_doDeed_10 : decode cX9_doDeed 10 = .ok (.lcmp, 1) := by decide +kernel
theorem dX9_doDeed_11 : decode cX9_doDeed 11 = .ok (.ifCond .gt 11, 3) := by decide +kernel
theorem dX9_doDeed_14 : decode cX9_doDeed 14 = .ok (.aload_n 0, 1) := by decide +kernel
theorem dX9_doDeed_15 : decode cX9_doDeed 15 = .ok (.aload_n 1, 1) := by decide +kernel
theorem dX9_doDeed_16 : decode cX9_doDeed 16 = .ok (.lload_n 2, 1) := by decide +kernel
theorem dX9_doDeed_17 : decode cX9_doDeed 17 = .ok (.l2i, 1) := by decide +kernel
theorem dX9_doDeed_18 : decode cX9_doDeed 18 = .ok (.invokevirtual 182, 3) := by decide +kernel
theorem dX9_doDeed_21 : decode cX9_doDeed 21 = .ok (.ireturn, 1) := by decide +kernel
theorem dX9_doDeed_22 : decode cX9_doDeed 22 = .ok (.lload_n 2, 1) := by decide +kernel
theorem dX9_doDeed_23 : decode cX9_doDeed 23 = .ok (.ldc2_w 185, 3) := by decide +kernel
theorem dX9_doDeed_26 : decode cX9_doDeed 26 = .ok (.lcmp, 1) := by decide +kernel
theorem dX9_doDeed_27 : decode cX9_doDeed 27 = .ok (.ifCond .lt 22, 3) := by decide +kernel
theorem dX9_doDeed_30 : decode cX9_doDeed 30 = .ok (.lload_n 2, 1) := by decide +kernel
theorem dX9_doDeed_31 : decode cX9_doDeed 31 = .ok (.ldc2_w 187, 3) := by decide +kernel
theorem dX9_doDeed_34 : decode cX9_doDeed 34 = .ok (.lcmp, 1) := by decide +kernel
theorem dX9_doDeed_35 : decode cX9_doDeed 35 = .ok (.ifCond .gt 14, 3) := by decide +kernel
theorem dX9_doDeed_38 : decode cX9_doDeed 38 = .ok (.aload_n 0, 1) := by decide +kernel
theorem dX9_doDeed_39 : decode cX9_doDeed 39 = .ok (.aload_n 1, 1) := by decide +kernel
theorem dX9_doDeed_40 : decode cX9_doDeed 40 = .ok (.lload_n 2, 1) := by decide +kernel
theorem dX9_doDeed_41 : decode cX9_doDeed 41 = .ok (.l2i, 1) := by decide +kernel
theorem dX9_doDeed_42 : decode cX9_doDeed 42 = .ok (.bipush 100, 2) := by decide +kernel
theorem dX9_doDeed_44 : decode cX9_doDeed 44 = .ok (.isub, 1) := by decide +kernel
theorem dX9_doDeed_45 : decode cX9_doDeed 45 = .ok (.invokevirtual 189, 3) := by decide +kernel
theorem dX9_doDeed_48 : decode cX9_doDeed 48 = .ok (.ireturn, 1) := by decide +kernel
theorem dX9_doDeed_49 : decode cX9_doDeed 49 = .ok (.lload_n 2, 1) := by decide +kernel
theorem dX9_doDeed_50 : decode cX9_doDeed 50 = .ok (.ldc2_w 192, 3) := by decide +kernel
theorem dX9_doDeed_53 : decode cX9_doDeed 53 = .ok (.lcmp, 1) := by decide +kernel
theorem dX9_doDeed_54 : decode cX9_doDeed 54 = .ok (.ifCond .lt 47, 3) := by decide +kernel
theorem dX9_doDeed_57 : decode cX9_doDeed 57 = .ok (.lload_n 2, 1) := by decide +kernel
theorem dX9_doDeed_58 : decode cX9_doDeed 58 = .ok (.ldc2_w 194, 3) := by decide +kernel
theorem dX9_doDeed_61 : decode cX9_doDeed 61 = .ok (.lcmp, 1) := by decide +kernel
theorem dX9_doDeed_62 : decode cX9_doDeed 62 = .ok (.ifCond .gt 39, 3) := by decide +kernel
theorem dX9_doDeed_65 : decode cX9_doDeed 65 = .ok (.lload_n 2, 1) := by decide +kernel
theorem dX9_doDeed_66 : decode cX9_doDeed 66 = .ok (.l2i, 1) := by decide +kernel
theorem dX9_doDeed_67 : decode cX9_doDeed 67 = .ok (.istore 4, 2) := by decide +kernel
theorem dX9_doDeed_69 : decode cX9_doDeed 69 = .ok (.aload_n 0, 1) := by decide +kernel
theorem dX9_doDeed_70 : decode cX9_doDeed 70 = .ok (.aload_n 1, 1) := by decide +kernel
theorem dX9_doDeed_71 : decode cX9_doDeed 71 = .ok (.iload 4, 2) := by decide +kernel
theorem dX9_doDeed_73 : decode cX9_doDeed 73 = .ok (.bipush 10, 2) := by decide +kernel
theorem dX9_doDeed_75 : decode cX9_doDeed 75 = .ok (.idiv, 1) := by decide +kernel
theorem dX9_doDeed_76 : decode cX9_doDeed 76 = .ok (.bipush 10, 2) := by decide +kernel
theorem dX9_doDeed_78 : decode cX9_doDeed 78 = .ok (.irem, 1) := by decide +kernel
theorem dX9_doDeed_79 : decode cX9_doDeed 79 = .ok (.iload 4, 2) := by decide +kernel
theorem dX9_doDeed_81 : decode cX9_doDeed 81 = .ok (.bipush 10, 2) := by decide +kernel
theorem dX9_doDeed_83 : decode cX9_doDeed 83 = .ok (.irem, 1) := by decide +kernel
theorem dX9_doDeed_84 : decode cX9_doDeed 84 = .ok (.iload 4, 2) := by decide +kernel
theorem dX9_doDeed_86 : decode cX9_doDeed 86 = .ok (.sipush 300, 3) := by decide +kernel
theorem dX9_doDeed_89 : decode cX9_doDeed 89 = .ok (.if_icmp .ge 7, 3) := by decide +kernel
theorem dX9_doDeed_92 : decode cX9_doDeed 92 = .ok (.iconst 1, 1) := by decide +kernel
theorem dX9_doDeed_93 : decode cX9_doDeed 93 = .ok (.goto 4, 3) := by decide +kernel
theorem dX9_doDeed_96 : decode cX9_doDeed 96 = .ok (.iconst 0, 1) := by decide +kernel
theorem dX9_doDeed_97 : decode cX9_doDeed 97 = .ok (.invokevirtual 196, 3) := by decide +kernel
theorem dX9_doDeed_100 : decode cX9_doDeed 100 = .ok (.ireturn, 1) := by decide +kernel
theorem dX9_doDeed_101 : decode cX9_doDeed 101 = .ok (.iconst 1, 1) := by decide +kernel
theorem dX9_doDeed_102 : decode cX9_doDeed 102 = .ok (.ireturn, 1) := by decide +kernel
theorem dX9_keepForUndo_0 : decode cX9_keepForUndo 0 = .ok (.aload_n 0, 1) := by decide +kernel
theorem dX9_keepForUndo_1 : decode cX9_keepForUndo 1 = .ok (.getfield 102, 3) := by decide +kernel
theorem dX9_keepForUndo_4 : decode cX9_keepForUndo 4 = .ok (.bipush 10, 2) := by decide +kernel
theorem dX9_keepForUndo_6 : decode cX9_keepForUndo 6 = .ok (.if_icmp .ne 56, 3) := by decide +kernel
theorem dX9_keepForUndo_9 : decode cX9_keepForUndo 9 = .ok (.aload_n 0, 1) := by decide +kernel
theorem dX9_keepForUndo_10 : decode cX9_keepForUndo 10 = .ok (.getfield 35, 3) := by decide +kernel
theorem dX9_keepForUndo_13 : decode cX9_keepForUndo 13 = .ok (.iconst 0, 1) := by decide +kernel
theorem dX9_keepForUndo_14 : decode cX9_keepForUndo 14 = .ok (.aaload, 1) := by decide +kernel
theorem dX9_keepForUndo_15 : decode cX9_keepForUndo 15 = .ok (.astore_n 2, 1) := by decide +kernel
theorem dX9_keepForUndo_16 : decode cX9_keepForUndo 16 = .ok (.iconst 1, 1) := by decide +kernel
theorem dX9_keepForUndo_17 : decode cX9_keepForUndo 17 = .ok (.istore_n 3, 1) := by decide +kernel
theorem dX9_keepForUndo_18 : decode cX9_keepForUndo 18 = .ok (.iload_n 3, 1) := by decide +kernel
theorem dX9_keepForUndo_19 : decode cX9_keepForUndo 19 = .ok (.bipush 10, 2) := by decide +kernel
theorem dX9_keepForUndo_21 : decode cX9_keepForUndo 21 = .ok (.if_icmp .ge 23, 3) := by decide +kernel
theorem dX9_keepForUndo_24 : decode cX9_keepForUndo 24 = .ok (.aload_n 0, 1) := by decide +kernel
theorem dX9_keepForUndo_25 : decode cX9_keepForUndo 25 = .ok (.getfield 35, 3) := by decide +kernel
theorem dX9_keepForUndo_28 : decode cX9_keepForUndo 28 = .ok (.iload_n 3, 1) := by decide +kernel
theorem dX9_keepForUndo_29 : decode cX9_keepForUndo 29 = .ok (.iconst 1, 1) := by decide +kernel
theorem dX9_keepForUndo_30 : decode cX9_keepForUndo 30 = .ok (.isub, 1) := by decide +kernel
theorem dX9_keepForUndo_31 : decode cX9_keepForUndo 31 = .ok (.aload_n 0, 1) := by decide +kernel
theorem dX9_keepForUndo_32 : decode cX9_keepForUndo 32 = .ok (.getfield 35, 3) := by decide +kernel
theorem dX9_keepForUndo_35 : decode cX9_keepForUndo 35 = .ok (.iload_n 3, 1) := by decide +kernel
theorem dX9_keepForUndo_36 : decode cX9_keepForUndo 36 = .ok (.aaload, 1) := by decide +kernel
theorem dX9_keepForUndo_37 : decode cX9_keepForUndo 37 = .ok (.aastore, 1) := by decide +kernel
theorem dX9_keepForUndo_38 : decode cX9_keepForUndo 38 = .ok (.iinc 3 1, 3) := by decide +kernel
theorem dX9_keepForUndo_41 : decode cX9_keepForUndo 41 = .ok (.goto (-23), 3) := by decide +kernel
theorem dX9_keepForUndo_44 : decode cX9_keepForUndo 44 = .ok (.aload_n 0, 1) := by decide +kernel
theorem dX9_keepForUndo_45 : decode cX9_keepForUndo 45 = .ok (.getfield 35, 3) := by decide +kernel
theorem dX9_keepForUndo_48 : decode cX9_keepForUndo 48 = .ok (.bipush 9, 2) := by decide +kernel
theorem dX9_keepForUndo_50 : decode cX9_keepForUndo 50 = .ok (.aload_n 2, 1) := by decide +kernel
theorem dX9_keepForUndo_51 : decode cX9_keepForUndo 51 = .ok (.aastore, 1) := by decide +kernel
theorem dX9_keepForUndo_52 : decode cX9_keepForUndo 52 = .ok (.aload_n 0, 1) := by decide +kernel
theorem dX9_keepForUndo_53 : decode cX9_keepForUndo 53 = .ok (.dup, 1) := by decide +kernel
theorem dX9_keepForUndo_54 : decode cX9_keepForUndo 54 = .ok (.getfield 102, 3) := by decide +kernel
theorem dX9_keepForUndo_57 : decode cX9_keepForUndo 57 = .ok (.iconst 1, 1) := by decide +kernel
theorem dX9_keepForUndo_58 : decode cX9_keepForUndo 58 = .ok (.isub, 1) := by decide +kernel
theorem dX9_keepForUndo_59 : decode cX9_keepForUndo 59 = .ok (.putfield 102, 3) := by decide +kernel
theorem dX9_keepForUndo_62 : decode cX9_keepForUndo 62 = .ok (.aload_n 0, 1) := by decide +kernel
theorem dX9_keepForUndo_63 : decode cX9_keepForUndo 63 = .ok (.getfield 35, 3) := by decide +kernel
theorem dX9_keepForUndo_66 : decode cX9_keepForUndo 66 = .ok (.aload_n 0, 1) := by decide +kernel
theorem dX9_keepForUndo_67 : decode cX9_keepForUndo 67 = .ok (.getfield 102, 3) := by decide +kernel
theorem dX9_keepForUndo_70 : decode cX9_keepForUndo 70 = .ok (.aaload, 1) := by decide +kernel
theorem dX9_keepForUndo_71 : decode cX9_keepForUndo 71 = .ok (.aload_n 1, 1) := by decide +kernel
theorem dX9_keepForUndo_72 : decode cX9_keepForUndo 72 = .ok (.invokevirtual 81, 3) := by decide +kernel
theorem dX9_keepForUndo_75 : decode cX9_keepForUndo 75 = .ok (.aload_n 0, 1) := by decide +kernel
theorem dX9_keepForUndo_76 : decode cX9_keepForUndo 76 = .ok (.dup, 1) := by decide +kernel
theorem dX9_keepForUndo_77 : decode cX9_keepForUndo 77 = .ok (.getfield 102, 3) := by decide +kernel
theorem dX9_keepForUndo_80 : decode cX9_keepForUndo 80 = .ok (.iconst 1, 1) := by decide +kernel
theorem dX9_keepForUndo_81 : decode cX9_keepForUndo 81 = .ok (.iadd, 1) := by decide +kernel
theorem dX9_keepForUndo_82 : decode cX9_keepForUndo 82 = .ok (.putfield 102, 3) := by decide +kernel
theorem dX9_keepForUndo_85 : decode cX9_keepForUndo 85 = .ok (.return_, 1) := by decide +kernel
theorem dX9_hour_0 : decode cX9_hour 0 = .ok (.aload_n 0, 1) := by decide +kernel
theorem dX9_hour_1 : decode cX9_hour 1 = .ok (.getfield 32, 3) := by decide +kernel
theorem dX9_hour_4 : decode cX9_hour 4 = .ok (.aload_n 0, 1) := by decide +kernel
theorem dX9_hour_5 : decode cX9_hour 5 = .ok (.getfield 28, 3) := by decide +kernel
theorem dX9_hour_8 : decode cX9_hour 8 = .ok (.invokevirtual 81, 3) := by decide +kernel
theorem dX9_hour_11 : decode cX9_hour 11 = .ok (.aload_n 0, 1) := by decide +kernel
theorem dX9_hour_12 : decode cX9_hour 12 = .ok (.aload_n 0, 1) := by decide +kernel
theorem dX9_hour_13 : decode cX9_hour 13 = .ok (.getfield 28, 3) := by decide +kernel
theorem dX9_hour_16 : decode cX9_hour 16 = .ok (.iload_n 1, 1) := by decide +kernel
theorem dX9_hour_17 : decode cX9_hour 17 = .ok (.invokevirtual 182, 3) := by decide +kernel
theorem dX9_hour_20 : decode cX9_hour 20 = .ok (.istore_n 2, 1) := by decide +kernel
theorem dX9_hour_21 : decode cX9_hour 21 = .ok (.iload_n 2, 1) := by decide +kernel
theorem dX9_hour_22 : decode cX9_hour 22 = .ok (.ifCond .eq 8, 3) := by decide +kernel
theorem dX9_hour_25 : decode cX9_hour 25 = .ok (.bipush (-10), 2) := by decide +kernel
theorem dX9_hour_27 : decode cX9_hour 27 = .ok (.iload_n 2, 1) := by decide +kernel
theorem dX9_hour_28 : decode cX9_hour 28 = .ok (.isub, 1) := by decide +kernel
theorem dX9_hour_29 : decode cX9_hour 29 = .ok (.ireturn, 1) := by decide +kernel
theorem dX9_hour_30 : decode cX9_hour 30 = .ok (.aload_n 0, 1) := by decide +kernel
theorem dX9_hour_31 : decode cX9_hour 31 = .ok (.aload_n 0, 1) := by decide +kernel
theorem dX9_hour_32 : decode cX9_hour 32 = .ok (.getfield 32, 3) := by decide +kernel
theorem dX9_hour_35 : decode cX9_hour 35 = .ok (.invokevirtual 200, 3) := by decide +kernel
theorem dX9_hour_38 : decode cX9_hour 38 = .ok (.aload_n 0, 1) := by decide +kernel
theorem dX9_hour_39 : decode cX9_hour 39 = .ok (.getfield 28, 3) := by decide +kernel
theorem dX9_hour_42 : decode cX9_hour 42 = .ok (.getfield 137, 3) := by decide +kernel
theorem dX9_hour_45 : decode cX9_hour 45 = .ok (.ireturn, 1) := by decide +kernel
theorem dX9_hours_0 : decode cX9_hours 0 = .ok (.iload_n 1, 1) := by decide +kernel
theorem dX9_hours_1 : decode cX9_hours 1 = .ok (.iconst 1, 1) := by decide +kernel
theorem dX9_hours_2 : decode cX9_hours 2 = .ok (.if_icmp .lt 9, 3) := by decide +kernel
theorem dX9_hours_5 : decode cX9_hours 5 = .ok (.iload_n 1, 1) := by decide +kernel
theorem dX9_hours_6 : decode cX9_hours 6 = .ok (.bipush 99, 2) := by decide +kernel
theorem dX9_hours_8 : decode cX9_hours 8 = .ok (.if_icmp .le 6, 3) := by decide +kernel
theorem dX9_hours_11 : decode cX9_hours 11 = .ok (.bipush (-11), 2) := by decide +kernel
theorem dX9_hours_13 : decode cX9_hours 13 = .ok (.ireturn, 1) := by decide +kernel
theorem dX9_hours_14 : decode cX9_hours 14 = .ok (.aload_n 0, 1) := by decide +kernel
theorem dX9_hours_15 : decode cX9_hours 15 = .ok (.getfield 28, 3) := by decide +kernel
theorem dX9_hours_18 : decode cX9_hours 18 = .ok (.getfield 137, 3) := by decide +kernel
theorem dX9_hours_21 : decode cX9_hours 21 = .ok (.ifCond .ne 6, 3) := by decide +kernel
theorem dX9_hours_24 : decode cX9_hours 24 = .ok (.bipush (-13), 2) := by decide +kernel
theorem dX9_hours_26 : decode cX9_hours 26 = .ok (.ireturn, 1) := by decide +kernel
theorem dX9_hours_27 : decode cX9_hours 27 = .ok (.aload_n 0, 1) := by decide +kernel
theorem dX9_hours_28 : decode cX9_hours 28 = .ok (.aload_n 0, 1) := by decide +kernel
theorem dX9_hours_29 : decode cX9_hours 29 = .ok (.getfield 28, 3) := by decide +kernel
theorem dX9_hours_32 : decode cX9_hours 32 = .ok (.invokevirtual 200, 3) := by decide +kernel
theorem dX9_hours_35 : decode cX9_hours 35 = .ok (.iconst 0, 1) := by decide +kernel
theorem dX9_hours_36 : decode cX9_hours 36 = .ok (.istore_n 2, 1) := by decide +kernel
theorem dX9_hours_37 : decode cX9_hours 37 = .ok (.iload_n 2, 1) := by decide +kernel
theorem dX9_hours_38 : decode cX9_hours 38 = .ok (.iload_n 1, 1) := by decide +kernel
theorem dX9_hours_39 : decode cX9_hours 39 = .ok (.if_icmp .ge 29, 3) := by decide +kernel
theorem dX9_hours_42 : decode cX9_hours 42 = .ok (.aload_n 0, 1) := by decide +kernel
theorem dX9_hours_43 : decode cX9_hours 43 = .ok (.getfield 28, 3) := by decide +kernel
theorem dX9_hours_46 : decode cX9_hours 46 = .ok (.getfield 137, 3) := by decide +kernel
theorem dX9_hours_49 : decode cX9_hours 49 = .ok (.ifCond .le 19, 3) := by decide +kernel
theorem dX9_hours_52 : decode cX9_hours 52 = .ok (.aload_n 0, 1) := by decide +kernel
theorem dX9_hours_53 : decode cX9_hours 53 = .ok (.aload_n 0, 1) := by decide +kernel
theorem dX9_hours_54 : decode cX9_hours 54 = .ok (.getfield 28, 3) := by decide +kernel
theorem dX9_hours_57 : decode cX9_hours 57 = .ok (.iconst 0, 1) := by decide +kernel
theorem dX9_hours_58 : decode cX9_hours 58 = .ok (.invokevirtual 182, 3) := by decide +kernel
theorem dX9_hours_61 : decode cX9_hours 61 = .ok (.pop, 1) := by decide +kernel
theorem dX9_hours_62 : decode cX9_hours 62 = .ok (.iinc 2 1, 3) := by decide +kernel
theorem dX9_hours_65 : decode cX9_hours 65 = .ok (.goto (-28), 3) := by decide +kernel
theorem dX9_hours_68 : decode cX9_hours 68 = .ok (.aload_n 0, 1) := by decide +kernel
theorem dX9_hours_69 : decode cX9_hours 69 = .ok (.getfield 28, 3) := by decide +kernel
theorem dX9_hours_72 : decode cX9_hours 72 = .ok (.getfield 137, 3) := by decide +kernel
theorem dX9_hours_75 : decode cX9_hours 75 = .ok (.ireturn, 1) := by decide +kernel
theorem dX9_hint_0 : decode cX9_hint 0 = .ok (.aload_n 0, 1) := by decide +kernel
theorem dX9_hint_1 : decode cX9_hint 1 = .ok (.getfield 32, 3) := by decide +kernel
theorem dX9_hint_4 : decode cX9_hint 4 = .ok (.aload_n 0, 1) := by decide +kernel
theorem dX9_hint_5 : decode cX9_hint 5 = .ok (.getfield 28, 3) := by decide +kernel
theorem dX9_hint_8 : decode cX9_hint 8 = .ok (.invokevirtual 81, 3) := by decide +kernel
theorem dX9_hint_11 : decode cX9_hint 11 = .ok (.iload_n 3, 1) := by decide +kernel
theorem dX9_hint_12 : decode cX9_hint 12 = .ok (.ifCond .lt 31, 3) := by decide +kernel
theorem dX9_hint_15 : decode cX9_hint 15 = .ok (.iload_n 3, 1) := by decide +kernel
theorem dX9_hint_16 : decode cX9_hint 16 = .ok (.iconst 1, 1) := by decide +kernel
theorem dX9_hint_17 : decode cX9_hint 17 = .ok (.if_icmp .gt 26, 3) := by decide +kernel
theorem dX9_hint_20 : decode cX9_hint 20 = .ok (.aload_n 0, 1) := by decide +kernel
theorem dX9_hint_21 : decode cX9_hint 21 = .ok (.aload_n 0, 1) := by decide +kernel
theorem dX9_hint_22 : decode cX9_hint 22 = .ok (.getfield 28, 3) := by decide +kernel
theorem dX9_hint_25 : decode cX9_hint 25 = .ok (.iload_n 1, 1) := by decide +kernel
theorem dX9_hint_26 : decode cX9_hint 26 = .ok (.iload_n 2, 1) := by decide +kernel
theorem dX9_hint_27 : decode cX9_hint 27 = .ok (.iload_n 3, 1) := by decide +kernel
theorem dX9_hint_28 : decode cX9_hint 28 = .ok (.iconst 1, 1) := by decide +kernel
theorem dX9_hint_29 : decode cX9_hint 29 = .ok (.if_icmp .ne 7, 3) := by decide +kernel
theorem dX9_hint_32 : decode cX9_hint 32 = .ok (.iconst 1, 1) := by decide +kernel
theorem dX9_hint_33 : decode cX9_hint 33 = .ok (.goto 4, 3) := by decide +kernel
theorem dX9_hint_36 : decode cX9_hint 36 = .ok (.iconst 0, 1) := by decide +kernel
theorem dX9_hint_37 : decode cX9_hint 37 = .ok (.invokevirtual 196, 3) := by decide +kernel
theorem dX9_hint_40 : decode cX9_hint 40 = .ok (.ifCond .eq 6, 3) := by decide +kernel
theorem dX9_hint_43 : decode cX9_hint 43 = .ok (.bipush (-11), 2) := by decide +kernel
theorem dX9_hint_45 : decode cX9_hint 45 = .ok (.ireturn, 1) := by decide +kernel
theorem dX9_hint_46 : decode cX9_hint 46 = .ok (.aload_n 0, 1) := by decide +kernel
theorem dX9_hint_47 : decode cX9_hint 47 = .ok (.aload_n 0, 1) := by decide +kernel
theorem dX9_hint_48 : decode cX9_hint 48 = .ok (.getfield 32, 3) := by decide +kernel
theorem dX9_hint_51 : decode cX9_hint 51 = .ok (.invokevirtual 200, 3) := by decide +kernel
theorem dX9_hint_54 : decode cX9_hint 54 = .ok (.aload_n 0, 1) := by decide +kernel
theorem dX9_hint_55 : decode cX9_hint 55 = .ok (.invokevirtual 203, 3) := by decide +kernel
theorem dX9_hint_58 : decode cX9_hint 58 = .ok (.getfield 207, 3) := by decide +kernel
theorem dX9_hint_61 : decode cX9_hint 61 = .ok (.ireturn, 1) := by decide +kernel
theorem dX9_draught_0 : decode cX9_draught 0 = .ok (.aload_n 0, 1) := by decide +kernel
theorem dX9_draught_1 : decode cX9_draught 1 = .ok (.getfield 32, 3) := by decide +kernel
theorem dX9_draught_4 : decode cX9_draught 4 = .ok (.aload_n 0, 1) := by decide +kernel
theorem dX9_draught_5 : decode cX9_draught 5 = .ok (.getfield 28, 3) := by decide +kernel
theorem dX9_draught_8 : decode cX9_draught 8 = .ok (.invokevirtual 81, 3) := by decide +kernel
theorem dX9_draught_11 : decode cX9_draught 11 = .ok (.aload_n 0, 1) := by decide +kernel
theorem dX9_draught_12 : decode cX9_draught 12 = .ok (.aload_n 0, 1) := by decide +kernel
theorem dX9_draught_13 : decode cX9_draught 13 = .ok (.getfield 28, 3) := by decide +kernel
theorem dX9_draught_16 : decode cX9_draught 16 = .ok (.iload_n 1, 1) := by decide +kernel
theorem dX9_draught_17 : decode cX9_draught 17 = .ok (.invokevirtual 189, 3) := by decide +kernel
theorem dX9_draught_20 : decode cX9_draught 20 = .ok (.ifCond .eq 6, 3) := by decide +kernel
theorem dX9_draught_23 : decode cX9_draught 23 = .ok (.bipush (-11), 2) := by decide +kernel
theorem dX9_draught_25 : decode cX9_draught 25 = .ok (.ireturn, 1) := by decide +kernel
theorem dX9_draught_26 : decode cX9_draught 26 = .ok (.aload_n 0, 1) := by decide +kernel
theorem dX9_draught_27 : decode cX9_draught 27 = .ok (.aload_n 0, 1) := by decide +kernel
theorem dX9_draught_28 : decode cX9_draught 28 = .ok (.getfield 32, 3) := by decide +kernel
theorem dX9_draught_31 : decode cX9_draught 31 = .ok (.invokevirtual 200, 3) := by decide +kernel
theorem dX9_draught_34 : decode cX9_draught 34 = .ok (.aload_n 0, 1) := by decide +kernel
theorem dX9_draught_35 : decode cX9_draught 35 = .ok (.getfield 32, 3) := by decide +kernel
theorem dX9_draught_38 : decode cX9_draught 38 = .ok (.getfield 127, 3) := by decide +kernel
theorem dX9_draught_41 : decode cX9_draught 41 = .ok (.ireturn, 1) := by decide +kernel
theorem dX9_undo_0 : decode cX9_undo 0 = .ok (.iload_n 1, 1) := by decide +kernel
theorem dX9_undo_1 : decode cX9_undo 1 = .ok (.iconst 1, 1) := by decide +kernel
theorem dX9_undo_2 : decode cX9_undo 2 = .ok (.if_icmp .lt 17, 3) := by decide +kernel
theorem dX9_undo_5 : decode cX9_undo 5 = .ok (.iload_n 1, 1) := by decide +kernel
theorem dX9_undo_6 : decode cX9_undo 6 = .ok (.bipush 10, 2) := by decide +kernel
theorem dX9_undo_8 : decode cX9_undo 8 = .ok (.if_icmp .gt 11, 3) := by decide +kernel
theorem dX9_undo_11 : decode cX9_undo 11 = .ok (.iload_n 1, 1) := by decide +kernel
theorem dX9_undo_12 : decode cX9_undo 12 = .ok (.aload_n 0, 1) := by decide +kernel
theorem dX9_undo_13 : decode cX9_undo 13 = .ok (.getfield 102, 3) := by decide +kernel
theorem dX9_undo_16 : decode cX9_undo 16 = .ok (.if_icmp .le 6, 3) := by decide +kernel
theorem dX9_undo_19 : decode cX9_undo 19 = .ok (.bipush (-3), 2) := by decide +kernel
theorem dX9_undo_21 : decode cX9_undo 21 = .ok (.ireturn, 1) := by decide +kernel
theorem dX9_undo_22 : decode cX9_undo 22 = .ok (.aload_n 0, 1) := by decide +kernel
theorem dX9_undo_23 : decode cX9_undo 23 = .ok (.dup, 1) := by decide +kernel
theorem dX9_undo_24 : decode cX9_undo 24 = .ok (.getfield 102, 3) := by decide +kernel
theorem dX9_undo_27 : decode cX9_undo 27 = .ok (.iload_n 1, 1) := by decide +kernel
theorem dX9_undo_28 : decode cX9_undo 28 = .ok (.isub, 1) := by decide +kernel
theorem dX9_undo_29 : decode cX9_undo 29 = .ok (.putfield 102, 3) := by decide +kernel
theorem dX9_undo_32 : decode cX9_undo 32 = .ok (.aload_n 0, 1) := by decide +kernel
theorem dX9_undo_33 : decode cX9_undo 33 = .ok (.getfield 28, 3) := by decide +kernel
theorem dX9_undo_36 : decode cX9_undo 36 = .ok (.aload_n 0, 1) := by decide +kernel
theorem dX9_undo_37 : decode cX9_undo 37 = .ok (.getfield 35, 3) := by decide +kernel
theorem dX9_undo_40 : decode cX9_undo 40 = .ok (.aload_n 0, 1) := by decide +kernel
theorem dX9_undo_41 : decode cX9_undo 41 = .ok (.getfield 102, 3) := by decide +kernel
theorem dX9_undo_44 : decode cX9_undo 44 = .ok (.aaload, 1) := by decide +kernel
theorem dX9_undo_45 : decode cX9_undo 45 = .ok (.invokevirtual 81, 3) := by decide +kernel
theorem dX9_undo_48 : decode cX9_undo 48 = .ok (.aload_n 0, 1) := by decide +kernel
theorem dX9_undo_49 : decode cX9_undo 49 = .ok (.getfield 102, 3) := by decide +kernel
theorem dX9_undo_52 : decode cX9_undo 52 = .ok (.ireturn, 1) := by decide +kernel
theorem dX9_judge_0 : decode cX9_judge 0 = .ok (.iload_n 1, 1) := by decide +kernel
theorem dX9_judge_1 : decode cX9_judge 1 = .ok (.invokestatic 210, 3) := by decide +kernel
theorem dX9_judge_4 : decode cX9_judge 4 = .ok (.ifCond .eq 12, 3) := by decide +kernel
theorem dX9_judge_7 : decode cX9_judge 7 = .ok (.iload_n 2, 1) := by decide +kernel
theorem dX9_judge_8 : decode cX9_judge 8 = .ok (.ifCond .lt 8, 3) := by decide +kernel
theorem dX9_judge_11 : decode cX9_judge 11 = .ok (.iload_n 2, 1) := by decide +kernel
theorem dX9_judge_12 : decode cX9_judge 12 = .ok (.iconst 3, 1) := by decide +kernel
theorem dX9_judge_13 : decode cX9_judge 13 = .ok (.if_icmp .le 6, 3) := by decide +kernel
theorem dX9_judge_16 : decode cX9_judge 16 = .ok (.bipush (-2), 2) := by decide +kernel
theorem dX9_judge_18 : decode cX9_judge 18 = .ok (.ireturn, 1) := by decide +kernel
theorem dX9_judge_19 : decode cX9_judge 19 = .ok (.aload_n 0, 1) := by decide +kernel
theorem dX9_judge_20 : decode cX9_judge 20 = .ok (.getfield 48, 3) := by decide +kernel
theorem dX9_judge_23 : decode cX9_judge 23 = .ok (.iload_n 1, 1) := by decide +kernel
theorem dX9_judge_24 : decode cX9_judge 24 = .ok (.aaload, 1) := by decide +kernel
theorem dX9_judge_25 : decode cX9_judge 25 = .ok (.astore_n 3, 1) := by decide +kernel
theorem dX9_judge_26 : decode cX9_judge 26 = .ok (.aload_n 3, 1) := by decide +kernel
theorem dX9_judge_27 : decode cX9_judge 27 = .ok (.getfield 213, 3) := by decide +kernel
theorem dX9_judge_30 : decode cX9_judge 30 = .ok (.ifCond .eq 6, 3) := by decide +kernel
theorem dX9_judge_33 : decode cX9_judge 33 = .ok (.bipush (-6), 2) := by decide +kernel
theorem dX9_judge_35 : decode cX9_judge 35 = .ok (.ireturn, 1) := by decide +kernel
theorem dX9_judge_36 : decode cX9_judge 36 = .ok (.aload_n 0, 1) := by decide +kernel
theorem dX9_judge_37 : decode cX9_judge 37 = .ok (.getfield 32, 3) := by decide +kernel
theorem dX9_judge_40 : decode cX9_judge 40 = .ok (.aload_n 0, 1) := by decide +kernel
theorem dX9_judge_41 : decode cX9_judge 41 = .ok (.getfield 28, 3) := by decide +kernel
theorem dX9_judge_44 : decode cX9_judge 44 = .ok (.invokevirtual 81, 3) := by decide +kernel
theorem dX9_judge_47 : decode cX9_judge 47 = .ok (.iconst (-1), 1) := by decide +kernel
theorem dX9_judge_48 : decode cX9_judge 48 = .ok (.istore 4, 2) := by decide +kernel
theorem dX9_judge_50 : decode cX9_judge 50 = .ok (.iconst 0, 1) := by decide +kernel
theorem dX9_judge_51 : decode cX9_judge 51 = .ok (.istore 5, 2) := by decide +kernel
theorem dX9_judge_53 : decode cX9_judge 53 = .ok (.iconst 0, 1) := by decide +kernel
theorem dX9_judge_54 : decode cX9_judge 54 = .ok (.istore 6, 2) := by decide +kernel
theorem dX9_judge_56 : decode cX9_judge 56 = .ok (.iload 6, 2) := by decide +kernel
theorem dX9_judge_58 : decode cX9_judge 58 = .ok (.aload_n 3, 1) := by decide +kernel
theorem dX9_judge_59 : decode cX9_judge 59 = .ok (.getfield 217, 3) := by decide +kernel
theorem dX9_judge_62 : decode cX9_judge 62 = .ok (.if_icmp .ge 39, 3) := by decide +kernel
theorem dX9_judge_65 : decode cX9_judge 65 = .ok (.iload 5, 2) := by decide +kernel
theorem dX9_judge_67 : decode cX9_judge 67 = .ok (.ifCond .ne 34, 3) := by decide +kernel
theorem dX9_judge_70 : decode cX9_judge 70 = .ok (.aload_n 0, 1) := by decide +kernel
theorem dX9_judge_71 : decode cX9_judge 71 = .ok (.aload_n 0, 1) := by decide +kernel
theorem dX9_judge_72 : decode cX9_judge 72 = .ok (.getfield 32, 3) := by decide +kernel
theorem dX9_judge_75 : decode cX9_judge 75 = .ok (.aload_n 3, 1) := by decide +kernel
theorem dX9_judge_76 : decode cX9_judge 76 = .ok (.iload 6, 2) := by decide +kernel
theorem dX9_judge_78 : decode cX9_judge 78 = .ok (.invokevirtual 220, 3) := by decide +kernel
theorem dX9_judge_81 : decode cX9_judge 81 = .ok (.invokevirtual 224, 3) := by decide +kernel
theorem dX9_judge_84 : decode cX9_judge 84 = .ok (.istore 5, 2) := by decide +kernel
theorem dX9_judge_86 : decode cX9_judge 86 = .ok (.iload 5, 2) := by decide +kernel
theorem dX9_judge_88 : decode cX9_judge 88 = .ok (.ifCond .eq 7, 3) := by decide +kernel
theorem dX9_judge_91 : decode cX9_judge 91 = .ok (.iload 6, 2) := by decide +kernel
theorem dX9_judge_93 : decode cX9_judge 93 = .ok (.istore 4, 2) := by decide +kernel
theorem dX9_judge_95 : decode cX9_judge 95 = .ok (.iinc 6 1, 3) := by decide +kernel
theorem dX9_judge_98 : decode cX9_judge 98 = .ok (.goto (-42), 3) := by decide +kernel
theorem dX9_judge_101 : decode cX9_judge 101 = .ok (.iload_n 2, 1) := by decide +kernel
theorem dX9_judge_102 : decode cX9_judge 102 = .ok (.tableswitch 40 0 2 #[26, 29, 32], 26) := by decide +kernel
theorem dX9_judge_128 : decode cX9_judge 128 = .ok (.iload 4, 2) := by decide +kernel
theorem dX9_judge_130 : decode cX9_judge 130 = .ok (.ireturn, 1) := by decide +kernel
theorem dX9_judge_131 : decode cX9_judge 131 = .ok (.iload 5, 2) := by decide +kernel
theorem dX9_judge_133 : decode cX9_judge 133 = .ok (.ireturn, 1) := by decide +kernel
theorem dX9_judge_134 : decode cX9_judge 134 = .ok (.aload_n 0, 1) := by decide +kernel
theorem dX9_judge_135 : decode cX9_judge 135 = .ok (.getfield 32, 3) := by decide +kernel
theorem dX9_judge_138 : decode cX9_judge 138 = .ok (.getfield 137, 3) := by decide +kernel
theorem dX9_judge_141 : decode cX9_judge 141 = .ok (.ireturn, 1) := by decide +kernel
theorem dX9_judge_142 : decode cX9_judge 142 = .ok (.aload_n 0, 1) := by decide +kernel
theorem dX9_judge_143 : decode cX9_judge 143 = .ok (.getfield 21, 3) := by decide +kernel
theorem dX9_judge_146 : decode cX9_judge 146 = .ok (.aload_n 0, 1) := by decide +kernel
theorem dX9_judge_147 : decode cX9_judge 147 = .ok (.getfield 32, 3) := by decide +kernel
theorem dX9_judge_150 : decode cX9_judge 150 = .ok (.getfield 114, 3) := by decide +kernel
theorem dX9_judge_153 : decode cX9_judge 153 = .ok (.invokevirtual 156, 3) := by decide +kernel
theorem dX9_judge_156 : decode cX9_judge 156 = .ok (.ireturn, 1) := by decide +kernel
theorem dX9_perform_0 : decode cX9_perform 0 = .ok (.iload_n 1, 1) := by decide +kernel
theorem dX9_perform_1 : decode cX9_perform 1 = .ok (.invokestatic 210, 3) := by decide +kernel
theorem dX9_perform_4 : decode cX9_perform 4 = .ok (.ifCond .ne 6, 3) := by decide +kernel
theorem dX9_perform_7 : decode cX9_perform 7 = .ok (.bipush (-2), 2) := by decide +kernel
theorem dX9_perform_9 : decode cX9_perform 9 = .ok (.ireturn, 1) := by decide +kernel
theorem dX9_perform_10 : decode cX9_perform 10 = .ok (.aload_n 0, 1) := by decide +kernel
theorem dX9_perform_11 : decode cX9_perform 11 = .ok (.getfield 48, 3) := by decide +kernel
theorem dX9_perform_14 : decode cX9_perform 14 = .ok (.iload_n 1, 1) := by decide +kernel
theorem dX9_perform_15 : decode cX9_perform 15 = .ok (.aaload, 1) := by decide +kernel
theorem dX9_perform_16 : decode cX9_perform 16 = .ok (.astore_n 2, 1) := by decide +kernel
theorem dX9_perform_17 : decode cX9_perform 17 = .ok (.aload_n 2, 1) := by decide +kernel
theorem dX9_perform_18 : decode cX9_perform 18 = .ok (.getfield 213, 3) := by decide +kernel
theorem dX9_perform_21 : decode cX9_perform 21 = .ok (.ifCond .eq 6, 3) := by decide +kernel
theorem dX9_perform_24 : decode cX9_perform 24 = .ok (.bipush (-6), 2) := by decide +kernel
theorem dX9_perform_26 : decode cX9_perform 26 = .ok (.ireturn, 1) := by decide +kernel
theorem dX9_perform_27 : decode cX9_perform 27 = .ok (.aload_n 0, 1) := by decide +kernel
theorem dX9_perform_28 : decode cX9_perform 28 = .ok (.getfield 32, 3) := by decide +kernel
theorem dX9_perform_31 : decode cX9_perform 31 = .ok (.aload_n 0, 1) := by decide +kernel
theorem dX9_perform_32 : decode cX9_perform 32 = .ok (.getfield 28, 3) := by decide +kernel
theorem dX9_perform_35 : decode cX9_perform 35 = .ok (.invokevirtual 81, 3) := by decide +kernel
theorem dX9_perform_38 : decode cX9_perform 38 = .ok (.iconst 0, 1) := by decide +kernel
theorem dX9_perform_39 : decode cX9_perform 39 = .ok (.istore_n 3, 1) := by decide +kernel
theorem dX9_perform_40 : decode cX9_perform 40 = .ok (.iload_n 3, 1) := by decide +kernel
theorem dX9_perform_41 : decode cX9_perform 41 = .ok (.aload_n 2, 1) := by decide +kernel
theorem dX9_perform_42 : decode cX9_perform 42 = .ok (.getfield 217, 3) := by decide +kernel
theorem dX9_perform_45 : decode cX9_perform 45 = .ok (.if_icmp .ge 25, 3) := by decide +kernel
theorem dX9_perform_48 : decode cX9_perform 48 = .ok (.aload_n 0, 1) := by decide +kernel
theorem dX9_perform_49 : decode cX9_perform 49 = .ok (.aload_n 0, 1) := by decide +kernel
theorem dX9_perform_50 : decode cX9_perform 50 = .ok (.getfield 28, 3) := by decide +kernel
theorem dX9_perform_53 : decode cX9_perform 53 = .ok (.aload_n 2, 1) := by decide +kernel
theorem dX9_perform_54 : decode cX9_perform 54 = .ok (.iload_n 3, 1) := by decide +kernel
theorem dX9_perform_55 : decode cX9_perform 55 = .ok (.invokevirtual 220, 3) := by decide +kernel
theorem dX9_perform_58 : decode cX9_perform 58 = .ok (.invokevirtual 224, 3) := by decide +kernel
theorem dX9_perform_61 : decode cX9_perform 61 = .ok (.ifCond .ne 9, 3) := by decide +kernel
theorem dX9_perform_64 : decode cX9_perform 64 = .ok (.iinc 3 1, 3) := by decide +kernel
theorem dX9_perform_67 : decode cX9_perform 67 = .ok (.goto (-27), 3) := by decide +kernel
theorem dX9_perform_70 : decode cX9_perform 70 = .ok (.iload_n 3, 1) := by decide +kernel
theorem dX9_perform_71 : decode cX9_perform 71 = .ok (.ifCond .le 11, 3) := by decide +kernel
theorem dX9_perform_74 : decode cX9_perform 74 = .ok (.aload_n 0, 1) := by decide +kernel
theorem dX9_perform_75 : decode cX9_perform 75 = .ok (.aload_n 0, 1) := by decide +kernel
theorem dX9_perform_76 : decode cX9_perform 76 = .ok (.getfield 32, 3) := by decide +kernel
theorem dX9_perform_79 : decode cX9_perform 79 = .ok (.invokevirtual 200, 3) := by decide +kernel
theorem dX9_perform_82 : decode cX9_perform 82 = .ok (.iload_n 3, 1) := by decide +kernel
theorem dX9_perform_83 : decode cX9_perform 83 = .ok (.ireturn, 1) := by decide +kernel
theorem dX9_night_0 : decode cX9_night 0 = .ok (.iload_n 2, 1) := by decide +kernel
theorem dX9_night_1 : decode cX9_night 1 = .ok (.iconst 1, 1) := by decide +kernel
theorem dX9_night_2 : decode cX9_night 2 = .ok (.if_icmp .lt 9, 3) := by decide +kernel
theorem dX9_night_5 : decode cX9_night 5 = .ok (.iload_n 2, 1) := by decide +kernel
theorem dX9_night_6 : decode cX9_night 6 = .ok (.bipush 40, 2) := by decide +kernel
theorem dX9_night_8 : decode cX9_night 8 = .ok (.if_icmp .le 6, 3) := by decide +kernel
theorem dX9_night_11 : decode cX9_night 11 = .ok (.bipush (-3), 2) := by decide +kernel
theorem dX9_night_13 : decode cX9_night 13 = .ok (.ireturn, 1) := by decide +kernel
theorem dX9_night_14 : decode cX9_night 14 = .ok (.aload_n 0, 1) := by decide +kernel
theorem dX9_night_15 : decode cX9_night 15 = .ok (.getfield 32, 3) := by decide +kernel
theorem dX9_night_18 : decode cX9_night 18 = .ok (.aload_n 0, 1) := by decide +kernel
theorem dX9_night_19 : decode cX9_night 19 = .ok (.getfield 28, 3) := by decide +kernel
theorem dX9_night_22 : decode cX9_night 22 = .ok (.invokevirtual 81, 3) := by decide +kernel
theorem dX9_night_25 : decode cX9_night 25 = .ok (.new 228, 3) := by decide +kernel
theorem dX9_night_28 : decode cX9_night 28 = .ok (.dup, 1) := by decide +kernel
theorem dX9_night_29 : decode cX9_night 29 = .ok (.iload_n 1, 1) := by decide +kernel
theorem dX9_night_30 : decode cX9_night 30 = .ok (.invokespecial 230, 3) := by decide +kernel
theorem dX9_night_33 : decode cX9_night 33 = .ok (.astore_n 3, 1) := by decide +kernel
theorem dX9_night_34 : decode cX9_night 34 = .ok (.iconst 0, 1) := by decide +kernel
theorem dX9_night_35 : decode cX9_night 35 = .ok (.istore 4, 2) := by decide +kernel
theorem dX9_night_37 : decode cX9_night 37 = .ok (.iconst 0, 1) := by decide +kernel
theorem dX9_night_38 : decode cX9_night 38 = .ok (.istore 5, 2) := by decide +kernel
theorem dX9_night_40 : decode cX9_night 40 = .ok (.iload 5, 2) := by decide +kernel
theorem dX9_night_42 : decode cX9_night 42 = .ok (.iload_n 2, 1) := by decide +kernel
theorem dX9_night_43 : decode cX9_night 43 = .ok (.if_icmp .ge 28, 3) := by decide +kernel
theorem dX9_night_46 : decode cX9_night 46 = .ok (.aload_n 0, 1) := by decide +kernel
theorem dX9_night_47 : decode cX9_night 47 = .ok (.aload_n 0, 1) := by decide +kernel
theorem dX9_night_48 : decode cX9_night 48 = .ok (.getfield 28, 3) := by decide +kernel
theorem dX9_night_51 : decode cX9_night 51 = .ok (.aload_n 3, 1) := by decide +kernel
theorem dX9_night_52 : decode cX9_night 52 = .ok (.invokevirtual 231, 3) := by decide +kernel
theorem dX9_night_55 : decode cX9_night 55 = .ok (.i2l, 1) := by decide +kernel
theorem dX9_night_56 : decode cX9_night 56 = .ok (.invokevirtual 224, 3) := by decide +kernel
theorem dX9_night_59 : decode cX9_night 59 = .ok (.ifCond .ne 6, 3) := by decide +kernel
theorem dX9_night_62 : decode cX9_night 62 = .ok (.iinc 4 1, 3) := by decide +kernel
theorem dX9_night_65 : decode cX9_night 65 = .ok (.iinc 5 1, 3) := by decide +kernel
theorem dX9_night_68 : decode cX9_night 68 = .ok (.goto (-28), 3) := by decide +kernel
theorem dX9_night_71 : decode cX9_night 71 = .ok (.iload 4, 2) := by decide +kernel
theorem dX9_night_73 : decode cX9_night 73 = .ok (.ifCond .le 11, 3) := by decide +kernel
theorem dX9_night_76 : decode cX9_night 76 = .ok (.aload_n 0, 1) := by decide +kernel
theorem dX9_night_77 : decode cX9_night 77 = .ok (.aload_n 0, 1) := by decide +kernel
theorem dX9_night_78 : decode cX9_night 78 = .ok (.getfield 32, 3) := by decide +kernel
theorem dX9_night_81 : decode cX9_night 81 = .ok (.invokevirtual 200, 3) := by decide +kernel
theorem dX9_night_84 : decode cX9_night 84 = .ok (.iload 4, 2) := by decide +kernel
theorem dX9_night_86 : decode cX9_night 86 = .ok (.ireturn, 1) := by decide +kernel
theorem dX9_layWalks_0 : decode cX9_layWalks 0 = .ok (.aload_n 0, 1) := by decide +kernel
theorem dX9_layWalks_1 : decode cX9_layWalks 1 = .ok (.getfield 235, 3) := by decide +kernel
theorem dX9_layWalks_4 : decode cX9_layWalks 4 = .ok (.ifnonnull 18, 3) := by decide +kernel
theorem dX9_layWalks_7 : decode cX9_layWalks 7 = .ok (.aload_n 0, 1) := by decide +kernel
theorem dX9_layWalks_8 : decode cX9_layWalks 8 = .ok (.new 239, 3) := by decide +kernel
theorem dX9_layWalks_11 : decode cX9_layWalks 11 = .ok (.dup, 1) := by decide +kernel
theorem dX9_layWalks_12 : decode cX9_layWalks 12 = .ok (.aload_n 0, 1) := by decide +kernel
theorem dX9_layWalks_13 : decode cX9_layWalks 13 = .ok (.getfield 55, 3) := by decide +kernel
theorem dX9_layWalks_16 : decode cX9_layWalks 16 = .ok (.invokespecial 241, 3) := by decide +kernel
theorem dX9_layWalks_19 : decode cX9_layWalks 19 = .ok (.putfield 235, 3) := by decide +kernel
theorem dX9_layWalks_22 : decode cX9_layWalks 22 = .ok (.aload_n 0, 1) := by decide +kernel
theorem dX9_layWalks_23 : decode cX9_layWalks 23 = .ok (.getfield 55, 3) := by decide +kernel
theorem dX9_layWalks_26 : decode cX9_layWalks 26 = .ok (.aload_n 0, 1) := by decide +kernel
theorem dX9_layWalks_27 : decode cX9_layWalks 27 = .ok (.getfield 21, 3) := by decide +kernel
theorem dX9_layWalks_30 : decode cX9_layWalks 30 = .ok (.aload_n 0, 1) := by decide +kernel
theorem dX9_layWalks_31 : decode cX9_layWalks 31 = .ok (.getfield 28, 3) := by decide +kernel
theorem dX9_layWalks_34 : decode cX9_layWalks 34 = .ok (.getfield 127, 3) := by decide +kernel
theorem dX9_layWalks_37 : decode cX9_layWalks 37 = .ok (.invokevirtual 130, 3) := by decide +kernel
theorem dX9_layWalks_40 : decode cX9_layWalks 40 = .ok (.aload_n 0, 1) := by decide +kernel
theorem dX9_layWalks_41 : decode cX9_layWalks 41 = .ok (.getfield 235, 3) := by decide +kernel
theorem dX9_layWalks_44 : decode cX9_layWalks 44 = .ok (.aload_n 0, 1) := by decide +kernel
theorem dX9_layWalks_45 : decode cX9_layWalks 45 = .ok (.getfield 28, 3) := by decide +kernel
theorem dX9_layWalks_48 : decode cX9_layWalks 48 = .ok (.getfield 114, 3) := by decide +kernel
theorem dX9_layWalks_51 : decode cX9_layWalks 51 = .ok (.aload_n 0, 1) := by decide +kernel
theorem dX9_layWalks_52 : decode cX9_layWalks 52 = .ok (.getfield 28, 3) := by decide +kernel

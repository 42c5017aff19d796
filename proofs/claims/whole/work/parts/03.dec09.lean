theorem dX10_readUnit_152 : decode cX10_readUnit 152 = .ok (.iload_n 1, 1) := by decide +kernel
theorem dX10_readUnit_153 : decode cX10_readUnit 153 = .ok (.invokevirtual 168, 3) := by decide +kernel
theorem dX10_readUnit_156 : decode cX10_readUnit 156 = .ok (.aload_n 0, 1) := by decide +kernel
theorem dX10_readUnit_157 : decode cX10_readUnit 157 = .ok (.iload_n 2, 1) := by decide +kernel
theorem dX10_readUnit_158 : decode cX10_readUnit 158 = .ok (.invokevirtual 159, 3) := by decide +kernel
theorem dX10_readUnit_161 : decode cX10_readUnit 161 = .ok (.return_, 1) := by decide +kernel
theorem dX10_readBoth_0 : decode cX10_readBoth 0 = .ok (.aload_n 0, 1) := by decide +kernel
theorem dX10_readBoth_1 : decode cX10_readBoth 1 = .ok (.iload_n 1, 1) := by decide +kernel
theorem dX10_readBoth_2 : decode cX10_readBoth 2 = .ok (.invokevirtual 186, 3) := by decide +kernel
theorem dX10_readBoth_5 : decode cX10_readBoth 5 = .ok (.aload_n 0, 1) := by decide +kernel
theorem dX10_readBoth_6 : decode cX10_readBoth 6 = .ok (.bipush 20, 2) := by decide +kernel
theorem dX10_readBoth_8 : decode cX10_readBoth 8 = .ok (.invokevirtual 171, 3) := by decide +kernel
theorem dX10_readBoth_11 : decode cX10_readBoth 11 = .ok (.ifCond .eq 18, 3) := by decide +kernel
theorem dX10_readBoth_14 : decode cX10_readBoth 14 = .ok (.aload_n 0, 1) := by decide +kernel
theorem dX10_readBoth_15 : decode cX10_readBoth 15 = .ok (.iload_n 1, 1) := by decide +kernel
theorem dX10_readBoth_16 : decode cX10_readBoth 16 = .ok (.invokevirtual 186, 3) := by decide +kernel
theorem dX10_readBoth_19 : decode cX10_readBoth 19 = .ok (.aload_n 0, 1) := by decide +kernel
theorem dX10_readBoth_20 : decode cX10_readBoth 20 = .ok (.sipush 3007, 3) := by decide +kernel
theorem dX10_readBoth_23 : decode cX10_readBoth 23 = .ok (.invokevirtual 159, 3) := by decide +kernel
theorem dX10_readBoth_26 : decode cX10_readBoth 26 = .ok (.goto (-21), 3) := by decide +kernel
theorem dX10_readBoth_29 : decode cX10_readBoth 29 = .ok (.return_, 1) := by decide +kernel
theorem dX10_readTruth_0 : decode cX10_readTruth 0 = .ok (.aload_n 0, 1) := by decide +kernel
theorem dX10_readTruth_1 : decode cX10_readTruth 1 = .ok (.iload_n 1, 1) := by decide +kernel
theorem dX10_readTruth_2 : decode cX10_readTruth 2 = .ok (.invokevirtual 189, 3) := by decide +kernel
theorem dX10_readTruth_5 : decode cX10_readTruth 5 = .ok (.aload_n 0, 1) := by decide +kernel
theorem dX10_readTruth_6 : decode cX10_readTruth 6 = .ok (.bipush 21, 2) := by decide +kernel
theorem dX10_readTruth_8 : decode cX10_readTruth 8 = .ok (.invokevirtual 171, 3) := by decide +kernel
theorem dX10_readTruth_11 : decode cX10_readTruth 11 = .ok (.ifCond .eq 18, 3) := by decide +kernel
theorem dX10_readTruth_14 : decode cX10_readTruth 14 = .ok (.aload_n 0, 1) := by decide +kernel
theorem dX10_readTruth_15 : decode cX10_readTruth 15 = .ok (.iload_n 1, 1) := by decide +kernel
theorem dX10_readTruth_16 : decode cX10_readTruth 16 = .ok (.invokevirtual 189, 3) := by decide +kernel
theorem dX10_readTruth_19 : decode cX10_readTruth 19 = .ok (.aload_n 0, 1) := by decide +kernel
theorem dX10_readTruth_20 : decode cX10_readTruth 20 = .ok (.sipush 3008, 3) := by decide +kernel
theorem dX10_readTruth_23 : decode cX10_readTruth 23 = .ok (.invokevirtual 159, 3) := by decide +kernel
theorem dX10_readTruth_26 : decode cX10_readTruth 26 = .ok (.goto (-21), 3) := by decide +kernel
theorem dX10_readTruth_29 : decode cX10_readTruth 29 = .ok (.return_, 1) := by decide +kernel
theorem dX10_readFlag_0 : decode cX10_readFlag 0 = .ok (.aload_n 0, 1) := by decide +kernel
theorem dX10_readFlag_1 : decode cX10_readFlag 1 = .ok (.iconst 5, 1) := by decide +kernel
theorem dX10_readFlag_2 : decode cX10_readFlag 2 = .ok (.invokevirtual 171, 3) := by decide +kernel
theorem dX10_readFlag_5 : decode cX10_readFlag 5 = .ok (.ifCond .eq 26, 3) := by decide +kernel
theorem dX10_readFlag_8 : decode cX10_readFlag 8 = .ok (.aload_n 0, 1) := by decide +kernel
theorem dX10_readFlag_9 : decode cX10_readFlag 9 = .ok (.getfield 24, 3) := by decide +kernel
theorem dX10_readFlag_12 : decode cX10_readFlag 12 = .ok (.bipush 22, 2) := by decide +kernel
theorem dX10_readFlag_14 : decode cX10_readFlag 14 = .ok (.iload_n 1, 1) := by decide +kernel
theorem dX10_readFlag_15 : decode cX10_readFlag 15 = .ok (.iadd, 1) := by decide +kernel
theorem dX10_readFlag_16 : decode cX10_readFlag 16 = .ok (.aload_n 0, 1) := by decide +kernel
theorem dX10_readFlag_17 : decode cX10_readFlag 17 = .ok (.iconst 0, 1) := by decide +kernel
theorem dX10_readFlag_18 : decode cX10_readFlag 18 = .ok (.aload_n 0, 1) := by decide +kernel
theorem dX10_readFlag_19 : decode cX10_readFlag 19 = .ok (.getfield 24, 3) := by decide +kernel
theorem dX10_readFlag_22 : decode cX10_readFlag 22 = .ok (.iconst 1, 1) := by decide +kernel
theorem dX10_readFlag_23 : decode cX10_readFlag 23 = .ok (.iaload, 1) := by decide +kernel
theorem dX10_readFlag_24 : decode cX10_readFlag 24 = .ok (.invokevirtual 192, 3) := by decide +kernel
theorem dX10_readFlag_27 : decode cX10_readFlag 27 = .ok (.iastore, 1) := by decide +kernel
theorem dX10_readFlag_28 : decode cX10_readFlag 28 = .ok (.goto 33, 3) := by decide +kernel
theorem dX10_readFlag_31 : decode cX10_readFlag 31 = .ok (.aload_n 0, 1) := by decide +kernel
theorem dX10_readFlag_32 : decode cX10_readFlag 32 = .ok (.bipush 6, 2) := by decide +kernel
theorem dX10_readFlag_34 : decode cX10_readFlag 34 = .ok (.invokevirtual 171, 3) := by decide +kernel
theorem dX10_readFlag_37 : decode cX10_readFlag 37 = .ok (.ifCond .eq 22, 3) := by decide +kernel
theorem dX10_readFlag_40 : decode cX10_readFlag 40 = .ok (.aload_n 0, 1) := by decide +kernel
theorem dX10_readFlag_41 : decode cX10_readFlag 41 = .ok (.getfield 24, 3) := by decide +kernel
theorem dX10_readFlag_44 : decode cX10_readFlag 44 = .ok (.bipush 18, 2) := by decide +kernel
theorem dX10_readFlag_46 : decode cX10_readFlag 46 = .ok (.iload_n 1, 1) := by decide +kernel
theorem dX10_readFlag_47 : decode cX10_readFlag 47 = .ok (.iadd, 1) := by decide +kernel
theorem dX10_readFlag_48 : decode cX10_readFlag 48 = .ok (.aload_n 0, 1) := by decide +kernel
theorem dX10_readFlag_49 : decode cX10_readFlag 49 = .ok (.iconst 0, 1) := by decide +kernel
theorem dX10_readFlag_50 : decode cX10_readFlag 50 = .ok (.bipush 9, 2) := by decide +kernel
theorem dX10_readFlag_52 : decode cX10_readFlag 52 = .ok (.invokevirtual 192, 3) := by decide +kernel
theorem dX10_readFlag_55 : decode cX10_readFlag 55 = .ok (.iastore, 1) := by decide +kernel
theorem dX10_readFlag_56 : decode cX10_readFlag 56 = .ok (.goto 5, 3) := by decide +kernel
theorem dX10_readFlag_59 : decode cX10_readFlag 59 = .ok (.iconst 0, 1) := by decide +kernel
theorem dX10_readFlag_60 : decode cX10_readFlag 60 = .ok (.ireturn, 1) := by decide +kernel
theorem dX10_readFlag_61 : decode cX10_readFlag 61 = .ok (.aload_n 0, 1) := by decide +kernel
theorem dX10_readFlag_62 : decode cX10_readFlag 62 = .ok (.getfield 136, 3) := by decide +kernel
theorem dX10_readFlag_65 : decode cX10_readFlag 65 = .ok (.ifCond .ne 7, 3) := by decide +kernel
theorem dX10_readFlag_68 : decode cX10_readFlag 68 = .ok (.iconst 1, 1) := by decide +kernel
theorem dX10_readFlag_69 : decode cX10_readFlag 69 = .ok (.goto 4, 3) := by decide +kernel
theorem dX10_readFlag_72 : decode cX10_readFlag 72 = .ok (.iconst 0, 1) := by decide +kernel
theorem dX10_readFlag_73 : decode cX10_readFlag 73 = .ok (.ireturn, 1) := by decide +kernel
theorem dX10_readGoer_0 : decode cX10_readGoer 0 = .ok (.aload_n 0, 1) := by decide +kernel
theorem dX10_readGoer_1 : decode cX10_readGoer 1 = .ok (.getfield 24, 3) := by decide +kernel
theorem dX10_readGoer_4 : decode cX10_readGoer 4 = .ok (.iconst 3, 1) := by decide +kernel
theorem dX10_readGoer_5 : decode cX10_readGoer 5 = .ok (.iaload, 1) := by decide +kernel
theorem dX10_readGoer_6 : decode cX10_readGoer 6 = .ok (.istore_n 1, 1) := by decide +kernel
theorem dX10_readGoer_7 : decode cX10_readGoer 7 = .ok (.iload_n 1, 1) := by decide +kernel
theorem dX10_readGoer_8 : decode cX10_readGoer 8 = .ok (.iconst 4, 1) := by decide +kernel
theorem dX10_readGoer_9 : decode cX10_readGoer 9 = .ok (.if_icmp .ne 8, 3) := by decide +kernel
theorem dX10_readGoer_12 : decode cX10_readGoer 12 = .ok (.aload_n 0, 1) := by decide +kernel
theorem dX10_readGoer_13 : decode cX10_readGoer 13 = .ok (.iconst 4, 1) := by decide +kernel
theorem dX10_readGoer_14 : decode cX10_readGoer 14 = .ok (.invokevirtual 148, 3) := by decide +kernel
theorem dX10_readGoer_17 : decode cX10_readGoer 17 = .ok (.aload_n 0, 1) := by decide +kernel
theorem dX10_readGoer_18 : decode cX10_readGoer 18 = .ok (.getfield 136, 3) := by decide +kernel
theorem dX10_readGoer_21 : decode cX10_readGoer 21 = .ok (.ifCond .eq 4, 3) := by decide +kernel
theorem dX10_readGoer_24 : decode cX10_readGoer 24 = .ok (.return_, 1) := by decide +kernel
theorem dX10_readGoer_25 : decode cX10_readGoer 25 = .ok (.aload_n 0, 1) := by decide +kernel
theorem dX10_readGoer_26 : decode cX10_readGoer 26 = .ok (.invokevirtual 145, 3) := by decide +kernel
theorem dX10_readGoer_29 : decode cX10_readGoer 29 = .ok (.aload_n 0, 1) := by decide +kernel
theorem dX10_readGoer_30 : decode cX10_readGoer 30 = .ok (.iconst 4, 1) := by decide +kernel
theorem dX10_readGoer_31 : decode cX10_readGoer 31 = .ok (.invokevirtual 171, 3) := by decide +kernel
theorem dX10_readGoer_34 : decode cX10_readGoer 34 = .ok (.ifCond .ne 8, 3) := by decide +kernel
theorem dX10_readGoer_37 : decode cX10_readGoer 37 = .ok (.aload_n 0, 1) := by decide +kernel
theorem dX10_readGoer_38 : decode cX10_readGoer 38 = .ok (.iconst 2, 1) := by decide +kernel
theorem dX10_readGoer_39 : decode cX10_readGoer 39 = .ok (.invokevirtual 148, 3) := by decide +kernel
theorem dX10_readGoer_42 : decode cX10_readGoer 42 = .ok (.aload_n 0, 1) := by decide +kernel
theorem dX10_readGoer_43 : decode cX10_readGoer 43 = .ok (.getfield 24, 3) := by decide +kernel
theorem dX10_readGoer_46 : decode cX10_readGoer 46 = .ok (.bipush 14, 2) := by decide +kernel
theorem dX10_readGoer_48 : decode cX10_readGoer 48 = .ok (.iload_n 1, 1) := by decide +kernel
theorem dX10_readGoer_49 : decode cX10_readGoer 49 = .ok (.iadd, 1) := by decide +kernel
theorem dX10_readGoer_50 : decode cX10_readGoer 50 = .ok (.aload_n 0, 1) := by decide +kernel
theorem dX10_readGoer_51 : decode cX10_readGoer 51 = .ok (.iconst 0, 1) := by decide +kernel
theorem dX10_readGoer_52 : decode cX10_readGoer 52 = .ok (.bipush 9, 2) := by decide +kernel
theorem dX10_readGoer_54 : decode cX10_readGoer 54 = .ok (.invokevirtual 192, 3) := by decide +kernel
theorem dX10_readGoer_57 : decode cX10_readGoer 57 = .ok (.iastore, 1) := by decide +kernel
theorem dX10_readGoer_58 : decode cX10_readGoer 58 = .ok (.aload_n 0, 1) := by decide +kernel
theorem dX10_readGoer_59 : decode cX10_readGoer 59 = .ok (.getfield 136, 3) := by decide +kernel
theorem dX10_readGoer_62 : decode cX10_readGoer 62 = .ok (.ifCond .ne 14, 3) := by decide +kernel
theorem dX10_readGoer_65 : decode cX10_readGoer 65 = .ok (.aload_n 0, 1) := by decide +kernel
theorem dX10_readGoer_66 : decode cX10_readGoer 66 = .ok (.iload_n 1, 1) := by decide +kernel
theorem dX10_readGoer_67 : decode cX10_readGoer 67 = .ok (.invokevirtual 196, 3) := by decide +kernel
theorem dX10_readGoer_70 : decode cX10_readGoer 70 = .ok (.ifCond .eq 6, 3) := by decide +kernel
theorem dX10_readGoer_73 : decode cX10_readGoer 73 = .ok (.goto (-15), 3) := by decide +kernel
theorem dX10_readGoer_76 : decode cX10_readGoer 76 = .ok (.aload_n 0, 1) := by decide +kernel
theorem dX10_readGoer_77 : decode cX10_readGoer 77 = .ok (.getfield 136, 3) := by decide +kernel
theorem dX10_readGoer_80 : decode cX10_readGoer 80 = .ok (.ifCond .ne 13, 3) := by decide +kernel
theorem dX10_readGoer_83 : decode cX10_readGoer 83 = .ok (.aload_n 0, 1) := by decide +kernel
theorem dX10_readGoer_84 : decode cX10_readGoer 84 = .ok (.getfield 24, 3) := by decide +kernel
theorem dX10_readGoer_87 : decode cX10_readGoer 87 = .ok (.iconst 3, 1) := by decide +kernel
theorem dX10_readGoer_88 : decode cX10_readGoer 88 = .ok (.dup2, 1) := by decide +kernel
theorem dX10_readGoer_89 : decode cX10_readGoer 89 = .ok (.iaload, 1) := by decide +kernel
theorem dX10_readGoer_90 : decode cX10_readGoer 90 = .ok (.iconst 1, 1) := by decide +kernel
theorem dX10_readGoer_91 : decode cX10_readGoer 91 = .ok (.iadd, 1) := by decide +kernel
theorem dX10_readGoer_92 : decode cX10_readGoer 92 = .ok (.iastore, 1) := by decide +kernel
theorem dX10_readGoer_93 : decode cX10_readGoer 93 = .ok (.return_, 1) := by decide +kernel
theorem dX10_readPeople_0 : decode cX10_readPeople 0 = .ok (.aload_n 0, 1) := by decide +kernel
theorem dX10_readPeople_1 : decode cX10_readPeople 1 = .ok (.getfield 24, 3) := by decide +kernel
theorem dX10_readPeople_4 : decode cX10_readPeople 4 = .ok (.iconst 5, 1) := by decide +kernel
theorem dX10_readPeople_5 : decode cX10_readPeople 5 = .ok (.iaload, 1) := by decide +kernel
theorem dX10_readPeople_6 : decode cX10_readPeople 6 = .ok (.iconst 1, 1) := by decide +kernel
theorem dX10_readPeople_7 : decode cX10_readPeople 7 = .ok (.if_icmp .ne 8, 3) := by decide +kernel
theorem dX10_readPeople_10 : decode cX10_readPeople 10 = .ok (.aload_n 0, 1) := by decide +kernel
theorem dX10_readPeople_11 : decode cX10_readPeople 11 = .ok (.iconst 2, 1) := by decide +kernel
theorem dX10_readPeople_12 : decode cX10_readPeople 12 = .ok (.invokevirtual 148, 3) := by decide +kernel
theorem dX10_readPeople_15 : decode cX10_readPeople 15 = .ok (.aload_n 0, 1) := by decide +kernel
theorem dX10_readPeople_16 : decode cX10_readPeople 16 = .ok (.getfield 136, 3) := by decide +kernel
theorem dX10_readPeople_19 : decode cX10_readPeople 19 = .ok (.ifCond .eq 4, 3) := by decide +kernel
theorem dX10_readPeople_22 : decode cX10_readPeople 22 = .ok (.return_, 1) := by decide +kernel
theorem dX10_readPeople_23 : decode cX10_readPeople 23 = .ok (.aload_n 0, 1) := by decide +kernel
theorem dX10_readPeople_24 : decode cX10_readPeople 24 = .ok (.invokevirtual 145, 3) := by decide +kernel
theorem dX10_readPeople_27 : decode cX10_readPeople 27 = .ok (.aload_n 0, 1) := by decide +kernel
theorem dX10_readPeople_28 : decode cX10_readPeople 28 = .ok (.getfield 24, 3) := by decide +kernel
theorem dX10_readPeople_31 : decode cX10_readPeople 31 = .ok (.iconst 4, 1) := by decide +kernel
theorem dX10_readPeople_32 : decode cX10_readPeople 32 = .ok (.aload_n 0, 1) := by decide +kernel
theorem dX10_readPeople_33 : decode cX10_readPeople 33 = .ok (.iconst 0, 1) := by decide +kernel
theorem dX10_readPeople_34 : decode cX10_readPeople 34 = .ok (.bipush 8, 2) := by decide +kernel
theorem dX10_readPeople_36 : decode cX10_readPeople 36 = .ok (.invokevirtual 192, 3) := by decide +kernel
theorem dX10_readPeople_39 : decode cX10_readPeople 39 = .ok (.iastore, 1) := by decide +kernel
theorem dX10_readPeople_40 : decode cX10_readPeople 40 = .ok (.aload_n 0, 1) := by decide +kernel
theorem dX10_readPeople_41 : decode cX10_readPeople 41 = .ok (.getfield 24, 3) := by decide +kernel
theorem dX10_readPeople_44 : decode cX10_readPeople 44 = .ok (.iconst 5, 1) := by decide +kernel
theorem dX10_readPeople_45 : decode cX10_readPeople 45 = .ok (.iconst 1, 1) := by decide +kernel
theorem dX10_readPeople_46 : decode cX10_readPeople 46 = .ok (.iastore, 1) := by decide +kernel
theorem dX10_readPeople_47 : decode cX10_readPeople 47 = .ok (.return_, 1) := by decide +kernel
theorem dX10_hinted_0 : decode cX10_hinted 0 = .ok (.iconst 0, 1) := by decide +kernel
theorem dX10_hinted_1 : decode cX10_hinted 1 = .ok (.istore 4, 2) := by decide +kernel
theorem dX10_hinted_3 : decode cX10_hinted 3 = .ok (.iload 4, 2) := by decide +kernel
theorem dX10_hinted_5 : decode cX10_hinted 5 = .ok (.iconst 2, 1) := by decide +kernel
theorem dX10_hinted_6 : decode cX10_hinted 6 = .ok (.if_icmp .ge 107, 3) := by decide +kernel
theorem dX10_hinted_9 : decode cX10_hinted 9 = .ok (.iload 4, 2) := by decide +kernel
theorem dX10_hinted_11 : decode cX10_hinted 11 = .ok (.ifCond .ne 7, 3) := by decide +kernel
theorem dX10_hinted_14 : decode cX10_hinted 14 = .ok (.iload_n 1, 1) := by decide +kernel
theorem dX10_hinted_15 : decode cX10_hinted 15 = .ok (.goto 4, 3) := by decide +kernel
theorem dX10_hinted_18 : decode cX10_hinted 18 = .ok (.iload_n 2, 1) := by decide +kernel
theorem dX10_hinted_19 : decode cX10_hinted 19 = .ok (.istore 5, 2) := by decide +kernel
theorem dX10_hinted_21 : decode cX10_hinted 21 = .ok (.iconst 1, 1) := by decide +kernel
theorem dX10_hinted_22 : decode cX10_hinted 22 = .ok (.iload 4, 2) := by decide +kernel
theorem dX10_hinted_24 : decode cX10_hinted 24 = .ok (.ifCond .ne 7, 3) := by decide +kernel
theorem dX10_hinted_27 : decode cX10_hinted 27 = .ok (.iload_n 2, 1) := by decide +kernel
theorem dX10_hinted_28 : decode cX10_hinted 28 = .ok (.goto 4, 3) := by decide +kernel
theorem dX10_hinted_31 : decode cX10_hinted 31 = .ok (.iload_n 1, 1) := by decide +kernel
theorem dX10_hinted_32 : decode cX10_hinted 32 = .ok (.ishl, 1) := by decide +kernel
theorem dX10_hinted_33 : decode cX10_hinted 33 = .ok (.istore 6, 2) := by decide +kernel
theorem dX10_hinted_35 : decode cX10_hinted 35 = .ok (.aload_n 0, 1) := by decide +kernel
theorem dX10_hinted_36 : decode cX10_hinted 36 = .ok (.bipush 29, 2) := by decide +kernel
theorem dX10_hinted_38 : decode cX10_hinted 38 = .ok (.iload 5, 2) := by decide +kernel
theorem dX10_hinted_40 : decode cX10_hinted 40 = .ok (.iadd, 1) := by decide +kernel
theorem dX10_hinted_41 : decode cX10_hinted 41 = .ok (.iload_n 3, 1) := by decide +kernel
theorem dX10_hinted_42 : decode cX10_hinted 42 = .ok (.ifCond .eq 16, 3) := by decide +kernel
theorem dX10_hinted_45 : decode cX10_hinted 45 = .ok (.aload_n 0, 1) := by decide +kernel
theorem dX10_hinted_46 : decode cX10_hinted 46 = .ok (.bipush 29, 2) := by decide +kernel
theorem dX10_hinted_48 : decode cX10_hinted 48 = .ok (.iload 5, 2) := by decide +kernel
theorem dX10_hinted_50 : decode cX10_hinted 50 = .ok (.iadd, 1) := by decide +kernel
theorem dX10_hinted_51 : decode cX10_hinted 51 = .ok (.iaload, 1) := by decide +kernel
theorem dX10_hinted_52 : decode cX10_hinted 52 = .ok (.iload 6, 2) := by decide +kernel
theorem dX10_hinted_54 : decode cX10_hinted 54 = .ok (.ior, 1) := by decide +kernel
theorem dX10_hinted_55 : decode cX10_hinted 55 = .ok (.goto 15, 3) := by decide +kernel
theorem dX10_hinted_58 : decode cX10_hinted 58 = .ok (.aload_n 0, 1) := by decide +kernel
theorem dX10_hinted_59 : decode cX10_hinted 59 = .ok (.bipush 29, 2) := by decide +kernel
theorem dX10_hinted_61 : decode cX10_hinted 61 = .ok (.iload 5, 2) := by decide +kernel
theorem dX10_hinted_63 : decode cX10_hinted 63 = .ok (.iadd, 1) := by decide +kernel
theorem dX10_hinted_64 : decode cX10_hinted 64 = .ok (.iaload, 1) := by decide +kernel
theorem dX10_hinted_65 : decode cX10_hinted 65 = .ok (.iload 6, 2) := by decide +kernel
theorem dX10_hinted_67 : decode cX10_hinted 67 = .ok (.iconst (-1), 1) := by decide +kernel
theorem dX10_hinted_68 : decode cX10_hinted 68 = .ok (.ixor, 1) := by decide +kernel
theorem dX10_hinted_69 : decode cX10_hinted 69 = .ok (.iand, 1) := by decide +kernel
theorem dX10_hinted_70 : decode cX10_hinted 70 = .ok (.iastore, 1) := by decide +kernel
theorem dX10_hinted_71 : decode cX10_hinted 71 = .ok (.aload_n 0, 1) := by decide +kernel
theorem dX10_hinted_72 : decode cX10_hinted 72 = .ok (.bipush 37, 2) := by decide +kernel
theorem dX10_hinted_74 : decode cX10_hinted 74 = .ok (.iload 5, 2) := by decide +kernel
theorem dX10_hinted_76 : decode cX10_hinted 76 = .ok (.iadd, 1) := by decide +kernel
theorem dX10_hinted_77 : decode cX10_hinted 77 = .ok (.iload_n 3, 1) := by decide +kernel
theorem dX10_hinted_78 : decode cX10_hinted 78 = .ok (.ifCond .eq 18, 3) := by decide +kernel
theorem dX10_hinted_81 : decode cX10_hinted 81 = .ok (.aload_n 0, 1) := by decide +kernel
theorem dX10_hinted_82 : decode cX10_hinted 82 = .ok (.bipush 37, 2) := by decide +kernel
theorem dX10_hinted_84 : decode cX10_hinted 84 = .ok (.iload 5, 2) := by decide +kernel
theorem dX10_hinted_86 : decode cX10_hinted 86 = .ok (.iadd, 1) := by decide +kernel
theorem dX10_hinted_87 : decode cX10_hinted 87 = .ok (.iaload, 1) := by decide +kernel
theorem dX10_hinted_88 : decode cX10_hinted 88 = .ok (.iload 6, 2) := by decide +kernel
theorem dX10_hinted_90 : decode cX10_hinted 90 = .ok (.iconst (-1), 1) := by decide +kernel
theorem dX10_hinted_91 : decode cX10_hinted 91 = .ok (.ixor, 1) := by decide +kernel
theorem dX10_hinted_92 : decode cX10_hinted 92 = .ok (.iand, 1) := by decide +kernel
theorem dX10_hinted_93 : decode cX10_hinted 93 = .ok (.goto 13, 3) := by decide +kernel
theorem dX10_hinted_96 : decode cX10_hinted 96 = .ok (.aload_n 0, 1) := by decide +kernel
theorem dX10_hinted_97 : decode cX10_hinted 97 = .ok (.bipush 37, 2) := by decide +kernel
theorem dX10_hinted_99 : decode cX10_hinted 99 = .ok (.iload 5, 2) := by decide +kernel
theorem dX10_hinted_101 : decode cX10_hinted 101 = .ok (.iadd, 1) := by decide +kernel
theorem dX10_hinted_102 : decode cX10_hinted 102 = .ok (.iaload, 1) := by decide +kernel
theorem dX10_hinted_103 : decode cX10_hinted 103 = .ok (.iload 6, 2) := by decide +kernel
theorem dX10_hinted_105 : decode cX10_hinted 105 = .ok (.ior, 1) := by decide +kernel
theorem dX10_hinted_106 : decode cX10_hinted 106 = .ok (.iastore, 1) := by decide +kernel
theorem dX10_hinted_107 : decode cX10_hinted 107 = .ok (.iinc 4 1, 3) := by decide +kernel
theorem dX10_hinted_110 : decode cX10_hinted 110 = .ok (.goto (-107), 3) := by decide +kernel
theorem dX10_hinted_113 : decode cX10_hinted 113 = .ok (.return_, 1) := by decide +kernel
theorem dX10_readHint_0 : decode cX10_readHint 0 = .ok (.aload_n 0, 1) := by decide +kernel
theorem dX10_readHint_1 : decode cX10_readHint 1 = .ok (.invokevirtual 145, 3) := by decide +kernel
theorem dX10_readHint_4 : decode cX10_readHint 4 = .ok (.aload_n 0, 1) := by decide +kernel
theorem dX10_readHint_5 : decode cX10_readHint 5 = .ok (.iconst 0, 1) := by decide +kernel
theorem dX10_readHint_6 : decode cX10_readHint 6 = .ok (.aload_n 0, 1) := by decide +kernel
theorem dX10_readHint_7 : decode cX10_readHint 7 = .ok (.getfield 24, 3) := by decide +kernel
theorem dX10_readHint_10 : decode cX10_readHint 10 = .ok (.iconst 4, 1) := by decide +kernel
theorem dX10_readHint_11 : decode cX10_readHint 11 = .ok (.iaload, 1) := by decide +kernel
theorem dX10_readHint_12 : decode cX10_readHint 12 = .ok (.iconst 1, 1) := by decide +kernel
theorem dX10_readHint_13 : decode cX10_readHint 13 = .ok (.isub, 1) := by decide +kernel
theorem dX10_readHint_14 : decode cX10_readHint 14 = .ok (.invokevirtual 192, 3) := by decide +kernel
theorem dX10_readHint_17 : decode cX10_readHint 17 = .ok (.istore_n 2, 1) := by decide +kernel
theorem dX10_readHint_18 : decode cX10_readHint 18 = .ok (.aload_n 0, 1) := by decide +kernel
theorem dX10_readHint_19 : decode cX10_readHint 19 = .ok (.bipush 24, 2) := by decide +kernel
theorem dX10_readHint_21 : decode cX10_readHint 21 = .ok (.invokevirtual 142, 3) := by decide +kernel
theorem dX10_readHint_24 : decode cX10_readHint 24 = .ok (.ifCond .eq 16, 3) := by decide +kernel
theorem dX10_readHint_27 : decode cX10_readHint 27 = .ok (.aload_n 0, 1) := by decide +kernel
theorem dX10_readHint_28 : decode cX10_readHint 28 = .ok (.getfield 131, 3) := by decide +kernel
theorem dX10_readHint_31 : decode cX10_readHint 31 = .ok (.iload_n 2, 1) := by decide +kernel
theorem dX10_readHint_32 : decode cX10_readHint 32 = .ok (.if_icmp .ne 8, 3) := by decide +kernel
theorem dX10_readHint_35 : decode cX10_readHint 35 = .ok (.aload_n 0, 1) := by decide +kernel
theorem dX10_readHint_36 : decode cX10_readHint 36 = .ok (.iconst 3, 1) := by decide +kernel
theorem dX10_readHint_37 : decode cX10_readHint 37 = .ok (.invokevirtual 148, 3) := by decide +kernel
theorem dX10_readHint_40 : decode cX10_readHint 40 = .ok (.aload_n 0, 1) := by decide +kernel
theorem dX10_readHint_41 : decode cX10_readHint 41 = .ok (.iconst 0, 1) := by decide +kernel
theorem dX10_readHint_42 : decode cX10_readHint 42 = .ok (.aload_n 0, 1) := by decide +kernel
theorem dX10_readHint_43 : decode cX10_readHint 43 = .ok (.getfield 24, 3) := by decide +kernel
theorem dX10_readHint_46 : decode cX10_readHint 46 = .ok (.iconst 4, 1) := by decide +kernel
theorem dX10_readHint_47 : decode cX10_readHint 47 = .ok (.iaload, 1) := by decide +kernel
theorem dX10_readHint_48 : decode cX10_readHint 48 = .ok (.iconst 1, 1) := by decide +kernel
theorem dX10_readHint_49 : decode cX10_readHint 49 = .ok (.isub, 1) := by decide +kernel
theorem dX10_readHint_50 : decode cX10_readHint 50 = .ok (.invokevirtual 192, 3) := by decide +kernel
theorem dX10_readHint_53 : decode cX10_readHint 53 = .ok (.istore_n 3, 1) := by decide +kernel
theorem dX10_readHint_54 : decode cX10_readHint 54 = .ok (.aload_n 0, 1) := by decide +kernel
theorem dX10_readHint_55 : decode cX10_readHint 55 = .ok (.getfield 136, 3) := by decide +kernel
theorem dX10_readHint_58 : decode cX10_readHint 58 = .ok (.ifCond .ne 13, 3) := by decide +kernel
theorem dX10_readHint_61 : decode cX10_readHint 61 = .ok (.aload_n 0, 1) := by decide +kernel
theorem dX10_readHint_62 : decode cX10_readHint 62 = .ok (.getfield 24, 3) := by decide +kernel
theorem dX10_readHint_65 : decode cX10_readHint 65 = .ok (.iload_n 2, 1) := by decide +kernel
theorem dX10_readHint_66 : decode cX10_readHint 66 = .ok (.iload_n 3, 1) := by decide +kernel
theorem dX10_readHint_67 : decode cX10_readHint 67 = .ok (.iload_n 1, 1) := by decide +kernel
theorem dX10_readHint_68 : decode cX10_readHint 68 = .ok (.invokestatic 199, 3) := by decide +kernel
theorem dX10_readHint_71 : decode cX10_readHint 71 = .ok (.return_, 1) := by decide +kernel
theorem dX10_readCart_0 : decode cX10_readCart 0 = .ok (.aload_n 0, 1) := by decide +kernel
theorem dX10_readCart_1 : decode cX10_readCart 1 = .ok (.invokevirtual 145, 3) := by decide +kernel
theorem dX10_readCart_4 : decode cX10_readCart 4 = .ok (.aload_n 0, 1) := by decide +kernel
theorem dX10_readCart_5 : decode cX10_readCart 5 = .ok (.getfield 24, 3) := by decide +kernel
theorem dX10_readCart_8 : decode cX10_readCart 8 = .ok (.bipush 6, 2) := by decide +kernel
theorem dX10_readCart_10 : decode cX10_readCart 10 = .ok (.aload_n 0, 1) := by decide +kernel
theorem dX10_readCart_11 : decode cX10_readCart 11 = .ok (.iconst 0, 1) := by decide +kernel
theorem dX10_readCart_12 : decode cX10_readCart 12 = .ok (.bipush 10, 2) := by decide +kernel
theorem dX10_readCart_14 : decode cX10_readCart 14 = .ok (.invokevirtual 192, 3) := by decide +kernel
theorem dX10_readCart_17 : decode cX10_readCart 17 = .ok (.iastore, 1) := by decide +kernel
theorem dX10_readCart_18 : decode cX10_readCart 18 = .ok (.aload_n 0, 1) := by decide +kernel
theorem dX10_readCart_19 : decode cX10_readCart 19 = .ok (.bipush 10, 2) := by decide +kernel
theorem dX10_readCart_21 : decode cX10_readCart 21 = .ok (.invokevirtual 171, 3) := by decide +kernel
theorem dX10_readCart_24 : decode cX10_readCart 24 = .ok (.ifCond .ne 8, 3) := by decide +kernel
theorem dX10_readCart_27 : decode cX10_readCart 27 = .ok (.aload_n 0, 1) := by decide +kernel
theorem dX10_readCart_28 : decode cX10_readCart 28 = .ok (.iconst 2, 1) := by decide +kernel
theorem dX10_readCart_29 : decode cX10_readCart 29 = .ok (.invokevirtual 148, 3) := by decide +kernel
theorem dX10_readCart_32 : decode cX10_readCart 32 = .ok (.aload_n 0, 1) := by decide +kernel
theorem dX10_readCart_33 : decode cX10_readCart 33 = .ok (.getfield 24, 3) := by decide +kernel
theorem dX10_readCart_36 : decode cX10_readCart 36 = .ok (.bipush 7, 2) := by decide +kernel
theorem dX10_readCart_38 : decode cX10_readCart 38 = .ok (.aload_n 0, 1) := by decide +kernel
theorem dX10_readCart_39 : decode cX10_readCart 39 = .ok (.iconst 0, 1) := by decide +kernel
theorem dX10_readCart_40 : decode cX10_readCart 40 = .ok (.bipush 9, 2) := by decide +kernel
theorem dX10_readCart_42 : decode cX10_readCart 42 = .ok (.invokevirtual 192, 3) := by decide +kernel
theorem dX10_readCart_45 : decode cX10_readCart 45 = .ok (.iastore, 1) := by decide +kernel
theorem dX10_readCart_46 : decode cX10_readCart 46 = .ok (.return_, 1) := by decide +kernel
theorem dX10_readLaw_0 : decode cX10_readLaw 0 = .ok (.aload_n 0, 1) := by decide +kernel
theorem dX10_readLaw_1 : decode cX10_readLaw 1 = .ok (.invokevirtual 145, 3) := by decide +kernel
theorem dX10_readLaw_4 : decode cX10_readLaw 4 = .ok (.aload_n 0, 1) := by decide +kernel
theorem dX10_readLaw_5 : decode cX10_readLaw 5 = .ok (.bipush 31, 2) := by decide +kernel
theorem dX10_readLaw_7 : decode cX10_readLaw 7 = .ok (.invokevirtual 171, 3) := by decide +kernel
theorem dX10_readLaw_10 : decode cX10_readLaw 10 = .ok (.ifCond .ne 8, 3) := by decide +kernel
theorem dX10_readLaw_13 : decode cX10_readLaw 13 = .ok (.aload_n 0, 1) := by decide +kernel
theorem dX10_readLaw_14 : decode cX10_readLaw 14 = .ok (.iconst 2, 1) := by decide +kernel
theorem dX10_readLaw_15 : decode cX10_readLaw 15 = .ok (.invokevirtual 148, 3) := by decide +kernel
theorem dX10_readLaw_18 : decode cX10_readLaw 18 = .ok (.aload_n 0, 1) := by decide +kernel
theorem dX10_readLaw_19 : decode cX10_readLaw 19 = .ok (.getfield 24, 3) := by decide +kernel
theorem dX10_readLaw_22 : decode cX10_readLaw 22 = .ok (.sipush 276, 3) := by decide +kernel
theorem dX10_readLaw_25 : decode cX10_readLaw 25 = .ok (.iaload, 1) := by decide +kernel
theorem dX10_readLaw_26 : decode cX10_readLaw 26 = .ok (.istore_n 2, 1) := by decide +kernel
theorem dX10_readLaw_27 : decode cX10_readLaw 27 = .ok (.aload_n 0, 1) := by decide +kernel
theorem dX10_readLaw_28 : decode cX10_readLaw 28 = .ok (.iload_n 1, 1) := by decide +kernel
theorem dX10_readLaw_29 : decode cX10_readLaw 29 = .ok (.putfield 156, 3) := by decide +kernel
theorem dX10_readLaw_32 : decode cX10_readLaw 32 = .ok (.aload_n 0, 1) := by decide +kernel
theorem dX10_readLaw_33 : decode cX10_readLaw 33 = .ok (.iconst 0, 1) := by decide +kernel
theorem dX10_readLaw_34 : decode cX10_readLaw 34 = .ok (.invokevirtual 168, 3) := by decide +kernel
theorem dX10_readLaw_37 : decode cX10_readLaw 37 = .ok (.aload_n 0, 1) := by decide +kernel
theorem dX10_readLaw_38 : decode cX10_readLaw 38 = .ok (.getfield 136, 3) := by decide +kernel
theorem dX10_readLaw_41 : decode cX10_readLaw 41 = .ok (.ifCond .eq 4, 3) := by decide +kernel
theorem dX10_readLaw_44 : decode cX10_readLaw 44 = .ok (.return_, 1) := by decide +kernel
theorem dX10_readLaw_45 : decode cX10_readLaw 45 = .ok (.aload_n 0, 1) := by decide +kernel
theorem dX10_readLaw_46 : decode cX10_readLaw 46 = .ok (.getfield 24, 3) := by decide +kernel
theorem dX10_readLaw_49 : decode cX10_readLaw 49 = .ok (.bipush 8, 2) := by decide +kernel
theorem dX10_readLaw_51 : decode cX10_readLaw 51 = .ok (.iload_n 1, 1) := by decide +kernel
theorem dX10_readLaw_52 : decode cX10_readLaw 52 = .ok (.iadd, 1) := by decide +kernel
theorem dX10_readLaw_53 : decode cX10_readLaw 53 = .ok (.iconst 1, 1) := by decide +kernel
theorem dX10_readLaw_54 : decode cX10_readLaw 54 = .ok (.iastore, 1) := by decide +kernel
theorem dX10_readLaw_55 : decode cX10_readLaw 55 = .ok (.aload_n 0, 1) := by decide +kernel
theorem dX10_readLaw_56 : decode cX10_readLaw 56 = .ok (.getfield 24, 3) := by decide +kernel
theorem dX10_readLaw_59 : decode cX10_readLaw 59 = .ok (.bipush 10, 2) := by decide +kernel
theorem dX10_readLaw_61 : decode cX10_readLaw 61 = .ok (.iload_n 1, 1) := by decide +kernel
theorem dX10_readLaw_62 : decode cX10_readLaw 62 = .ok (.iadd, 1) := by decide +kernel
theorem dX10_readLaw_63 : decode cX10_readLaw 63 = .ok (.iload_n 2, 1) := by decide +kernel
theorem dX10_readLaw_64 : decode cX10_readLaw 64 = .ok (.iastore, 1) := by decide +kernel
theorem dX10_readLaw_65 : decode cX10_readLaw 65 = .ok (.aload_n 0, 1) := by decide +kernel
theorem dX10_readLaw_66 : decode cX10_readLaw 66 = .ok (.getfield 24, 3) := by decide +kernel
theorem dX10_readLaw_69 : decode cX10_readLaw 69 = .ok (.bipush 12, 2) := by decide +kernel
theorem dX10_readLaw_71 : decode cX10_readLaw 71 = .ok (.iload_n 1, 1) := by decide +kernel
theorem dX10_readLaw_72 : decode cX10_readLaw 72 = .ok (.iadd, 1) := by decide +kernel
theorem dX10_readLaw_73 : decode cX10_readLaw 73 = .ok (.aload_n 0, 1) := by decide +kernel
theorem dX10_readLaw_74 : decode cX10_readLaw 74 = .ok (.getfield 24, 3) := by decide +kernel
theorem dX10_readLaw_77 : decode cX10_readLaw 77 = .ok (.sipush 276, 3) := by decide +kernel
theorem dX10_readLaw_80 : decode cX10_readLaw 80 = .ok (.iaload, 1) := by decide +kernel
theorem dX10_readLaw_81 : decode cX10_readLaw 81 = .ok (.iload_n 2, 1) := by decide +kernel
theorem dX10_readLaw_82 : decode cX10_readLaw 82 = .ok (.isub, 1) := by decide +kernel
theorem dX10_readLaw_83 : decode cX10_readLaw 83 = .ok (.iastore, 1) := by decide +kernel
theorem dX10_readLaw_84 : decode cX10_readLaw 84 = .ok (.return_, 1) := by decide +kernel
theorem dX10_readLine_0 : decode cX10_readLine 0 = .ok (.aload_n 0, 1) := by decide +kernel
theorem dX10_readLine_1 : decode cX10_readLine 1 = .ok (.getfield 136, 3) := by decide +kernel
theorem dX10_readLine_4 : decode cX10_readLine 4 = .ok (.ifCond .eq 4, 3) := by decide +kernel
theorem dX10_readLine_7 : decode cX10_readLine 7 = .ok (.return_, 1) := by decide +kernel
theorem dX10_readLine_8 : decode cX10_readLine 8 = .ok (.aload_n 0, 1) := by decide +kernel
theorem dX10_readLine_9 : decode cX10_readLine 9 = .ok (.iconst 3, 1) := by decide +kernel
theorem dX10_readLine_10 : decode cX10_readLine 10 = .ok (.invokevirtual 142, 3) := by decide +kernel
theorem dX10_readLine_13 : decode cX10_readLine 13 = .ok (.ifCond .eq 10, 3) := by decide +kernel
theorem dX10_readLine_16 : decode cX10_readLine 16 = .ok (.aload_n 0, 1) := by decide +kernel
theorem dX10_readLine_17 : decode cX10_readLine 17 = .ok (.invokevirtual 203, 3) := by decide +kernel
theorem dX10_readLine_20 : decode cX10_readLine 20 = .ok (.goto 131, 3) := by decide +kernel
theorem dX10_readLine_23 : decode cX10_readLine 23 = .ok (.aload_n 0, 1) := by decide +kernel
theorem dX10_readLine_24 : decode cX10_readLine 24 = .ok (.bipush 7, 2) := by decide +kernel
theorem dX10_readLine_26 : decode cX10_readLine 26 = .ok (.invokevirtual 142, 3) := by decide +kernel
theorem dX10_readLine_29 : decode cX10_readLine 29 = .ok (.ifCond .eq 10, 3) := by decide +kernel
theorem dX10_readLine_32 : decode cX10_readLine 32 = .ok (.aload_n 0, 1) := by decide +kernel
theorem dX10_readLine_33 : decode cX10_readLine 33 = .ok (.invokevirtual 206, 3) := by decide +kernel
theorem dX10_readLine_36 : decode cX10_readLine 36 = .ok (.goto 115, 3) := by decide +kernel
theorem dX10_readLine_39 : decode cX10_readLine 39 = .ok (.aload_n 0, 1) := by decide +kernel
theorem dX10_readLine_40 : decode cX10_readLine 40 = .ok (.bipush 8, 2) := by decide +kernel
theorem dX10_readLine_42 : decode cX10_readLine 42 = .ok (.invokevirtual 142, 3) := by decide +kernel
theorem dX10_readLine_45 : decode cX10_readLine 45 = .ok (.ifCond .ne 12, 3) := by decide +kernel
theorem dX10_readLine_48 : decode cX10_readLine 48 = .ok (.aload_n 0, 1) := by decide +kernel
theorem dX10_readLine_49 : decode cX10_readLine 49 = .ok (.bipush 22, 2) := by decide +kernel
theorem dX10_readLine_51 : decode cX10_readLine 51 = .ok (.invokevirtual 142, 3) := by decide +kernel
theorem dX10_readLine_54 : decode cX10_readLine 54 = .ok (.ifCond .eq 16, 3) := by decide +kernel
theorem dX10_readLine_57 : decode cX10_readLine 57 = .ok (.aload_n 0, 1) := by decide +kernel
theorem dX10_readLine_58 : decode cX10_readLine 58 = .ok (.aload_n 0, 1) := by decide +kernel
theorem dX10_readLine_59 : decode cX10_readLine 59 = .ok (.bipush 8, 2) := by decide +kernel
theorem dX10_readLine_61 : decode cX10_readLine 61 = .ok (.invokevirtual 142, 3) := by decide +kernel
theorem dX10_readLine_64 : decode cX10_readLine 64 = .ok (.invokevirtual 209, 3) := by decide +kernel
theorem dX10_readLine_67 : decode cX10_readLine 67 = .ok (.goto 84, 3) := by decide +kernel
theorem dX10_readLine_70 : decode cX10_readLine 70 = .ok (.aload_n 0, 1) := by decide +kernel
theorem dX10_readLine_71 : decode cX10_readLine 71 = .ok (.bipush 9, 2) := by decide +kernel
theorem dX10_readLine_73 : decode cX10_readLine 73 = .ok (.invokevirtual 142, 3) := by decide +kernel
theorem dX10_readLine_76 : decode cX10_readLine 76 = .ok (.ifCond .eq 10, 3) := by decide +kernel
theorem dX10_readLine_79 : decode cX10_readLine 79 = .ok (.aload_n 0, 1) := by decide +kernel
theorem dX10_readLine_80 : decode cX10_readLine 80 = .ok (.invokevirtual 213, 3) := by decide +kernel
theorem dX10_readLine_83 : decode cX10_readLine 83 = .ok (.goto 68, 3) := by decide +kernel
theorem dX10_readLine_86 : decode cX10_readLine 86 = .ok (.aload_n 0, 1) := by decide +kernel
theorem dX10_readLine_87 : decode cX10_readLine 87 = .ok (.bipush 11, 2) := by decide +kernel
theorem dX10_readLine_89 : decode cX10_readLine 89 = .ok (.invokevirtual 171, 3) := by decide +kernel
theorem dX10_readLine_92 : decode cX10_readLine 92 = .ok (.ifCond .eq 20, 3) := by decide +kernel
theorem dX10_readLine_95 : decode cX10_readLine 95 = .ok (.aload_n 0, 1) := by decide +kernel
theorem dX10_readLine_96 : decode cX10_readLine 96 = .ok (.getfield 24, 3) := by decide +kernel
theorem dX10_readLine_99 : decode cX10_readLine 99 = .ok (.bipush 27, 2) := by decide +kernel
theorem dX10_readLine_101 : decode cX10_readLine 101 = .ok (.aload_n 0, 1) := by decide +kernel
theorem dX10_readLine_102 : decode cX10_readLine 102 = .ok (.iconst 0, 1) := by decide +kernel
theorem dX10_readLine_103 : decode cX10_readLine 103 = .ok (.bipush 9, 2) := by decide +kernel
theorem dX10_readLine_105 : decode cX10_readLine 105 = .ok (.invokevirtual 192, 3) := by decide +kernel
theorem dX10_readLine_108 : decode cX10_readLine 108 = .ok (.iastore, 1) := by decide +kernel
theorem dX10_readLine_109 : decode cX10_readLine 109 = .ok (.goto 42, 3) := by decide +kernel
theorem dX10_readLine_112 : decode cX10_readLine 112 = .ok (.aload_n 0, 1) := by decide +kernel
theorem dX10_readLine_113 : decode cX10_readLine 113 = .ok (.bipush 10, 2) := by decide +kernel
theorem dX10_readLine_115 : decode cX10_readLine 115 = .ok (.invokevirtual 142, 3) := by decide +kernel
theorem dX10_readLine_118 : decode cX10_readLine 118 = .ok (.ifCond .eq 11, 3) := by decide +kernel
theorem dX10_readLine_121 : decode cX10_readLine 121 = .ok (.aload_n 0, 1) := by decide +kernel
theorem dX10_readLine_122 : decode cX10_readLine 122 = .ok (.iconst 0, 1) := by decide +kernel
theorem dX10_readLine_123 : decode cX10_readLine 123 = .ok (.invokevirtual 216, 3) := by decide +kernel
theorem dX10_readLine_126 : decode cX10_readLine 126 = .ok (.goto 25, 3) := by decide +kernel
theorem dX10_readLine_129 : decode cX10_readLine 129 = .ok (.aload_n 0, 1) := by decide +kernel
theorem dX10_readLine_130 : decode cX10_readLine 130 = .ok (.bipush 12, 2) := by decide +kernel
theorem dX10_readLine_132 : decode cX10_readLine 132 = .ok (.invokevirtual 142, 3) := by decide +kernel
theorem dX10_readLine_135 : decode cX10_readLine 135 = .ok (.ifCond .eq 11, 3) := by decide +kernel
theorem dX10_readLine_138 : decode cX10_readLine 138 = .ok (.aload_n 0, 1) := by decide +kernel
theorem dX10_readLine_139 : decode cX10_readLine 139 = .ok (.iconst 1, 1) := by decide +kernel
theorem dX10_readLine_140 : decode cX10_readLine 140 = .ok (.invokevirtual 216, 3) := by decide +kernel
theorem dX10_readLine_143 : decode cX10_readLine 143 = .ok (.goto 8, 3) := by decide +kernel
theorem dX10_readLine_146 : decode cX10_readLine 146 = .ok (.aload_n 0, 1) := by decide +kernel
theorem dX10_readLine_147 : decode cX10_readLine 147 = .ok (.iconst 2, 1) := by decide +kernel
theorem dX10_readLine_148 : decode cX10_readLine 148 = .ok (.invokevirtual 148, 3) := by decide +kernel
theorem dX10_readLine_151 : decode cX10_readLine 151 = .ok (.return_, 1) := by decide +kernel
theorem dX10_ends_0 : decode cX10_ends 0 = .ok (.aload_n 0, 1) := by decide +kernel
theorem dX10_ends_1 : decode cX10_ends 1 = .ok (.bipush 30, 2) := by decide +kernel
theorem dX10_ends_3 : decode cX10_ends 3 = .ok (.invokevirtual 171, 3) := by decide +kernel
theorem dX10_ends_6 : decode cX10_ends 6 = .ok (.ifCond .ne 8, 3) := by decide +kernel
theorem dX10_ends_9 : decode cX10_ends 9 = .ok (.aload_n 0, 1) := by decide +kernel
theorem dX10_ends_10 : decode cX10_ends 10 = .ok (.iconst 2, 1) := by decide +kernel
theorem dX10_ends_11 : decode cX10_ends 11 = .ok (.invokevirtual 148, 3) := by decide +kernel
theorem dX10_ends_14 : decode cX10_ends 14 = .ok (.aload_n 0, 1) := by decide +kernel
theorem dX10_ends_15 : decode cX10_ends 15 = .ok (.getfield 24, 3) := by decide +kernel
theorem dX10_ends_18 : decode cX10_ends 18 = .ok (.iconst 0, 1) := by decide +kernel
theorem dX10_ends_19 : decode cX10_ends 19 = .ok (.dup2, 1) := by decide +kernel
theorem dX10_ends_20 : decode cX10_ends 20 = .ok (.iaload, 1) := by decide +kernel
theorem dX10_ends_21 : decode cX10_ends 21 = .ok (.iconst 1, 1) := by decide +kernel
theorem dX10_ends_22 : decode cX10_ends 22 = .ok (.iadd, 1) := by decide +kernel
theorem dX10_ends_23 : decode cX10_ends 23 = .ok (.iastore, 1) := by decide +kernel
theorem dX10_ends_24 : decode cX10_ends 24 = .ok (.return_, 1) := by decide +kernel
theorem dX10_street_0 : decode cX10_street 0 = .ok (.aload_n 0, 1) := by decide +kernel
theorem dX10_street_1 : decode cX10_street 1 = .ok (.iconst 0, 1) := by decide +kernel
theorem dX10_street_2 : decode cX10_street 2 = .ok (.putfield 1, 3) := by decide +kernel
theorem dX10_street_5 : decode cX10_street 5 = .ok (.iload_n 1, 1) := by decide +kernel
theorem dX10_street_6 : decode cX10_street 6 = .ok (.i2l, 1) := by decide +kernel
theorem dX10_street_7 : decode cX10_street 7 = .ok (.lconst 0, 1) := by decide +kernel
theorem dX10_street_8 : decode cX10_street 8 = .ok (.aload_n 0, 1) := by decide +kernel
theorem dX10_street_9 : decode cX10_street 9 = .ok (.getfield 90, 3) := by decide +kernel
theorem dX10_street_12 : decode cX10_street 12 = .ok (.i2l, 1) := by decide +kernel
theorem dX10_street_13 : decode cX10_street 13 = .ok (.invokestatic 152, 3) := by decide +kernel
theorem dX10_street_16 : decode cX10_street 16 = .ok (.ifCond .ne 6, 3) := by decide +kernel
theorem dX10_street_19 : decode cX10_street 19 = .ok (.bipush (-3), 2) := by decide +kernel
theorem dX10_street_21 : decode cX10_street 21 = .ok (.ireturn, 1) := by decide +kernel
theorem dX10_street_22 : decode cX10_street 22 = .ok (.aload_n 0, 1) := by decide +kernel
theorem dX10_street_23 : decode cX10_street 23 = .ok (.iload_n 1, 1) := by decide +kernel
theorem dX10_street_24 : decode cX10_street 24 = .ok (.putfield 93, 3) := by decide +kernel
theorem dX10_street_27 : decode cX10_street 27 = .ok (.aload_n 0, 1) := by decide +kernel
theorem dX10_street_28 : decode cX10_street 28 = .ok (.iconst 0, 1) := by decide +kernel
theorem dX10_street_29 : decode cX10_street 29 = .ok (.putfield 90, 3) := by decide +kernel
theorem dX10_street_32 : decode cX10_street 32 = .ok (.aload_n 0, 1) := by decide +kernel
theorem dX10_street_33 : decode cX10_street 33 = .ok (.iconst 0, 1) := by decide +kernel
theorem dX10_street_34 : decode cX10_street 34 = .ok (.putfield 111, 3) := by decide +kernel
theorem dX10_street_37 : decode cX10_street 37 = .ok (.aload_n 0, 1) := by decide +kernel
theorem dX10_street_38 : decode cX10_street 38 = .ok (.iconst 0, 1) := by decide +kernel
theorem dX10_street_39 : decode cX10_street 39 = .ok (.putfield 136, 3) := by decide +kernel
theorem dX10_street_42 : decode cX10_street 42 = .ok (.aload_n 0, 1) := by decide +kernel
theorem dX10_street_43 : decode cX10_street 43 = .ok (.getfield 24, 3) := by decide +kernel
theorem dX10_street_46 : decode cX10_street 46 = .ok (.invokestatic 86, 3) := by decide +kernel
theorem dX10_street_49 : decode cX10_street 49 = .ok (.aload_n 0, 1) := by decide +kernel
theorem dX10_street_50 : decode cX10_street 50 = .ok (.invokevirtual 145, 3) := by decide +kernel
theorem dX10_street_53 : decode cX10_street 53 = .ok (.aload_n 0, 1) := by decide +kernel
theorem dX10_street_54 : decode cX10_street 54 = .ok (.iconst 0, 1) := by decide +kernel
theorem dX10_street_55 : decode cX10_street 55 = .ok (.invokevirtual 171, 3) := by decide +kernel
theorem dX10_street_58 : decode cX10_street 58 = .ok (.ifCond .ne 8, 3) := by decide +kernel
theorem dX10_street_61 : decode cX10_street 61 = .ok (.aload_n 0, 1) := by decide +kernel
theorem dX10_street_62 : decode cX10_street 62 = .ok (.iconst 2, 1) := by decide +kernel
theorem dX10_street_63 : decode cX10_street 63 = .ok (.invokevirtual 148, 3) := by decide +kernel
theorem dX10_street_66 : decode cX10_street 66 = .ok (.aload_n 0, 1) := by decide +kernel
theorem dX10_street_67 : decode cX10_street 67 = .ok (.getfield 24, 3) := by decide +kernel
theorem dX10_street_70 : decode cX10_street 70 = .ok (.iconst 1, 1) := by decide +kernel
theorem dX10_street_71 : decode cX10_street 71 = .ok (.aload_n 0, 1) := by decide +kernel
theorem dX10_street_72 : decode cX10_street 72 = .ok (.iconst 1, 1) := by decide +kernel
theorem dX10_street_73 : decode cX10_street 73 = .ok (.bipush 6, 2) := by decide +kernel
theorem dX10_street_75 : decode cX10_street 75 = .ok (.invokevirtual 192, 3) := by decide +kernel
theorem dX10_street_78 : decode cX10_street 78 = .ok (.iastore, 1) := by decide +kernel
theorem dX10_street_79 : decode cX10_street 79 = .ok (.aload_n 0, 1) := by decide +kernel
theorem dX10_street_80 : decode cX10_street 80 = .ok (.iconst 1, 1) := by decide +kernel
theorem dX10_street_81 : decode cX10_street 81 = .ok (.invokevirtual 171, 3) := by decide +kernel
theorem dX10_street_84 : decode cX10_street 84 = .ok (.ifCond .ne 8, 3) := by decide +kernel
theorem dX10_street_87 : decode cX10_street 87 = .ok (.aload_n 0, 1) := by decide +kernel
theorem dX10_street_88 : decode cX10_street 88 = .ok (.iconst 2, 1) := by decide +kernel
theorem dX10_street_89 : decode cX10_street 89 = .ok (.invokevirtual 148, 3) := by decide +kernel
theorem dX10_street_92 : decode cX10_street 92 = .ok (.aload_n 0, 1) := by decide +kernel
theorem dX10_street_93 : decode cX10_street 93 = .ok (.getfield 24, 3) := by decide +kernel
theorem dX10_street_96 : decode cX10_street 96 = .ok (.iconst 2, 1) := by decide +kernel
theorem dX10_street_97 : decode cX10_street 97 = .ok (.aload_n 0, 1) := by decide +kernel
theorem dX10_street_98 : decode cX10_street 98 = .ok (.iconst 0, 1) := by decide +kernel
theorem dX10_street_99 : decode cX10_street 99 = .ok (.aload_n 0, 1) := by decide +kernel
theorem dX10_street_100 : decode cX10_street 100 = .ok (.getfield 24, 3) := by decide +kernel
theorem dX10_street_103 : decode cX10_street 103 = .ok (.iconst 1, 1) := by decide +kernel
theorem dX10_street_104 : decode cX10_street 104 = .ok (.iaload, 1) := by decide +kernel
theorem dX10_street_105 : decode cX10_street 105 = .ok (.iconst 1, 1) := by decide +kernel
theorem dX10_street_106 : decode cX10_street 106 = .ok (.isub, 1) := by decide +kernel
theorem dX10_street_107 : decode cX10_street 107 = .ok (.invokevirtual 192, 3) := by decide +kernel
theorem dX10_street_110 : decode cX10_street 110 = .ok (.iastore, 1) := by decide +kernel
theorem dX10_street_111 : decode cX10_street 111 = .ok (.aload_n 0, 1) := by decide +kernel
theorem dX10_street_112 : decode cX10_street 112 = .ok (.iconst 2, 1) := by decide +kernel
theorem dX10_street_113 : decode cX10_street 113 = .ok (.invokevirtual 171, 3) := by decide +kernel
theorem dX10_street_116 : decode cX10_street 116 = .ok (.ifCond .ne 8, 3) := by decide +kernel
theorem dX10_street_119 : decode cX10_street 119 = .ok (.aload_n 0, 1) := by decide +kernel
theorem dX10_street_120 : decode cX10_street 120 = .ok (.iconst 2, 1) := by decide +kernel
theorem dX10_street_121 : decode cX10_street 121 = .ok (.invokevirtual 148, 3) := by decide +kernel
theorem dX10_street_124 : decode cX10_street 124 = .ok (.aload_n 0, 1) := by decide +kernel
theorem dX10_street_125 : decode cX10_street 125 = .ok (.getfield 24, 3) := by decide +kernel
theorem dX10_street_128 : decode cX10_street 128 = .ok (.bipush 26, 2) := by decide +kernel
theorem dX10_street_130 : decode cX10_street 130 = .ok (.aload_n 0, 1) := by decide +kernel
theorem dX10_street_131 : decode cX10_street 131 = .ok (.iconst 1, 1) := by decide +kernel
theorem dX10_street_132 : decode cX10_street 132 = .ok (.bipush 9, 2) := by decide +kernel
theorem dX10_street_134 : decode cX10_street 134 = .ok (.invokevirtual 192, 3) := by decide +kernel
theorem dX10_street_137 : decode cX10_street 137 = .ok (.iastore, 1) := by decide +kernel
theorem dX10_street_138 : decode cX10_street 138 = .ok (.aload_n 0, 1) := by decide +kernel
theorem dX10_street_139 : decode cX10_street 139 = .ok (.invokevirtual 219, 3) := by decide +kernel
theorem dX10_street_142 : decode cX10_street 142 = .ok (.aload_n 0, 1) := by decide +kernel
theorem dX10_street_143 : decode cX10_street 143 = .ok (.getfield 136, 3) := by decide +kernel
theorem dX10_street_146 : decode cX10_street 146 = .ok (.ifCond .ne 23, 3) := by decide +kernel
theorem dX10_street_149 : decode cX10_street 149 = .ok (.aload_n 0, 1) := by decide +kernel
theorem dX10_street_150 : decode cX10_street 150 = .ok (.getfield 118, 3) := by decide +kernel
theorem dX10_street_153 : decode cX10_street 153 = .ok (.bipush 25, 2) := by decide +kernel
theorem dX10_street_155 : decode cX10_street 155 = .ok (.if_icmp .eq 14, 3) := by decide +kernel
theorem dX10_street_158 : decode cX10_street 158 = .ok (.aload_n 0, 1) := by decide +kernel
theorem dX10_street_159 : decode cX10_street 159 = .ok (.invokevirtual 222, 3) := by decide +kernel
theorem dX10_street_162 : decode cX10_street 162 = .ok (.aload_n 0, 1) := by decide +kernel
theorem dX10_street_163 : decode cX10_street 163 = .ok (.invokevirtual 219, 3) := by decide +kernel
theorem dX10_street_166 : decode cX10_street 166 = .ok (.goto (-24), 3) := by decide +kernel
theorem dX10_street_169 : decode cX10_street 169 = .ok (.aload_n 0, 1) := by decide +kernel
theorem dX10_street_170 : decode cX10_street 170 = .ok (.aload_n 0, 1) := by decide +kernel
theorem dX10_street_171 : decode cX10_street 171 = .ok (.getfield 136, 3) := by decide +kernel
theorem dX10_street_174 : decode cX10_street 174 = .ok (.putfield 225, 3) := by decide +kernel
theorem dX10_street_177 : decode cX10_street 177 = .ok (.aload_n 0, 1) := by decide +kernel
theorem dX10_street_178 : decode cX10_street 178 = .ok (.aload_n 0, 1) := by decide +kernel
theorem dX10_street_179 : decode cX10_street 179 = .ok (.getfield 136, 3) := by decide +kernel
theorem dX10_street_182 : decode cX10_street 182 = .ok (.ifCond .ne 7, 3) := by decide +kernel
theorem dX10_street_185 : decode cX10_street 185 = .ok (.iconst (-1), 1) := by decide +kernel
theorem dX10_street_186 : decode cX10_street 186 = .ok (.goto 7, 3) := by decide +kernel
theorem dX10_street_189 : decode cX10_street 189 = .ok (.aload_n 0, 1) := by decide +kernel
theorem dX10_street_190 : decode cX10_street 190 = .ok (.getfield 139, 3) := by decide +kernel
theorem dX10_street_193 : decode cX10_street 193 = .ok (.putfield 27, 3) := by decide +kernel
theorem dX10_street_196 : decode cX10_street 196 = .ok (.aload_n 0, 1) := by decide +kernel
theorem dX10_street_197 : decode cX10_street 197 = .ok (.getfield 136, 3) := by decide +kernel
theorem dX10_street_200 : decode cX10_street 200 = .ok (.ifCond .eq 11, 3) := by decide +kernel
theorem dX10_street_203 : decode cX10_street 203 = .ok (.bipush (-30), 2) := by decide +kernel
theorem dX10_street_205 : decode cX10_street 205 = .ok (.aload_n 0, 1) := by decide +kernel
theorem dX10_street_206 : decode cX10_street 206 = .ok (.getfield 136, 3) := by decide +kernel
theorem dX10_street_209 : decode cX10_street 209 = .ok (.isub, 1) := by decide +kernel
theorem dX10_street_210 : decode cX10_street 210 = .ok (.ireturn, 1) := by decide +kernel
theorem dX10_street_211 : decode cX10_street 211 = .ok (.iconst 0, 1) := by decide +kernel
theorem dX10_street_212 : decode cX10_street 212 = .ok (.istore_n 2, 1) := by decide +kernel
theorem dX10_street_213 : decode cX10_street 213 = .ok (.iload_n 2, 1) := by decide +kernel
theorem dX10_street_214 : decode cX10_street 214 = .ok (.sipush 1177, 3) := by decide +kernel
theorem dX10_street_217 : decode cX10_street 217 = .ok (.if_icmp .ge 21, 3) := by decide +kernel
theorem dX10_street_220 : decode cX10_street 220 = .ok (.aload_n 0, 1) := by decide +kernel
theorem dX10_street_221 : decode cX10_street 221 = .ok (.getfield 13, 3) := by decide +kernel
theorem dX10_street_224 : decode cX10_street 224 = .ok (.iload_n 2, 1) := by decide +kernel
theorem dX10_street_225 : decode cX10_street 225 = .ok (.aload_n 0, 1) := by decide +kernel
theorem dX10_street_226 : decode cX10_street 226 = .ok (.getfield 24, 3) := by decide +kernel
theorem dX10_street_229 : decode cX10_street 229 = .ok (.iload_n 2, 1) := by decide +kernel
theorem dX10_street_230 : decode cX10_street 230 = .ok (.iaload, 1) := by decide +kernel
theorem dX10_street_231 : decode cX10_street 231 = .ok (.iastore, 1) := by decide +kernel
theorem dX10_street_232 : decode cX10_street 232 = .ok (.iinc 2 1, 3) := by decide +kernel
theorem dX10_street_235 : decode cX10_street 235 = .ok (.goto (-22), 3) := by decide +kernel
theorem dX10_street_238 : decode cX10_street 238 = .ok (.aload_n 0, 1) := by decide +kernel
theorem dX10_street_239 : decode cX10_street 239 = .ok (.getfield 13, 3) := by decide +kernel
theorem dX10_street_242 : decode cX10_street 242 = .ok (.iconst 0, 1) := by decide +kernel
theorem dX10_street_243 : decode cX10_street 243 = .ok (.iaload, 1) := by decide +kernel
theorem dX10_street_244 : decode cX10_street 244 = .ok (.ireturn, 1) := by decide +kernel
theorem dX10_fault_0 : decode cX10_fault 0 = .ok (.aload_n 0, 1) := by decide +kernel
theorem dX10_fault_1 : decode cX10_fault 1 = .ok (.iconst 0, 1) := by decide +kernel
theorem dX10_fault_2 : decode cX10_fault 2 = .ok (.putfield 1, 3) := by decide +kernel
theorem dX10_fault_5 : decode cX10_fault 5 = .ok (.iload_n 1, 1) := by decide +kernel
theorem dX10_fault_6 : decode cX10_fault 6 = .ok (.ifCond .ne 10, 3) := by decide +kernel
theorem dX10_fault_9 : decode cX10_fault 9 = .ok (.aload_n 0, 1) := by decide +kernel
theorem dX10_fault_10 : decode cX10_fault 10 = .ok (.getfield 225, 3) := by decide +kernel
theorem dX10_fault_13 : decode cX10_fault 13 = .ok (.goto 16, 3) := by decide +kernel
theorem dX10_fault_16 : decode cX10_fault 16 = .ok (.iload_n 1, 1) := by decide +kernel
theorem dX10_fault_17 : decode cX10_fault 17 = .ok (.iconst 1, 1) := by decide +kernel
theorem dX10_fault_18 : decode cX10_fault 18 = .ok (.if_icmp .ne 10, 3) := by decide +kernel
theorem dX10_fault_21 : decode cX10_fault 21 = .ok (.aload_n 0, 1) := by decide +kernel
theorem dX10_fault_22 : decode cX10_fault 22 = .ok (.getfield 27, 3) := by decide +kernel
theorem dX10_fault_25 : decode cX10_fault 25 = .ok (.goto 4, 3) := by decide +kernel
theorem dX10_fault_28 : decode cX10_fault 28 = .ok (.iconst (-1), 1) := by decide +kernel
theorem dX10_fault_29 : decode cX10_fault 29 = .ok (.ireturn, 1) := by decide +kernel
theorem dX10_isGoer_0 : decode cX10_isGoer 0 = .ok (.iload_n 1, 1) := by decide +kernel
theorem dX10_isGoer_1 : decode cX10_isGoer 1 = .ok (.i2l, 1) := by decide +kernel
theorem dX10_isGoer_2 : decode cX10_isGoer 2 = .ok (.lconst 0, 1) := by decide +kernel
theorem dX10_isGoer_3 : decode cX10_isGoer 3 = .ok (.aload_n 0, 1) := by decide +kernel
theorem dX10_isGoer_4 : decode cX10_isGoer 4 = .ok (.getfield 13, 3) := by decide +kernel
theorem dX10_isGoer_7 : decode cX10_isGoer 7 = .ok (.iconst 3, 1) := by decide +kernel
theorem dX10_isGoer_8 : decode cX10_isGoer 8 = .ok (.iaload, 1) := by decide +kernel
theorem dX10_isGoer_9 : decode cX10_isGoer 9 = .ok (.iconst 1, 1) := by decide +kernel
theorem dX10_isGoer_10 : decode cX10_isGoer 10 = .ok (.isub, 1) := by decide +kernel
theorem dX10_isGoer_11 : decode cX10_isGoer 11 = .ok (.i2l, 1) := by decide +kernel
theorem dX10_isGoer_12 : decode cX10_isGoer 12 = .ok (.invokestatic 152, 3) := by decide +kernel
theorem dX10_isGoer_15 : decode cX10_isGoer 15 = .ok (.ireturn, 1) := by decide +kernel
theorem dX10_isSet_0 : decode cX10_isSet 0 = .ok (.lload_n 1, 1) := by decide +kernel
theorem dX10_isSet_1 : decode cX10_isSet 1 = .ok (.lconst 0, 1) := by decide +kernel
theorem dX10_isSet_2 : decode cX10_isSet 2 = .ok (.iconst 1, 1) := by decide +kernel
theorem dX10_isSet_3 : decode cX10_isSet 3 = .ok (.aload_n 0, 1) := by decide +kernel
theorem dX10_isSet_4 : decode cX10_isSet 4 = .ok (.getfield 13, 3) := by decide +kernel
theorem dX10_isSet_7 : decode cX10_isSet 7 = .ok (.iconst 3, 1) := by decide +kernel
theorem dX10_isSet_8 : decode cX10_isSet 8 = .ok (.iaload, 1) := by decide +kernel
theorem dX10_isSet_9 : decode cX10_isSet 9 = .ok (.ishl, 1) := by decide +kernel
theorem dX10_isSet_10 : decode cX10_isSet 10 = .ok (.iconst 1, 1) := by decide +kernel
theorem dX10_isSet_11 : decode cX10_isSet 11 = .ok (.isub, 1) := by decide +kernel
theorem dX10_isSet_12 : decode cX10_isSet 12 = .ok (.i2l, 1) := by decide +kernel
theorem dX10_isSet_13 : decode cX10_isSet 13 = .ok (.invokestatic 152, 3) := by decide +kernel
theorem dX10_isSet_16 : decode cX10_isSet 16 = .ok (.ireturn, 1) := by decide +kernel
theorem dX10_areTwo_0 : decode cX10_areTwo 0 = .ok (.lload_n 1, 1) := by decide +kernel
theorem dX10_areTwo_1 : decode cX10_areTwo 1 = .ok (.lconst 0, 1) := by decide +kernel
theorem dX10_areTwo_2 : decode cX10_areTwo 2 = .ok (.aload_n 0, 1) := by decide +kernel
theorem dX10_areTwo_3 : decode cX10_areTwo 3 = .ok (.getfield 13, 3) := by decide +kernel
theorem dX10_areTwo_6 : decode cX10_areTwo 6 = .ok (.iconst 4, 1) := by decide +kernel
theorem dX10_areTwo_7 : decode cX10_areTwo 7 = .ok (.iaload, 1) := by decide +kernel
theorem dX10_areTwo_8 : decode cX10_areTwo 8 = .ok (.iconst 1, 1) := by decide +kernel
theorem dX10_areTwo_9 : decode cX10_areTwo 9 = .ok (.isub, 1) := by decide +kernel
theorem dX10_areTwo_10 : decode cX10_areTwo 10 = .ok (.i2l, 1) := by decide +kernel
theorem dX10_areTwo_11 : decode cX10_areTwo 11 = .ok (.invokestatic 152, 3) := by decide +kernel
theorem dX10_areTwo_14 : decode cX10_areTwo 14 = .ok (.ifCond .eq 30, 3) := by decide +kernel
theorem dX10_areTwo_17 : decode cX10_areTwo 17 = .ok (.lload_n 3, 1) := by decide +kernel
theorem dX10_areTwo_18 : decode cX10_areTwo 18 = .ok (.lconst 0, 1) := by decide +kernel
theorem dX10_areTwo_19 : decode cX10_areTwo 19 = .ok (.aload_n 0, 1) := by decide +kernel
theorem dX10_areTwo_20 : decode cX10_areTwo 20 = .ok (.getfield 13, 3) := by decide +kernel
theorem dX10_areTwo_23 : decode cX10_areTwo 23 = .ok (.iconst 4, 1) := by decide +kernel
theorem dX10_areTwo_24 : decode cX10_areTwo 24 = .ok (.iaload, 1) := by decide +kernel
theorem dX10_areTwo_25 : decode cX10_areTwo 25 = .ok (.iconst 1, 1) := by decide +kernel
theorem dX10_areTwo_26 : decode cX10_areTwo 26 = .ok (.isub, 1) := by decide +kernel
theorem dX10_areTwo_27 : decode cX10_areTwo 27 = .ok (.i2l, 1) := by decide +kernel
theorem dX10_areTwo_28 : decode cX10_areTwo 28 = .ok (.invokestatic 152, 3) := by decide +kernel
theorem dX10_areTwo_31 : decode cX10_areTwo 31 = .ok (.ifCond .eq 13, 3) := by decide +kernel
theorem dX10_areTwo_34 : decode cX10_areTwo 34 = .ok (.lload_n 1, 1) := by decide +kernel
theorem dX10_areTwo_35 : decode cX10_areTwo 35 = .ok (.lload_n 3, 1) := by decide +kernel
theorem dX10_areTwo_36 : decode cX10_areTwo 36 = .ok (.lcmp, 1) := by decide +kernel
theorem dX10_areTwo_37 : decode cX10_areTwo 37 = .ok (.ifCond .eq 7, 3) := by decide +kernel
theorem dX10_areTwo_40 : decode cX10_areTwo 40 = .ok (.iconst 1, 1) := by decide +kernel
theorem dX10_areTwo_41 : decode cX10_areTwo 41 = .ok (.goto 4, 3) := by decide +kernel
theorem dX10_areTwo_44 : decode cX10_areTwo 44 = .ok (.iconst 0, 1) := by decide +kernel
theorem dX10_areTwo_45 : decode cX10_areTwo 45 = .ok (.ireturn, 1) := by decide +kernel
theorem dX10_bitsOf_0 : decode cX10_bitsOf 0 = .ok (.iconst 0, 1) := by decide +kernel
theorem dX10_bitsOf_1 : decode cX10_bitsOf 1 = .ok (.istore_n 1, 1) := by decide +kernel
theorem dX10_bitsOf_2 : decode cX10_bitsOf 2 = .ok (.iconst 0, 1) := by decide +kernel
theorem dX10_bitsOf_3 : decode cX10_bitsOf 3 = .ok (.istore_n 2, 1) := by decide +kernel
theorem dX10_bitsOf_4 : decode cX10_bitsOf 4 = .ok (.iload_n 2, 1) := by decide +kernel
theorem dX10_bitsOf_5 : decode cX10_bitsOf 5 = .ok (.bipush 10, 2) := by decide +kernel
theorem dX10_bitsOf_7 : decode cX10_bitsOf 7 = .ok (.if_icmp .ge 17, 3) := by decide +kernel
theorem dX10_bitsOf_10 : decode cX10_bitsOf 10 = .ok (.iload_n 1, 1) := by decide +kernel
theorem dX10_bitsOf_11 : decode cX10_bitsOf 11 = .ok (.iload_n 0, 1) := by decide +kernel
theorem dX10_bitsOf_12 : decode cX10_bitsOf 12 = .ok (.iload_n 2, 1) := by decide +kernel
theorem dX10_bitsOf_13 : decode cX10_bitsOf 13 = .ok (.ishr, 1) := by decide +kernel
theorem dX10_bitsOf_14 : decode cX10_bitsOf 14 = .ok (.iconst 1, 1) := by decide +kernel
theorem dX10_bitsOf_15 : decode cX10_bitsOf 15 = .ok (.iand, 1) := by decide +kernel
theorem dX10_bitsOf_16 : decode cX10_bitsOf 16 = .ok (.iadd, 1) := by decide +kernel
theorem dX10_bitsOf_17 : decode cX10_bitsOf 17 = .ok (.istore_n 1, 1) := by decide +kernel
theorem dX10_bitsOf_18 : decode cX10_bitsOf 18 = .ok (.iinc 2 1, 3) := by decide +kernel
theorem dX10_bitsOf_21 : decode cX10_bitsOf 21 = .ok (.goto (-17), 3) := by decide +kernel
theorem dX10_bitsOf_24 : decode cX10_bitsOf 24 = .ok (.iload_n 1, 1) := by decide +kernel
theorem dX10_bitsOf_25 : decode cX10_bitsOf 25 = .ok (.ireturn, 1) := by decide +kernel
theorem dX10_cellIn_0 : decode cX10_cellIn 0 = .ok (.iload_n 0, 1) := by decide +kernel
theorem dX10_cellIn_1 : decode cX10_cellIn 1 = .ok (.iconst 3, 1) := by decide +kernel
theorem dX10_cellIn_2 : decode cX10_cellIn 2 = .ok (.iload_n 1, 1) := by decide +kernel
theorem dX10_cellIn_3 : decode cX10_cellIn 3 = .ok (.imul, 1) := by decide +kernel
theorem dX10_cellIn_4 : decode cX10_cellIn 4 = .ok (.ishr, 1) := by decide +kernel
theorem dX10_cellIn_5 : decode cX10_cellIn 5 = .ok (.bipush 7, 2) := by decide +kernel
theorem dX10_cellIn_7 : decode cX10_cellIn 7 = .ok (.iand, 1) := by decide +kernel
theorem dX10_cellIn_8 : decode cX10_cellIn 8 = .ok (.ireturn, 1) := by decide +kernel
theorem dX10_depthIn_0 : decode cX10_depthIn 0 = .ok (.iload_n 0, 1) := by decide +kernel
theorem dX10_depthIn_1 : decode cX10_depthIn 1 = .ok (.bipush 12, 2) := by decide +kernel
theorem dX10_depthIn_3 : decode cX10_depthIn 3 = .ok (.ishr, 1) := by decide +kernel
theorem dX10_depthIn_4 : decode cX10_depthIn 4 = .ok (.ireturn, 1) := by decide +kernel
theorem dX10_standNow_0 : decode cX10_standNow 0 = .ok (.aload_n 0, 1) := by decide +kernel
theorem dX10_standNow_1 : decode cX10_standNow 1 = .ok (.getfield 13, 3) := by decide +kernel
theorem dX10_standNow_4 : decode cX10_standNow 4 = .ok (.bipush 26, 2) := by decide +kernel
theorem dX10_standNow_6 : decode cX10_standNow 6 = .ok (.iaload, 1) := by decide +kernel
theorem dX10_standNow_7 : decode cX10_standNow 7 = .ok (.bipush 12, 2) := by decide +kernel
theorem dX10_standNow_9 : decode cX10_standNow 9 = .ok (.ishl, 1) := by decide +kernel
theorem dX10_standNow_10 : decode cX10_standNow 10 = .ok (.istore_n 1, 1) := by decide +kernel
theorem dX10_standNow_11 : decode cX10_standNow 11 = .ok (.iconst 0, 1) := by decide +kernel
theorem dX10_standNow_12 : decode cX10_standNow 12 = .ok (.istore_n 2, 1) := by decide +kernel
theorem dX10_standNow_13 : decode cX10_standNow 13 = .ok (.iload_n 2, 1) := by decide +kernel
theorem dX10_standNow_14 : decode cX10_standNow 14 = .ok (.aload_n 0, 1) := by decide +kernel
theorem dX10_standNow_15 : decode cX10_standNow 15 = .ok (.getfield 13, 3) := by decide +kernel
theorem dX10_standNow_18 : decode cX10_standNow 18 = .ok (.iconst 3, 1) := by decide +kernel
theorem dX10_standNow_19 : decode cX10_standNow 19 = .ok (.iaload, 1) := by decide +kernel
theorem dX10_standNow_20 : decode cX10_standNow 20 = .ok (.if_icmp .ge 25, 3) := by decide +kernel
theorem dX10_standNow_23 : decode cX10_standNow 23 = .ok (.iload_n 1, 1) := by decide +kernel
theorem dX10_standNow_24 : decode cX10_standNow 24 = .ok (.aload_n 0, 1) := by decide +kernel
theorem dX10_standNow_25 : decode cX10_standNow 25 = .ok (.getfield 13, 3) := by decide +kernel
theorem dX10_standNow_28 : decode cX10_standNow 28 = .ok (.bipush 22, 2) := by decide +kernel
theorem dX10_standNow_30 : decode cX10_standNow 30 = .ok (.iload_n 2, 1) := by decide +kernel
theorem dX10_standNow_31 : decode cX10_standNow 31 = .ok (.iadd, 1) := by decide +kernel
theorem dX10_standNow_32 : decode cX10_standNow 32 = .ok (.iaload, 1) := by decide +kernel
theorem dX10_standNow_33 : decode cX10_standNow 33 = .ok (.iconst 3, 1) := by decide +kernel
theorem dX10_standNow_34 : decode cX10_standNow 34 = .ok (.iload_n 2, 1) := by decide +kernel

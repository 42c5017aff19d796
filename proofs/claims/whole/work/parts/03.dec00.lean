theorem dX0_init_0 : decode cX0_init 0 = .ok (.aload_n 0, 1) := by decide +kernel
theorem dX0_init_1 : decode cX0_init 1 = .ok (.invokespecial 3, 3) := by decide +kernel
theorem dX0_init_4 : decode cX0_init 4 = .ok (.aload_n 0, 1) := by decide +kernel
theorem dX0_init_5 : decode cX0_init 5 = .ok (.iconst 2, 1) := by decide +kernel
theorem dX0_init_6 : decode cX0_init 6 = .ok (.newarray .int, 2) := by decide +kernel
theorem dX0_init_8 : decode cX0_init 8 = .ok (.putfield 9, 3) := by decide +kernel
theorem dX0_init_11 : decode cX0_init 11 = .ok (.aload_n 0, 1) := by decide +kernel
theorem dX0_init_12 : decode cX0_init 12 = .ok (.ldc 15, 2) := by decide +kernel
theorem dX0_init_14 : decode cX0_init 14 = .ok (.newarray .int, 2) := by decide +kernel
theorem dX0_init_16 : decode cX0_init 16 = .ok (.putfield 16, 3) := by decide +kernel
theorem dX0_init_19 : decode cX0_init 19 = .ok (.aload_n 0, 1) := by decide +kernel
theorem dX0_init_20 : decode cX0_init 20 = .ok (.aload_n 1, 1) := by decide +kernel
theorem dX0_init_21 : decode cX0_init 21 = .ok (.putfield 19, 3) := by decide +kernel
theorem dX0_init_24 : decode cX0_init 24 = .ok (.aload_n 0, 1) := by decide +kernel
theorem dX0_init_25 : decode cX0_init 25 = .ok (.aload_n 1, 1) := by decide +kernel
theorem dX0_init_26 : decode cX0_init 26 = .ok (.getfield 23, 3) := by decide +kernel
theorem dX0_init_29 : decode cX0_init 29 = .ok (.putfield 29, 3) := by decide +kernel
theorem dX0_init_32 : decode cX0_init 32 = .ok (.aload_n 0, 1) := by decide +kernel
theorem dX0_init_33 : decode cX0_init 33 = .ok (.getfield 9, 3) := by decide +kernel
theorem dX0_init_36 : decode cX0_init 36 = .ok (.iconst 0, 1) := by decide +kernel
theorem dX0_init_37 : decode cX0_init 37 = .ok (.iconst (-1), 1) := by decide +kernel
theorem dX0_init_38 : decode cX0_init 38 = .ok (.iastore, 1) := by decide +kernel
theorem dX0_init_39 : decode cX0_init 39 = .ok (.return_, 1) := by decide +kernel
theorem dX0_side_0 : decode cX0_side 0 = .ok (.aload_n 0, 1) := by decide +kernel
theorem dX0_side_1 : decode cX0_side 1 = .ok (.getfield 29, 3) := by decide +kernel
theorem dX0_side_4 : decode cX0_side 4 = .ok (.aload_n 0, 1) := by decide +kernel
theorem dX0_side_5 : decode cX0_side 5 = .ok (.getfield 19, 3) := by decide +kernel
theorem dX0_side_8 : decode cX0_side 8 = .ok (.getfield 23, 3) := by decide +kernel
theorem dX0_side_11 : decode cX0_side 11 = .ok (.if_acmp .ne 27, 3) := by decide +kernel
theorem dX0_side_14 : decode cX0_side 14 = .ok (.aload_n 0, 1) := by decide +kernel
theorem dX0_side_15 : decode cX0_side 15 = .ok (.getfield 30, 3) := by decide +kernel
theorem dX0_side_18 : decode cX0_side 18 = .ok (.aload_n 0, 1) := by decide +kernel
theorem dX0_side_19 : decode cX0_side 19 = .ok (.getfield 19, 3) := by decide +kernel
theorem dX0_side_22 : decode cX0_side 22 = .ok (.getfield 34, 3) := by decide +kernel
theorem dX0_side_25 : decode cX0_side 25 = .ok (.if_icmp .ne 13, 3) := by decide +kernel
theorem dX0_side_28 : decode cX0_side 28 = .ok (.aload_n 0, 1) := by decide +kernel
theorem dX0_side_29 : decode cX0_side 29 = .ok (.getfield 9, 3) := by decide +kernel
theorem dX0_side_32 : decode cX0_side 32 = .ok (.iconst 0, 1) := by decide +kernel
theorem dX0_side_33 : decode cX0_side 33 = .ok (.iaload, 1) := by decide +kernel
theorem dX0_side_34 : decode cX0_side 34 = .ok (.iload_n 1, 1) := by decide +kernel
theorem dX0_side_35 : decode cX0_side 35 = .ok (.if_icmp .eq 63, 3) := by decide +kernel
theorem dX0_side_38 : decode cX0_side 38 = .ok (.aload_n 0, 1) := by decide +kernel
theorem dX0_side_39 : decode cX0_side 39 = .ok (.aload_n 0, 1) := by decide +kernel
theorem dX0_side_40 : decode cX0_side 40 = .ok (.getfield 19, 3) := by decide +kernel
theorem dX0_side_43 : decode cX0_side 43 = .ok (.getfield 23, 3) := by decide +kernel
theorem dX0_side_46 : decode cX0_side 46 = .ok (.putfield 29, 3) := by decide +kernel
theorem dX0_side_49 : decode cX0_side 49 = .ok (.aload_n 0, 1) := by decide +kernel
theorem dX0_side_50 : decode cX0_side 50 = .ok (.aload_n 0, 1) := by decide +kernel
theorem dX0_side_51 : decode cX0_side 51 = .ok (.getfield 19, 3) := by decide +kernel
theorem dX0_side_54 : decode cX0_side 54 = .ok (.getfield 34, 3) := by decide +kernel
theorem dX0_side_57 : decode cX0_side 57 = .ok (.putfield 30, 3) := by decide +kernel
theorem dX0_side_60 : decode cX0_side 60 = .ok (.aload_n 0, 1) := by decide +kernel
theorem dX0_side_61 : decode cX0_side 61 = .ok (.getfield 9, 3) := by decide +kernel
theorem dX0_side_64 : decode cX0_side 64 = .ok (.iconst 0, 1) := by decide +kernel
theorem dX0_side_65 : decode cX0_side 65 = .ok (.iload_n 1, 1) := by decide +kernel
theorem dX0_side_66 : decode cX0_side 66 = .ok (.iastore, 1) := by decide +kernel
theorem dX0_side_67 : decode cX0_side 67 = .ok (.aload_n 0, 1) := by decide +kernel
theorem dX0_side_68 : decode cX0_side 68 = .ok (.getfield 9, 3) := by decide +kernel
theorem dX0_side_71 : decode cX0_side 71 = .ok (.iconst 1, 1) := by decide +kernel
theorem dX0_side_72 : decode cX0_side 72 = .ok (.iconst 1, 1) := by decide +kernel
theorem dX0_side_73 : decode cX0_side 73 = .ok (.aload_n 0, 1) := by decide +kernel
theorem dX0_side_74 : decode cX0_side 74 = .ok (.getfield 29, 3) := by decide +kernel
theorem dX0_side_77 : decode cX0_side 77 = .ok (.getfield 35, 3) := by decide +kernel
theorem dX0_side_80 : decode cX0_side 80 = .ok (.ishl, 1) := by decide +kernel
theorem dX0_side_81 : decode cX0_side 81 = .ok (.iconst 1, 1) := by decide +kernel
theorem dX0_side_82 : decode cX0_side 82 = .ok (.isub, 1) := by decide +kernel
theorem dX0_side_83 : decode cX0_side 83 = .ok (.iload_n 1, 1) := by decide +kernel
theorem dX0_side_84 : decode cX0_side 84 = .ok (.iconst (-1), 1) := by decide +kernel
theorem dX0_side_85 : decode cX0_side 85 = .ok (.ixor, 1) := by decide +kernel
theorem dX0_side_86 : decode cX0_side 86 = .ok (.iand, 1) := by decide +kernel
theorem dX0_side_87 : decode cX0_side 87 = .ok (.iastore, 1) := by decide +kernel
theorem dX0_side_88 : decode cX0_side 88 = .ok (.aload_n 0, 1) := by decide +kernel
theorem dX0_side_89 : decode cX0_side 89 = .ok (.dup, 1) := by decide +kernel
theorem dX0_side_90 : decode cX0_side 90 = .ok (.getfield 40, 3) := by decide +kernel
theorem dX0_side_93 : decode cX0_side 93 = .ok (.iconst 1, 1) := by decide +kernel
theorem dX0_side_94 : decode cX0_side 94 = .ok (.iadd, 1) := by decide +kernel
theorem dX0_side_95 : decode cX0_side 95 = .ok (.putfield 40, 3) := by decide +kernel
theorem dX0_side_98 : decode cX0_side 98 = .ok (.return_, 1) := by decide +kernel
theorem dX0_outcome_0 : decode cX0_outcome 0 = .ok (.aload_n 0, 1) := by decide +kernel
theorem dX0_outcome_1 : decode cX0_outcome 1 = .ok (.getfield 9, 3) := by decide +kernel
theorem dX0_outcome_4 : decode cX0_outcome 4 = .ok (.iconst 0, 1) := by decide +kernel
theorem dX0_outcome_5 : decode cX0_outcome 5 = .ok (.iaload, 1) := by decide +kernel
theorem dX0_outcome_6 : decode cX0_outcome 6 = .ok (.aload_n 0, 1) := by decide +kernel
theorem dX0_outcome_7 : decode cX0_outcome 7 = .ok (.getfield 9, 3) := by decide +kernel
theorem dX0_outcome_10 : decode cX0_outcome 10 = .ok (.iconst 1, 1) := by decide +kernel
theorem dX0_outcome_11 : decode cX0_outcome 11 = .ok (.iaload, 1) := by decide +kernel
theorem dX0_outcome_12 : decode cX0_outcome 12 = .ok (.ior, 1) := by decide +kernel
theorem dX0_outcome_13 : decode cX0_outcome 13 = .ok (.aload_n 0, 1) := by decide +kernel
theorem dX0_outcome_14 : decode cX0_outcome 14 = .ok (.getfield 29, 3) := by decide +kernel
theorem dX0_outcome_17 : decode cX0_outcome 17 = .ok (.iload_n 1, 1) := by decide +kernel
theorem dX0_outcome_18 : decode cX0_outcome 18 = .ok (.invokevirtual 43, 3) := by decide +kernel
theorem dX0_outcome_21 : decode cX0_outcome 21 = .ok (.iconst (-1), 1) := by decide +kernel
theorem dX0_outcome_22 : decode cX0_outcome 22 = .ok (.ixor, 1) := by decide +kernel
theorem dX0_outcome_23 : decode cX0_outcome 23 = .ok (.iand, 1) := by decide +kernel
theorem dX0_outcome_24 : decode cX0_outcome 24 = .ok (.istore 5, 2) := by decide +kernel
theorem dX0_outcome_26 : decode cX0_outcome 26 = .ok (.iload 5, 2) := by decide +kernel
theorem dX0_outcome_28 : decode cX0_outcome 28 = .ok (.ifCond .eq 10, 3) := by decide +kernel
theorem dX0_outcome_31 : decode cX0_outcome 31 = .ok (.iload 4, 2) := by decide +kernel
theorem dX0_outcome_33 : decode cX0_outcome 33 = .ok (.bipush 40, 2) := by decide +kernel
theorem dX0_outcome_35 : decode cX0_outcome 35 = .ok (.if_icmp .le 5, 3) := by decide +kernel
theorem dX0_outcome_38 : decode cX0_outcome 38 = .ok (.iconst 0, 1) := by decide +kernel
theorem dX0_outcome_39 : decode cX0_outcome 39 = .ok (.ireturn, 1) := by decide +kernel
theorem dX0_outcome_40 : decode cX0_outcome 40 = .ok (.iload 5, 2) := by decide +kernel
theorem dX0_outcome_42 : decode cX0_outcome 42 = .ok (.aload_n 0, 1) := by decide +kernel
theorem dX0_outcome_43 : decode cX0_outcome 43 = .ok (.getfield 9, 3) := by decide +kernel
theorem dX0_outcome_46 : decode cX0_outcome 46 = .ok (.iload_n 3, 1) := by decide +kernel
theorem dX0_outcome_47 : decode cX0_outcome 47 = .ok (.iconst 1, 1) := by decide +kernel
theorem dX0_outcome_48 : decode cX0_outcome 48 = .ok (.iand, 1) := by decide +kernel
theorem dX0_outcome_49 : decode cX0_outcome 49 = .ok (.iaload, 1) := by decide +kernel
theorem dX0_outcome_50 : decode cX0_outcome 50 = .ok (.iand, 1) := by decide +kernel
theorem dX0_outcome_51 : decode cX0_outcome 51 = .ok (.ifCond .eq 13, 3) := by decide +kernel
theorem dX0_outcome_54 : decode cX0_outcome 54 = .ok (.aload_n 0, 1) := by decide +kernel
theorem dX0_outcome_55 : decode cX0_outcome 55 = .ok (.iload_n 1, 1) := by decide +kernel
theorem dX0_outcome_56 : decode cX0_outcome 56 = .ok (.iload_n 2, 1) := by decide +kernel
theorem dX0_outcome_57 : decode cX0_outcome 57 = .ok (.iload_n 3, 1) := by decide +kernel
theorem dX0_outcome_58 : decode cX0_outcome 58 = .ok (.iload 4, 2) := by decide +kernel
theorem dX0_outcome_60 : decode cX0_outcome 60 = .ok (.invokevirtual 47, 3) := by decide +kernel
theorem dX0_outcome_63 : decode cX0_outcome 63 = .ok (.ireturn, 1) := by decide +kernel
theorem dX0_outcome_64 : decode cX0_outcome 64 = .ok (.aload_n 0, 1) := by decide +kernel
theorem dX0_outcome_65 : decode cX0_outcome 65 = .ok (.getfield 19, 3) := by decide +kernel
theorem dX0_outcome_68 : decode cX0_outcome 68 = .ok (.iload_n 1, 1) := by decide +kernel
theorem dX0_outcome_69 : decode cX0_outcome 69 = .ok (.iload_n 2, 1) := by decide +kernel
theorem dX0_outcome_70 : decode cX0_outcome 70 = .ok (.iconst 0, 1) := by decide +kernel
theorem dX0_outcome_71 : decode cX0_outcome 71 = .ok (.iconst 0, 1) := by decide +kernel
theorem dX0_outcome_72 : decode cX0_outcome 72 = .ok (.invokevirtual 51, 3) := by decide +kernel
theorem dX0_outcome_75 : decode cX0_outcome 75 = .ok (.istore 6, 2) := by decide +kernel
theorem dX0_outcome_77 : decode cX0_outcome 77 = .ok (.iload 6, 2) := by decide +kernel
theorem dX0_outcome_79 : decode cX0_outcome 79 = .ok (.ifCond .ne 7, 3) := by decide +kernel
theorem dX0_outcome_82 : decode cX0_outcome 82 = .ok (.iconst (-1), 1) := by decide +kernel
theorem dX0_outcome_83 : decode cX0_outcome 83 = .ok (.goto 16, 3) := by decide +kernel
theorem dX0_outcome_86 : decode cX0_outcome 86 = .ok (.aload_n 0, 1) := by decide +kernel
theorem dX0_outcome_87 : decode cX0_outcome 87 = .ok (.iload_n 1, 1) := by decide +kernel
theorem dX0_outcome_88 : decode cX0_outcome 88 = .ok (.iload 6, 2) := by decide +kernel
theorem dX0_outcome_90 : decode cX0_outcome 90 = .ok (.iconst 1, 1) := by decide +kernel
theorem dX0_outcome_91 : decode cX0_outcome 91 = .ok (.iload_n 3, 1) := by decide +kernel
theorem dX0_outcome_92 : decode cX0_outcome 92 = .ok (.isub, 1) := by decide +kernel
theorem dX0_outcome_93 : decode cX0_outcome 93 = .ok (.iload 4, 2) := by decide +kernel
theorem dX0_outcome_95 : decode cX0_outcome 95 = .ok (.invokevirtual 47, 3) := by decide +kernel
theorem dX0_outcome_98 : decode cX0_outcome 98 = .ok (.ineg, 1) := by decide +kernel
theorem dX0_outcome_99 : decode cX0_outcome 99 = .ok (.ireturn, 1) := by decide +kernel
theorem dX0_bestOf_0 : decode cX0_bestOf 0 = .ok (.iload_n 1, 1) := by decide +kernel
theorem dX0_bestOf_1 : decode cX0_bestOf 1 = .ok (.bipush 10, 2) := by decide +kernel
theorem dX0_bestOf_3 : decode cX0_bestOf 3 = .ok (.imul, 1) := by decide +kernel
theorem dX0_bestOf_4 : decode cX0_bestOf 4 = .ok (.iload_n 2, 1) := by decide +kernel
theorem dX0_bestOf_5 : decode cX0_bestOf 5 = .ok (.iadd, 1) := by decide +kernel
theorem dX0_bestOf_6 : decode cX0_bestOf 6 = .ok (.iconst 2, 1) := by decide +kernel
theorem dX0_bestOf_7 : decode cX0_bestOf 7 = .ok (.imul, 1) := by decide +kernel
theorem dX0_bestOf_8 : decode cX0_bestOf 8 = .ok (.iload_n 3, 1) := by decide +kernel
theorem dX0_bestOf_9 : decode cX0_bestOf 9 = .ok (.iadd, 1) := by decide +kernel
theorem dX0_bestOf_10 : decode cX0_bestOf 10 = .ok (.istore 5, 2) := by decide +kernel
theorem dX0_bestOf_12 : decode cX0_bestOf 12 = .ok (.iload 5, 2) := by decide +kernel
theorem dX0_bestOf_14 : decode cX0_bestOf 14 = .ok (.ifCond .lt 17, 3) := by decide +kernel
theorem dX0_bestOf_17 : decode cX0_bestOf 17 = .ok (.iload 5, 2) := by decide +kernel
theorem dX0_bestOf_19 : decode cX0_bestOf 19 = .ok (.aload_n 0, 1) := by decide +kernel
theorem dX0_bestOf_20 : decode cX0_bestOf 20 = .ok (.getfield 16, 3) := by decide +kernel
theorem dX0_bestOf_23 : decode cX0_bestOf 23 = .ok (.arraylength, 1) := by decide +kernel
theorem dX0_bestOf_24 : decode cX0_bestOf 24 = .ok (.if_icmp .ge 7, 3) := by decide +kernel
theorem dX0_bestOf_27 : decode cX0_bestOf 27 = .ok (.iconst 1, 1) := by decide +kernel
theorem dX0_bestOf_28 : decode cX0_bestOf 28 = .ok (.goto 4, 3) := by decide +kernel
theorem dX0_bestOf_31 : decode cX0_bestOf 31 = .ok (.iconst 0, 1) := by decide +kernel
theorem dX0_bestOf_32 : decode cX0_bestOf 32 = .ok (.istore 6, 2) := by decide +kernel
theorem dX0_bestOf_34 : decode cX0_bestOf 34 = .ok (.iload 6, 2) := by decide +kernel
theorem dX0_bestOf_36 : decode cX0_bestOf 36 = .ok (.ifCond .eq 31, 3) := by decide +kernel
theorem dX0_bestOf_39 : decode cX0_bestOf 39 = .ok (.aload_n 0, 1) := by decide +kernel
theorem dX0_bestOf_40 : decode cX0_bestOf 40 = .ok (.getfield 16, 3) := by decide +kernel
theorem dX0_bestOf_43 : decode cX0_bestOf 43 = .ok (.iload 5, 2) := by decide +kernel
theorem dX0_bestOf_45 : decode cX0_bestOf 45 = .ok (.iaload, 1) := by decide +kernel
theorem dX0_bestOf_46 : decode cX0_bestOf 46 = .ok (.iconst 2, 1) := by decide +kernel
theorem dX0_bestOf_47 : decode cX0_bestOf 47 = .ok (.ishr, 1) := by decide +kernel
theorem dX0_bestOf_48 : decode cX0_bestOf 48 = .ok (.aload_n 0, 1) := by decide +kernel
theorem dX0_bestOf_49 : decode cX0_bestOf 49 = .ok (.getfield 40, 3) := by decide +kernel
theorem dX0_bestOf_52 : decode cX0_bestOf 52 = .ok (.if_icmp .ne 15, 3) := by decide +kernel
theorem dX0_bestOf_55 : decode cX0_bestOf 55 = .ok (.aload_n 0, 1) := by decide +kernel
theorem dX0_bestOf_56 : decode cX0_bestOf 56 = .ok (.getfield 16, 3) := by decide +kernel
theorem dX0_bestOf_59 : decode cX0_bestOf 59 = .ok (.iload 5, 2) := by decide +kernel
theorem dX0_bestOf_61 : decode cX0_bestOf 61 = .ok (.iaload, 1) := by decide +kernel
theorem dX0_bestOf_62 : decode cX0_bestOf 62 = .ok (.iconst 3, 1) := by decide +kernel
theorem dX0_bestOf_63 : decode cX0_bestOf 63 = .ok (.iand, 1) := by decide +kernel
theorem dX0_bestOf_64 : decode cX0_bestOf 64 = .ok (.iconst 1, 1) := by decide +kernel
theorem dX0_bestOf_65 : decode cX0_bestOf 65 = .ok (.isub, 1) := by decide +kernel
theorem dX0_bestOf_66 : decode cX0_bestOf 66 = .ok (.ireturn, 1) := by decide +kernel
theorem dX0_bestOf_67 : decode cX0_bestOf 67 = .ok (.aload_n 0, 1) := by decide +kernel
theorem dX0_bestOf_68 : decode cX0_bestOf 68 = .ok (.getfield 9, 3) := by decide +kernel
theorem dX0_bestOf_71 : decode cX0_bestOf 71 = .ok (.iload_n 3, 1) := by decide +kernel
theorem dX0_bestOf_72 : decode cX0_bestOf 72 = .ok (.iconst 1, 1) := by decide +kernel
theorem dX0_bestOf_73 : decode cX0_bestOf 73 = .ok (.iand, 1) := by decide +kernel
theorem dX0_bestOf_74 : decode cX0_bestOf 74 = .ok (.iaload, 1) := by decide +kernel
theorem dX0_bestOf_75 : decode cX0_bestOf 75 = .ok (.aload_n 0, 1) := by decide +kernel
theorem dX0_bestOf_76 : decode cX0_bestOf 76 = .ok (.getfield 29, 3) := by decide +kernel
theorem dX0_bestOf_79 : decode cX0_bestOf 79 = .ok (.iload_n 1, 1) := by decide +kernel
theorem dX0_bestOf_80 : decode cX0_bestOf 80 = .ok (.invokevirtual 43, 3) := by decide +kernel
theorem dX0_bestOf_83 : decode cX0_bestOf 83 = .ok (.iconst (-1), 1) := by decide +kernel
theorem dX0_bestOf_84 : decode cX0_bestOf 84 = .ok (.ixor, 1) := by decide +kernel
theorem dX0_bestOf_85 : decode cX0_bestOf 85 = .ok (.iand, 1) := by decide +kernel
theorem dX0_bestOf_86 : decode cX0_bestOf 86 = .ok (.istore 7, 2) := by decide +kernel
theorem dX0_bestOf_88 : decode cX0_bestOf 88 = .ok (.iconst (-1), 1) := by decide +kernel
theorem dX0_bestOf_89 : decode cX0_bestOf 89 = .ok (.istore 8, 2) := by decide +kernel
theorem dX0_bestOf_91 : decode cX0_bestOf 91 = .ok (.iconst 0, 1) := by decide +kernel
theorem dX0_bestOf_92 : decode cX0_bestOf 92 = .ok (.istore 9, 2) := by decide +kernel
theorem dX0_bestOf_94 : decode cX0_bestOf 94 = .ok (.iload 9, 2) := by decide +kernel
theorem dX0_bestOf_96 : decode cX0_bestOf 96 = .ok (.iconst 4, 1) := by decide +kernel
theorem dX0_bestOf_97 : decode cX0_bestOf 97 = .ok (.if_icmp .ge 44, 3) := by decide +kernel
theorem dX0_bestOf_100 : decode cX0_bestOf 100 = .ok (.iload 8, 2) := by decide +kernel
theorem dX0_bestOf_102 : decode cX0_bestOf 102 = .ok (.iconst 1, 1) := by decide +kernel
theorem dX0_bestOf_103 : decode cX0_bestOf 103 = .ok (.if_icmp .ge 38, 3) := by decide +kernel
theorem dX0_bestOf_106 : decode cX0_bestOf 106 = .ok (.iload 7, 2) := by decide +kernel
theorem dX0_bestOf_108 : decode cX0_bestOf 108 = .ok (.iload 9, 2) := by decide +kernel
theorem dX0_bestOf_110 : decode cX0_bestOf 110 = .ok (.ishr, 1) := by decide +kernel
theorem dX0_bestOf_111 : decode cX0_bestOf 111 = .ok (.iconst 1, 1) := by decide +kernel
theorem dX0_bestOf_112 : decode cX0_bestOf 112 = .ok (.iand, 1) := by decide +kernel
theorem dX0_bestOf_113 : decode cX0_bestOf 113 = .ok (.iconst 1, 1) := by decide +kernel
theorem dX0_bestOf_114 : decode cX0_bestOf 114 = .ok (.if_icmp .ne 21, 3) := by decide +kernel
theorem dX0_bestOf_117 : decode cX0_bestOf 117 = .ok (.iload 8, 2) := by decide +kernel
theorem dX0_bestOf_119 : decode cX0_bestOf 119 = .ok (.aload_n 0, 1) := by decide +kernel
theorem dX0_bestOf_120 : decode cX0_bestOf 120 = .ok (.iload_n 1, 1) := by decide +kernel
theorem dX0_bestOf_121 : decode cX0_bestOf 121 = .ok (.iload_n 2, 1) := by decide +kernel
theorem dX0_bestOf_122 : decode cX0_bestOf 122 = .ok (.iload_n 3, 1) := by decide +kernel
theorem dX0_bestOf_123 : decode cX0_bestOf 123 = .ok (.iload 9, 2) := by decide +kernel
theorem dX0_bestOf_125 : decode cX0_bestOf 125 = .ok (.iload 4, 2) := by decide +kernel
theorem dX0_bestOf_127 : decode cX0_bestOf 127 = .ok (.invokevirtual 54, 3) := by decide +kernel
theorem dX0_bestOf_130 : decode cX0_bestOf 130 = .ok (.invokestatic 58, 3) := by decide +kernel
theorem dX0_bestOf_133 : decode cX0_bestOf 133 = .ok (.istore 8, 2) := by decide +kernel
theorem dX0_bestOf_135 : decode cX0_bestOf 135 = .ok (.iinc 9 1, 3) := by decide +kernel
theorem dX0_bestOf_138 : decode cX0_bestOf 138 = .ok (.goto (-44), 3) := by decide +kernel
theorem dX0_bestOf_141 : decode cX0_bestOf 141 = .ok (.iload 6, 2) := by decide +kernel
theorem dX0_bestOf_143 : decode cX0_bestOf 143 = .ok (.ifCond .eq 21, 3) := by decide +kernel
theorem dX0_bestOf_146 : decode cX0_bestOf 146 = .ok (.aload_n 0, 1) := by decide +kernel
theorem dX0_bestOf_147 : decode cX0_bestOf 147 = .ok (.getfield 16, 3) := by decide +kernel
theorem dX0_bestOf_150 : decode cX0_bestOf 150 = .ok (.iload 5, 2) := by decide +kernel
theorem dX0_bestOf_152 : decode cX0_bestOf 152 = .ok (.aload_n 0, 1) := by decide +kernel
theorem dX0_bestOf_153 : decode cX0_bestOf 153 = .ok (.getfield 40, 3) := by decide +kernel
theorem dX0_bestOf_156 : decode cX0_bestOf 156 = .ok (.iconst 2, 1) := by decide +kernel
theorem dX0_bestOf_157 : decode cX0_bestOf 157 = .ok (.ishl, 1) := by decide +kernel
theorem dX0_bestOf_158 : decode cX0_bestOf 158 = .ok (.iload 8, 2) := by decide +kernel
theorem dX0_bestOf_160 : decode cX0_bestOf 160 = .ok (.iconst 1, 1) := by decide +kernel
theorem dX0_bestOf_161 : decode cX0_bestOf 161 = .ok (.iadd, 1) := by decide +kernel
theorem dX0_bestOf_162 : decode cX0_bestOf 162 = .ok (.ior, 1) := by decide +kernel
theorem dX0_bestOf_163 : decode cX0_bestOf 163 = .ok (.iastore, 1) := by decide +kernel
theorem dX0_bestOf_164 : decode cX0_bestOf 164 = .ok (.iload 8, 2) := by decide +kernel
theorem dX0_bestOf_166 : decode cX0_bestOf 166 = .ok (.ireturn, 1) := by decide +kernel
theorem dX0_byStep_0 : decode cX0_byStep 0 = .ok (.aload_n 0, 1) := by decide +kernel
theorem dX0_byStep_1 : decode cX0_byStep 1 = .ok (.getfield 19, 3) := by decide +kernel
theorem dX0_byStep_4 : decode cX0_byStep 4 = .ok (.iload_n 1, 1) := by decide +kernel
theorem dX0_byStep_5 : decode cX0_byStep 5 = .ok (.iload_n 2, 1) := by decide +kernel
theorem dX0_byStep_6 : decode cX0_byStep 6 = .ok (.iconst 1, 1) := by decide +kernel
theorem dX0_byStep_7 : decode cX0_byStep 7 = .ok (.iload 4, 2) := by decide +kernel
theorem dX0_byStep_9 : decode cX0_byStep 9 = .ok (.ishl, 1) := by decide +kernel
theorem dX0_byStep_10 : decode cX0_byStep 10 = .ok (.iconst 0, 1) := by decide +kernel
theorem dX0_byStep_11 : decode cX0_byStep 11 = .ok (.invokevirtual 51, 3) := by decide +kernel
theorem dX0_byStep_14 : decode cX0_byStep 14 = .ok (.istore 6, 2) := by decide +kernel
theorem dX0_byStep_16 : decode cX0_byStep 16 = .ok (.iload 6, 2) := by decide +kernel
theorem dX0_byStep_18 : decode cX0_byStep 18 = .ok (.ifCond .ne 7, 3) := by decide +kernel
theorem dX0_byStep_21 : decode cX0_byStep 21 = .ok (.iconst (-1), 1) := by decide +kernel
theorem dX0_byStep_22 : decode cX0_byStep 22 = .ok (.goto 25, 3) := by decide +kernel
theorem dX0_byStep_25 : decode cX0_byStep 25 = .ok (.aload_n 0, 1) := by decide +kernel
theorem dX0_byStep_26 : decode cX0_byStep 26 = .ok (.iload_n 1, 1) := by decide +kernel
theorem dX0_byStep_27 : decode cX0_byStep 27 = .ok (.getstatic 64, 3) := by decide +kernel
theorem dX0_byStep_30 : decode cX0_byStep 30 = .ok (.iload 4, 2) := by decide +kernel
theorem dX0_byStep_32 : decode cX0_byStep 32 = .ok (.iaload, 1) := by decide +kernel
theorem dX0_byStep_33 : decode cX0_byStep 33 = .ok (.iadd, 1) := by decide +kernel
theorem dX0_byStep_34 : decode cX0_byStep 34 = .ok (.iload 6, 2) := by decide +kernel
theorem dX0_byStep_36 : decode cX0_byStep 36 = .ok (.iconst 1, 1) := by decide +kernel
theorem dX0_byStep_37 : decode cX0_byStep 37 = .ok (.iload_n 3, 1) := by decide +kernel
theorem dX0_byStep_38 : decode cX0_byStep 38 = .ok (.isub, 1) := by decide +kernel
theorem dX0_byStep_39 : decode cX0_byStep 39 = .ok (.iload 5, 2) := by decide +kernel
theorem dX0_byStep_41 : decode cX0_byStep 41 = .ok (.iconst 1, 1) := by decide +kernel
theorem dX0_byStep_42 : decode cX0_byStep 42 = .ok (.iadd, 1) := by decide +kernel
theorem dX0_byStep_43 : decode cX0_byStep 43 = .ok (.invokevirtual 67, 3) := by decide +kernel
theorem dX0_byStep_46 : decode cX0_byStep 46 = .ok (.ineg, 1) := by decide +kernel
theorem dX0_byStep_47 : decode cX0_byStep 47 = .ok (.ireturn, 1) := by decide +kernel
theorem dX0_bestGoer_0 : decode cX0_bestGoer 0 = .ok (.aload_n 0, 1) := by decide +kernel
theorem dX0_bestGoer_1 : decode cX0_bestGoer 1 = .ok (.getfield 9, 3) := by decide +kernel
theorem dX0_bestGoer_4 : decode cX0_bestGoer 4 = .ok (.iconst 0, 1) := by decide +kernel
theorem dX0_bestGoer_5 : decode cX0_bestGoer 5 = .ok (.iaload, 1) := by decide +kernel
theorem dX0_bestGoer_6 : decode cX0_bestGoer 6 = .ok (.aload_n 0, 1) := by decide +kernel
theorem dX0_bestGoer_7 : decode cX0_bestGoer 7 = .ok (.getfield 29, 3) := by decide +kernel
theorem dX0_bestGoer_10 : decode cX0_bestGoer 10 = .ok (.iload_n 1, 1) := by decide +kernel
theorem dX0_bestGoer_11 : decode cX0_bestGoer 11 = .ok (.invokevirtual 43, 3) := by decide +kernel
theorem dX0_bestGoer_14 : decode cX0_bestGoer 14 = .ok (.iconst (-1), 1) := by decide +kernel
theorem dX0_bestGoer_15 : decode cX0_bestGoer 15 = .ok (.ixor, 1) := by decide +kernel
theorem dX0_bestGoer_16 : decode cX0_bestGoer 16 = .ok (.iand, 1) := by decide +kernel
theorem dX0_bestGoer_17 : decode cX0_bestGoer 17 = .ok (.istore_n 3, 1) := by decide +kernel
theorem dX0_bestGoer_18 : decode cX0_bestGoer 18 = .ok (.iload_n 3, 1) := by decide +kernel
theorem dX0_bestGoer_19 : decode cX0_bestGoer 19 = .ok (.ifCond .ne 7, 3) := by decide +kernel
theorem dX0_bestGoer_22 : decode cX0_bestGoer 22 = .ok (.iconst 0, 1) := by decide +kernel
theorem dX0_bestGoer_23 : decode cX0_bestGoer 23 = .ok (.goto 11, 3) := by decide +kernel
theorem dX0_bestGoer_26 : decode cX0_bestGoer 26 = .ok (.aload_n 0, 1) := by decide +kernel
theorem dX0_bestGoer_27 : decode cX0_bestGoer 27 = .ok (.iload_n 1, 1) := by decide +kernel
theorem dX0_bestGoer_28 : decode cX0_bestGoer 28 = .ok (.iload_n 2, 1) := by decide +kernel
theorem dX0_bestGoer_29 : decode cX0_bestGoer 29 = .ok (.iconst 0, 1) := by decide +kernel
theorem dX0_bestGoer_30 : decode cX0_bestGoer 30 = .ok (.iconst 0, 1) := by decide +kernel
theorem dX0_bestGoer_31 : decode cX0_bestGoer 31 = .ok (.invokevirtual 47, 3) := by decide +kernel
theorem dX0_bestGoer_34 : decode cX0_bestGoer 34 = .ok (.istore 4, 2) := by decide +kernel
theorem dX0_bestGoer_36 : decode cX0_bestGoer 36 = .ok (.iconst 0, 1) := by decide +kernel
theorem dX0_bestGoer_37 : decode cX0_bestGoer 37 = .ok (.istore 5, 2) := by decide +kernel
theorem dX0_bestGoer_39 : decode cX0_bestGoer 39 = .ok (.iload 5, 2) := by decide +kernel
theorem dX0_bestGoer_41 : decode cX0_bestGoer 41 = .ok (.iconst 4, 1) := by decide +kernel
theorem dX0_bestGoer_42 : decode cX0_bestGoer 42 = .ok (.if_icmp .ge 37, 3) := by decide +kernel
theorem dX0_bestGoer_45 : decode cX0_bestGoer 45 = .ok (.iload_n 3, 1) := by decide +kernel
theorem dX0_bestGoer_46 : decode cX0_bestGoer 46 = .ok (.iload 5, 2) := by decide +kernel
theorem dX0_bestGoer_48 : decode cX0_bestGoer 48 = .ok (.ishr, 1) := by decide +kernel
theorem dX0_bestGoer_49 : decode cX0_bestGoer 49 = .ok (.iconst 1, 1) := by decide +kernel
theorem dX0_bestGoer_50 : decode cX0_bestGoer 50 = .ok (.iand, 1) := by decide +kernel
theorem dX0_bestGoer_51 : decode cX0_bestGoer 51 = .ok (.iconst 1, 1) := by decide +kernel
theorem dX0_bestGoer_52 : decode cX0_bestGoer 52 = .ok (.if_icmp .ne 21, 3) := by decide +kernel
theorem dX0_bestGoer_55 : decode cX0_bestGoer 55 = .ok (.aload_n 0, 1) := by decide +kernel
theorem dX0_bestGoer_56 : decode cX0_bestGoer 56 = .ok (.iload_n 1, 1) := by decide +kernel
theorem dX0_bestGoer_57 : decode cX0_bestGoer 57 = .ok (.iload_n 2, 1) := by decide +kernel
theorem dX0_bestGoer_58 : decode cX0_bestGoer 58 = .ok (.iconst 0, 1) := by decide +kernel
theorem dX0_bestGoer_59 : decode cX0_bestGoer 59 = .ok (.iload 5, 2) := by decide +kernel
theorem dX0_bestGoer_61 : decode cX0_bestGoer 61 = .ok (.iconst 0, 1) := by decide +kernel
theorem dX0_bestGoer_62 : decode cX0_bestGoer 62 = .ok (.invokevirtual 54, 3) := by decide +kernel
theorem dX0_bestGoer_65 : decode cX0_bestGoer 65 = .ok (.iload 4, 2) := by decide +kernel
theorem dX0_bestGoer_67 : decode cX0_bestGoer 67 = .ok (.if_icmp .ne 6, 3) := by decide +kernel
theorem dX0_bestGoer_70 : decode cX0_bestGoer 70 = .ok (.iload 5, 2) := by decide +kernel
theorem dX0_bestGoer_72 : decode cX0_bestGoer 72 = .ok (.ireturn, 1) := by decide +kernel
theorem dX0_bestGoer_73 : decode cX0_bestGoer 73 = .ok (.iinc 5 1, 3) := by decide +kernel
theorem dX0_bestGoer_76 : decode cX0_bestGoer 76 = .ok (.goto (-37), 3) := by decide +kernel
theorem dX0_bestGoer_79 : decode cX0_bestGoer 79 = .ok (.iconst (-1), 1) := by decide +kernel
theorem dX0_bestGoer_80 : decode cX0_bestGoer 80 = .ok (.ireturn, 1) := by decide +kernel
theorem dX1_init_0 : decode cX1_init 0 = .ok (.aload_n 0, 1) := by decide +kernel
theorem dX1_init_1 : decode cX1_init 1 = .ok (.invokespecial 1, 3) := by decide +kernel
theorem dX1_init_4 : decode cX1_init 4 = .ok (.aload_n 0, 1) := by decide +kernel
theorem dX1_init_5 : decode cX1_init 5 = .ok (.iload_n 1, 1) := by decide +kernel
theorem dX1_init_6 : decode cX1_init 6 = .ok (.putfield 7, 3) := by decide +kernel
theorem dX1_init_9 : decode cX1_init 9 = .ok (.return_, 1) := by decide +kernel
theorem dX1_draw_0 : decode cX1_draw 0 = .ok (.aload_n 0, 1) := by decide +kernel
theorem dX1_draw_1 : decode cX1_draw 1 = .ok (.ldc 13, 2) := by decide +kernel
theorem dX1_draw_3 : decode cX1_draw 3 = .ok (.aload_n 0, 1) := by decide +kernel
theorem dX1_draw_4 : decode cX1_draw 4 = .ok (.getfield 7, 3) := by decide +kernel
theorem dX1_draw_7 : decode cX1_draw 7 = .ok (.imul, 1) := by decide +kernel
theorem dX1_draw_8 : decode cX1_draw 8 = .ok (.sipush 12345, 3) := by decide +kernel
theorem dX1_draw_11 : decode cX1_draw 11 = .ok (.iadd, 1) := by decide +kernel
theorem dX1_draw_12 : decode cX1_draw 12 = .ok (.putfield 7, 3) := by decide +kernel
theorem dX1_draw_15 : decode cX1_draw 15 = .ok (.iload_n 1, 1) := by decide +kernel
theorem dX1_draw_16 : decode cX1_draw 16 = .ok (.ifCond .le 15, 3) := by decide +kernel
theorem dX1_draw_19 : decode cX1_draw 19 = .ok (.aload_n 0, 1) := by decide +kernel
theorem dX1_draw_20 : decode cX1_draw 20 = .ok (.getfield 7, 3) := by decide +kernel
theorem dX1_draw_23 : decode cX1_draw 23 = .ok (.bipush 16, 2) := by decide +kernel
theorem dX1_draw_25 : decode cX1_draw 25 = .ok (.iushr, 1) := by decide +kernel
theorem dX1_draw_26 : decode cX1_draw 26 = .ok (.iload_n 1, 1) := by decide +kernel
theorem dX1_draw_27 : decode cX1_draw 27 = .ok (.irem, 1) := by decide +kernel
theorem dX1_draw_28 : decode cX1_draw 28 = .ok (.goto 4, 3) := by decide +kernel
theorem dX1_draw_31 : decode cX1_draw 31 = .ok (.iconst 0, 1) := by decide +kernel
theorem dX1_draw_32 : decode cX1_draw 32 = .ok (.ireturn, 1) := by decide +kernel
theorem dX1_nextDeed_0 : decode cX1_nextDeed 0 = .ok (.aload_n 0, 1) := by decide +kernel
theorem dX1_nextDeed_1 : decode cX1_nextDeed 1 = .ok (.bipush 6, 2) := by decide +kernel
theorem dX1_nextDeed_3 : decode cX1_nextDeed 3 = .ok (.invokevirtual 14, 3) := by decide +kernel
theorem dX1_nextDeed_6 : decode cX1_nextDeed 6 = .ok (.tableswitch 54 0 4 #[34, 34, 36, 36, 44], 34) := by decide +kernel
theorem dX1_nextDeed_40 : decode cX1_nextDeed 40 = .ok (.iconst 0, 1) := by decide +kernel
theorem dX1_nextDeed_41 : decode cX1_nextDeed 41 = .ok (.ireturn, 1) := by decide +kernel
theorem dX1_nextDeed_42 : decode cX1_nextDeed 42 = .ok (.iconst 1, 1) := by decide +kernel
theorem dX1_nextDeed_43 : decode cX1_nextDeed 43 = .ok (.aload_n 0, 1) := by decide +kernel
theorem dX1_nextDeed_44 : decode cX1_nextDeed 44 = .ok (.iconst 4, 1) := by decide +kernel
theorem dX1_nextDeed_45 : decode cX1_nextDeed 45 = .ok (.invokevirtual 14, 3) := by decide +kernel
theorem dX1_nextDeed_48 : decode cX1_nextDeed 48 = .ok (.ishl, 1) := by decide +kernel
theorem dX1_nextDeed_49 : decode cX1_nextDeed 49 = .ok (.ireturn, 1) := by decide +kernel
theorem dX1_nextDeed_50 : decode cX1_nextDeed 50 = .ok (.bipush 100, 2) := by decide +kernel
theorem dX1_nextDeed_52 : decode cX1_nextDeed 52 = .ok (.aload_n 0, 1) := by decide +kernel
theorem dX1_nextDeed_53 : decode cX1_nextDeed 53 = .ok (.bipush 10, 2) := by decide +kernel
theorem dX1_nextDeed_55 : decode cX1_nextDeed 55 = .ok (.invokevirtual 14, 3) := by decide +kernel
theorem dX1_nextDeed_58 : decode cX1_nextDeed 58 = .ok (.iadd, 1) := by decide +kernel
theorem dX1_nextDeed_59 : decode cX1_nextDeed 59 = .ok (.ireturn, 1) := by decide +kernel
theorem dX1_nextDeed_60 : decode cX1_nextDeed 60 = .ok (.aload_n 0, 1) := by decide +kernel
theorem dX1_nextDeed_61 : decode cX1_nextDeed 61 = .ok (.bipush 8, 2) := by decide +kernel
theorem dX1_nextDeed_63 : decode cX1_nextDeed 63 = .ok (.invokevirtual 14, 3) := by decide +kernel
theorem dX1_nextDeed_66 : decode cX1_nextDeed 66 = .ok (.istore_n 1, 1) := by decide +kernel
theorem dX1_nextDeed_67 : decode cX1_nextDeed 67 = .ok (.sipush 300, 3) := by decide +kernel
theorem dX1_nextDeed_70 : decode cX1_nextDeed 70 = .ok (.bipush 10, 2) := by decide +kernel
theorem dX1_nextDeed_72 : decode cX1_nextDeed 72 = .ok (.iload_n 1, 1) := by decide +kernel
theorem dX1_nextDeed_73 : decode cX1_nextDeed 73 = .ok (.imul, 1) := by decide +kernel
theorem dX1_nextDeed_74 : decode cX1_nextDeed 74 = .ok (.iadd, 1) := by decide +kernel
theorem dX1_nextDeed_75 : decode cX1_nextDeed 75 = .ok (.aload_n 0, 1) := by decide +kernel
theorem dX1_nextDeed_76 : decode cX1_nextDeed 76 = .ok (.bipush 8, 2) := by decide +kernel
theorem dX1_nextDeed_78 : decode cX1_nextDeed 78 = .ok (.invokevirtual 14, 3) := by decide +kernel
theorem dX1_nextDeed_81 : decode cX1_nextDeed 81 = .ok (.iadd, 1) := by decide +kernel
theorem dX1_nextDeed_82 : decode cX1_nextDeed 82 = .ok (.ireturn, 1) := by decide +kernel
theorem dX2_init_0 : decode cX2_init 0 = .ok (.aload_n 0, 1) := by decide +kernel
theorem dX2_init_1 : decode cX2_init 1 = .ok (.invokespecial 3, 3) := by decide +kernel
theorem dX2_init_4 : decode cX2_init 4 = .ok (.aload_n 0, 1) := by decide +kernel
theorem dX2_init_5 : decode cX2_init 5 = .ok (.new 9, 3) := by decide +kernel
theorem dX2_init_8 : decode cX2_init 8 = .ok (.dup, 1) := by decide +kernel
theorem dX2_init_9 : decode cX2_init 9 = .ok (.iconst 0, 1) := by decide +kernel
theorem dX2_init_10 : decode cX2_init 10 = .ok (.invokespecial 11, 3) := by decide +kernel
theorem dX2_init_13 : decode cX2_init 13 = .ok (.putfield 14, 3) := by decide +kernel
theorem dX2_init_16 : decode cX2_init 16 = .ok (.aload_n 0, 1) := by decide +kernel
theorem dX2_init_17 : decode cX2_init 17 = .ok (.sipush 280, 3) := by decide +kernel
theorem dX2_init_20 : decode cX2_init 20 = .ok (.newarray .int, 2) := by decide +kernel
theorem dX2_init_22 : decode cX2_init 22 = .ok (.putfield 20, 3) := by decide +kernel
theorem dX2_init_25 : decode cX2_init 25 = .ok (.aload_n 0, 1) := by decide +kernel
theorem dX2_init_26 : decode cX2_init 26 = .ok (.bipush 6, 2) := by decide +kernel
theorem dX2_init_28 : decode cX2_init 28 = .ok (.newarray .int, 2) := by decide +kernel
theorem dX2_init_30 : decode cX2_init 30 = .ok (.putfield 24, 3) := by decide +kernel
theorem dX2_init_33 : decode cX2_init 33 = .ok (.aload_n 0, 1) := by decide +kernel
theorem dX2_init_34 : decode cX2_init 34 = .ok (.bipush 64, 2) := by decide +kernel
theorem dX2_init_36 : decode cX2_init 36 = .ok (.newarray .int, 2) := by decide +kernel
theorem dX2_init_38 : decode cX2_init 38 = .ok (.putfield 27, 3) := by decide +kernel
theorem dX2_init_41 : decode cX2_init 41 = .ok (.return_, 1) := by decide +kernel
theorem dX2_take_0 : decode cX2_take 0 = .ok (.aload_n 0, 1) := by decide +kernel
theorem dX2_take_1 : decode cX2_take 1 = .ok (.aload_n 1, 1) := by decide +kernel
theorem dX2_take_2 : decode cX2_take 2 = .ok (.putfield 14, 3) := by decide +kernel
theorem dX2_take_5 : decode cX2_take 5 = .ok (.aload_n 0, 1) := by decide +kernel
theorem dX2_take_6 : decode cX2_take 6 = .ok (.iload_n 2, 1) := by decide +kernel
theorem dX2_take_7 : decode cX2_take 7 = .ok (.putfield 30, 3) := by decide +kernel
theorem dX2_take_10 : decode cX2_take 10 = .ok (.aload_n 0, 1) := by decide +kernel
theorem dX2_take_11 : decode cX2_take 11 = .ok (.aload_n 1, 1) := by decide +kernel
theorem dX2_take_12 : decode cX2_take 12 = .ok (.getfield 34, 3) := by decide +kernel
theorem dX2_take_15 : decode cX2_take 15 = .ok (.bipush 10, 2) := by decide +kernel
theorem dX2_take_17 : decode cX2_take 17 = .ok (.imul, 1) := by decide +kernel
theorem dX2_take_18 : decode cX2_take 18 = .ok (.iload_n 2, 1) := by decide +kernel
theorem dX2_take_19 : decode cX2_take 19 = .ok (.iadd, 1) := by decide +kernel
theorem dX2_take_20 : decode cX2_take 20 = .ok (.iconst 1, 1) := by decide +kernel
theorem dX2_take_21 : decode cX2_take 21 = .ok (.iadd, 1) := by decide +kernel
theorem dX2_take_22 : decode cX2_take 22 = .ok (.putfield 37, 3) := by decide +kernel
theorem dX2_take_25 : decode cX2_take 25 = .ok (.aload_n 0, 1) := by decide +kernel
theorem dX2_take_26 : decode cX2_take 26 = .ok (.getfield 40, 3) := by decide +kernel
theorem dX2_take_29 : decode cX2_take 29 = .ok (.ifnonnull 19, 3) := by decide +kernel
theorem dX2_take_32 : decode cX2_take 32 = .ok (.aload_n 1, 1) := by decide +kernel
theorem dX2_take_33 : decode cX2_take 33 = .ok (.getfield 43, 3) := by decide +kernel
theorem dX2_take_36 : decode cX2_take 36 = .ok (.ifnull 12, 3) := by decide +kernel
theorem dX2_take_39 : decode cX2_take 39 = .ok (.aload_n 0, 1) := by decide +kernel
theorem dX2_take_40 : decode cX2_take 40 = .ok (.sipush 32000, 3) := by decide +kernel
theorem dX2_take_43 : decode cX2_take 43 = .ok (.newarray .int, 2) := by decide +kernel
theorem dX2_take_45 : decode cX2_take 45 = .ok (.putfield 40, 3) := by decide +kernel
theorem dX2_take_48 : decode cX2_take 48 = .ok (.return_, 1) := by decide +kernel
theorem dX2_depthAfter_0 : decode cX2_depthAfter 0 = .ok (.iload 4, 2) := by decide +kernel
theorem dX2_depthAfter_2 : decode cX2_depthAfter 2 = .ok (.istore 5, 2) := by decide +kernel
theorem dX2_depthAfter_4 : decode cX2_depthAfter 4 = .ok (.iconst 0, 1) := by decide +kernel
theorem dX2_depthAfter_5 : decode cX2_depthAfter 5 = .ok (.istore 6, 2) := by decide +kernel
theorem dX2_depthAfter_7 : decode cX2_depthAfter 7 = .ok (.iload_n 1, 1) := by decide +kernel
theorem dX2_depthAfter_8 : decode cX2_depthAfter 8 = .ok (.istore 7, 2) := by decide +kernel
theorem dX2_depthAfter_10 : decode cX2_depthAfter 10 = .ok (.iconst 0, 1) := by decide +kernel
theorem dX2_depthAfter_11 : decode cX2_depthAfter 11 = .ok (.istore 8, 2) := by decide +kernel
theorem dX2_depthAfter_13 : decode cX2_depthAfter 13 = .ok (.iload 8, 2) := by decide +kernel
theorem dX2_depthAfter_15 : decode cX2_depthAfter 15 = .ok (.aload_n 0, 1) := by decide +kernel
theorem dX2_depthAfter_16 : decode cX2_depthAfter 16 = .ok (.getfield 14, 3) := by decide +kernel
theorem dX2_depthAfter_19 : decode cX2_depthAfter 19 = .ok (.getfield 46, 3) := by decide +kernel
theorem dX2_depthAfter_22 : decode cX2_depthAfter 22 = .ok (.if_icmp .ge 65, 3) := by decide +kernel
theorem dX2_depthAfter_25 : decode cX2_depthAfter 25 = .ok (.iload 7, 2) := by decide +kernel
theorem dX2_depthAfter_27 : decode cX2_depthAfter 27 = .ok (.bipush 7, 2) := by decide +kernel
theorem dX2_depthAfter_29 : decode cX2_depthAfter 29 = .ok (.irem, 1) := by decide +kernel
theorem dX2_depthAfter_30 : decode cX2_depthAfter 30 = .ok (.istore 9, 2) := by decide +kernel
theorem dX2_depthAfter_32 : decode cX2_depthAfter 32 = .ok (.iload 7, 2) := by decide +kernel
theorem dX2_depthAfter_34 : decode cX2_depthAfter 34 = .ok (.bipush 7, 2) := by decide +kernel
theorem dX2_depthAfter_36 : decode cX2_depthAfter 36 = .ok (.idiv, 1) := by decide +kernel
theorem dX2_depthAfter_37 : decode cX2_depthAfter 37 = .ok (.istore 7, 2) := by decide +kernel
theorem dX2_depthAfter_39 : decode cX2_depthAfter 39 = .ok (.iload_n 3, 1) := by decide +kernel
theorem dX2_depthAfter_40 : decode cX2_depthAfter 40 = .ok (.iload 8, 2) := by decide +kernel
theorem dX2_depthAfter_42 : decode cX2_depthAfter 42 = .ok (.ishr, 1) := by decide +kernel
theorem dX2_depthAfter_43 : decode cX2_depthAfter 43 = .ok (.iconst 1, 1) := by decide +kernel
theorem dX2_depthAfter_44 : decode cX2_depthAfter 44 = .ok (.iand, 1) := by decide +kernel
theorem dX2_depthAfter_45 : decode cX2_depthAfter 45 = .ok (.iconst 1, 1) := by decide +kernel
theorem dX2_depthAfter_46 : decode cX2_depthAfter 46 = .ok (.if_icmp .ne 20, 3) := by decide +kernel
theorem dX2_depthAfter_49 : decode cX2_depthAfter 49 = .ok (.iinc 9 1, 3) := by decide +kernel
theorem dX2_depthAfter_52 : decode cX2_depthAfter 52 = .ok (.iload 5, 2) := by decide +kernel
theorem dX2_depthAfter_54 : decode cX2_depthAfter 54 = .ok (.aload_n 0, 1) := by decide +kernel
theorem dX2_depthAfter_55 : decode cX2_depthAfter 55 = .ok (.iload 8, 2) := by decide +kernel
theorem dX2_depthAfter_57 : decode cX2_depthAfter 57 = .ok (.iload 9, 2) := by decide +kernel
theorem dX2_depthAfter_59 : decode cX2_depthAfter 59 = .ok (.iload_n 2, 1) := by decide +kernel
theorem dX2_depthAfter_60 : decode cX2_depthAfter 60 = .ok (.invokevirtual 49, 3) := by decide +kernel
theorem dX2_depthAfter_63 : decode cX2_depthAfter 63 = .ok (.iadd, 1) := by decide +kernel
theorem dX2_depthAfter_64 : decode cX2_depthAfter 64 = .ok (.istore 5, 2) := by decide +kernel
theorem dX2_depthAfter_66 : decode cX2_depthAfter 66 = .ok (.iload 9, 2) := by decide +kernel
theorem dX2_depthAfter_68 : decode cX2_depthAfter 68 = .ok (.aload_n 0, 1) := by decide +kernel
theorem dX2_depthAfter_69 : decode cX2_depthAfter 69 = .ok (.getfield 14, 3) := by decide +kernel
theorem dX2_depthAfter_72 : decode cX2_depthAfter 72 = .ok (.getfield 53, 3) := by decide +kernel
theorem dX2_depthAfter_75 : decode cX2_depthAfter 75 = .ok (.if_icmp .lt 6, 3) := by decide +kernel
theorem dX2_depthAfter_78 : decode cX2_depthAfter 78 = .ok (.iinc 6 1, 3) := by decide +kernel
theorem dX2_depthAfter_81 : decode cX2_depthAfter 81 = .ok (.iinc 8 1, 3) := by decide +kernel
theorem dX2_depthAfter_84 : decode cX2_depthAfter 84 = .ok (.goto (-71), 3) := by decide +kernel
theorem dX2_depthAfter_87 : decode cX2_depthAfter 87 = .ok (.aload_n 0, 1) := by decide +kernel
theorem dX2_depthAfter_88 : decode cX2_depthAfter 88 = .ok (.iload_n 2, 1) := by decide +kernel
theorem dX2_depthAfter_89 : decode cX2_depthAfter 89 = .ok (.iload 5, 2) := by decide +kernel
theorem dX2_depthAfter_91 : decode cX2_depthAfter 91 = .ok (.iload_n 3, 1) := by decide +kernel
theorem dX2_depthAfter_92 : decode cX2_depthAfter 92 = .ok (.invokestatic 56, 3) := by decide +kernel
theorem dX2_depthAfter_95 : decode cX2_depthAfter 95 = .ok (.iload 6, 2) := by decide +kernel
theorem dX2_depthAfter_97 : decode cX2_depthAfter 97 = .ok (.invokevirtual 62, 3) := by decide +kernel
theorem dX2_depthAfter_100 : decode cX2_depthAfter 100 = .ok (.ireturn, 1) := by decide +kernel
theorem dX2_noiseOf_0 : decode cX2_noiseOf 0 = .ok (.iload_n 2, 1) := by decide +kernel
theorem dX2_noiseOf_1 : decode cX2_noiseOf 1 = .ok (.aload_n 0, 1) := by decide +kernel
theorem dX2_noiseOf_2 : decode cX2_noiseOf 2 = .ok (.getfield 14, 3) := by decide +kernel
theorem dX2_noiseOf_5 : decode cX2_noiseOf 5 = .ok (.getfield 66, 3) := by decide +kernel
theorem dX2_noiseOf_8 : decode cX2_noiseOf 8 = .ok (.isub, 1) := by decide +kernel
theorem dX2_noiseOf_9 : decode cX2_noiseOf 9 = .ok (.invokestatic 69, 3) := by decide +kernel
theorem dX2_noiseOf_12 : decode cX2_noiseOf 12 = .ok (.istore 4, 2) := by decide +kernel
theorem dX2_noiseOf_14 : decode cX2_noiseOf 14 = .ok (.iload_n 1, 1) := by decide +kernel
theorem dX2_noiseOf_15 : decode cX2_noiseOf 15 = .ok (.ifCond .lt 8, 3) := by decide +kernel
theorem dX2_noiseOf_18 : decode cX2_noiseOf 18 = .ok (.iload_n 1, 1) := by decide +kernel
theorem dX2_noiseOf_19 : decode cX2_noiseOf 19 = .ok (.iconst 4, 1) := by decide +kernel
theorem dX2_noiseOf_20 : decode cX2_noiseOf 20 = .ok (.if_icmp .lt 5, 3) := by decide +kernel
theorem dX2_noiseOf_23 : decode cX2_noiseOf 23 = .ok (.iconst 0, 1) := by decide +kernel
theorem dX2_noiseOf_24 : decode cX2_noiseOf 24 = .ok (.ireturn, 1) := by decide +kernel
theorem dX2_noiseOf_25 : decode cX2_noiseOf 25 = .ok (.aload_n 0, 1) := by decide +kernel
theorem dX2_noiseOf_26 : decode cX2_noiseOf 26 = .ok (.getfield 14, 3) := by decide +kernel
theorem dX2_noiseOf_29 : decode cX2_noiseOf 29 = .ok (.getfield 74, 3) := by decide +kernel
theorem dX2_noiseOf_32 : decode cX2_noiseOf 32 = .ok (.ifnonnull 20, 3) := by decide +kernel
theorem dX2_noiseOf_35 : decode cX2_noiseOf 35 = .ok (.iconst 0, 1) := by decide +kernel
theorem dX2_noiseOf_36 : decode cX2_noiseOf 36 = .ok (.aload_n 0, 1) := by decide +kernel
theorem dX2_noiseOf_37 : decode cX2_noiseOf 37 = .ok (.getfield 14, 3) := by decide +kernel
theorem dX2_noiseOf_40 : decode cX2_noiseOf 40 = .ok (.getfield 77, 3) := by decide +kernel
theorem dX2_noiseOf_43 : decode cX2_noiseOf 43 = .ok (.iload_n 1, 1) := by decide +kernel
theorem dX2_noiseOf_44 : decode cX2_noiseOf 44 = .ok (.iaload, 1) := by decide +kernel
theorem dX2_noiseOf_45 : decode cX2_noiseOf 45 = .ok (.iload 4, 2) := by decide +kernel
theorem dX2_noiseOf_47 : decode cX2_noiseOf 47 = .ok (.isub, 1) := by decide +kernel
theorem dX2_noiseOf_48 : decode cX2_noiseOf 48 = .ok (.invokestatic 80, 3) := by decide +kernel
theorem dX2_noiseOf_51 : decode cX2_noiseOf 51 = .ok (.ireturn, 1) := by decide +kernel
theorem dX2_noiseOf_52 : decode cX2_noiseOf 52 = .ok (.iload_n 1, 1) := by decide +kernel
theorem dX2_noiseOf_53 : decode cX2_noiseOf 53 = .ok (.bipush 7, 2) := by decide +kernel
theorem dX2_noiseOf_55 : decode cX2_noiseOf 55 = .ok (.imul, 1) := by decide +kernel
theorem dX2_noiseOf_56 : decode cX2_noiseOf 56 = .ok (.iload_n 2, 1) := by decide +kernel
theorem dX2_noiseOf_57 : decode cX2_noiseOf 57 = .ok (.iadd, 1) := by decide +kernel
theorem dX2_noiseOf_58 : decode cX2_noiseOf 58 = .ok (.bipush 10, 2) := by decide +kernel
theorem dX2_noiseOf_60 : decode cX2_noiseOf 60 = .ok (.imul, 1) := by decide +kernel
theorem dX2_noiseOf_61 : decode cX2_noiseOf 61 = .ok (.iload_n 3, 1) := by decide +kernel
theorem dX2_noiseOf_62 : decode cX2_noiseOf 62 = .ok (.iadd, 1) := by decide +kernel
theorem dX2_noiseOf_63 : decode cX2_noiseOf 63 = .ok (.istore 5, 2) := by decide +kernel
theorem dX2_noiseOf_65 : decode cX2_noiseOf 65 = .ok (.iload 5, 2) := by decide +kernel
theorem dX2_noiseOf_67 : decode cX2_noiseOf 67 = .ok (.ifCond .lt 17, 3) := by decide +kernel
theorem dX2_noiseOf_70 : decode cX2_noiseOf 70 = .ok (.iload 5, 2) := by decide +kernel
theorem dX2_noiseOf_72 : decode cX2_noiseOf 72 = .ok (.aload_n 0, 1) := by decide +kernel
theorem dX2_noiseOf_73 : decode cX2_noiseOf 73 = .ok (.getfield 20, 3) := by decide +kernel
theorem dX2_noiseOf_76 : decode cX2_noiseOf 76 = .ok (.arraylength, 1) := by decide +kernel
theorem dX2_noiseOf_77 : decode cX2_noiseOf 77 = .ok (.if_icmp .ge 7, 3) := by decide +kernel
theorem dX2_noiseOf_80 : decode cX2_noiseOf 80 = .ok (.iconst 1, 1) := by decide +kernel
theorem dX2_noiseOf_81 : decode cX2_noiseOf 81 = .ok (.goto 4, 3) := by decide +kernel
theorem dX2_noiseOf_84 : decode cX2_noiseOf 84 = .ok (.iconst 0, 1) := by decide +kernel
theorem dX2_noiseOf_85 : decode cX2_noiseOf 85 = .ok (.istore 6, 2) := by decide +kernel
theorem dX2_noiseOf_87 : decode cX2_noiseOf 87 = .ok (.iload 6, 2) := by decide +kernel
theorem dX2_noiseOf_89 : decode cX2_noiseOf 89 = .ok (.ifCond .eq 31, 3) := by decide +kernel
theorem dX2_noiseOf_92 : decode cX2_noiseOf 92 = .ok (.aload_n 0, 1) := by decide +kernel
theorem dX2_noiseOf_93 : decode cX2_noiseOf 93 = .ok (.getfield 20, 3) := by decide +kernel
theorem dX2_noiseOf_96 : decode cX2_noiseOf 96 = .ok (.iload 5, 2) := by decide +kernel
theorem dX2_noiseOf_98 : decode cX2_noiseOf 98 = .ok (.iaload, 1) := by decide +kernel
theorem dX2_noiseOf_99 : decode cX2_noiseOf 99 = .ok (.bipush 7, 2) := by decide +kernel
theorem dX2_noiseOf_101 : decode cX2_noiseOf 101 = .ok (.ishr, 1) := by decide +kernel
theorem dX2_noiseOf_102 : decode cX2_noiseOf 102 = .ok (.aload_n 0, 1) := by decide +kernel
theorem dX2_noiseOf_103 : decode cX2_noiseOf 103 = .ok (.getfield 37, 3) := by decide +kernel
theorem dX2_noiseOf_106 : decode cX2_noiseOf 106 = .ok (.if_icmp .ne 14, 3) := by decide +kernel
theorem dX2_noiseOf_109 : decode cX2_noiseOf 109 = .ok (.aload_n 0, 1) := by decide +kernel
theorem dX2_noiseOf_110 : decode cX2_noiseOf 110 = .ok (.getfield 20, 3) := by decide +kernel
theorem dX2_noiseOf_113 : decode cX2_noiseOf 113 = .ok (.iload 5, 2) := by decide +kernel
theorem dX2_noiseOf_115 : decode cX2_noiseOf 115 = .ok (.iaload, 1) := by decide +kernel
theorem dX2_noiseOf_116 : decode cX2_noiseOf 116 = .ok (.bipush 127, 2) := by decide +kernel
theorem dX2_noiseOf_118 : decode cX2_noiseOf 118 = .ok (.iand, 1) := by decide +kernel
theorem dX2_noiseOf_119 : decode cX2_noiseOf 119 = .ok (.ireturn, 1) := by decide +kernel
theorem dX2_noiseOf_120 : decode cX2_noiseOf 120 = .ok (.aload_n 0, 1) := by decide +kernel
theorem dX2_noiseOf_121 : decode cX2_noiseOf 121 = .ok (.getfield 24, 3) := by decide +kernel
theorem dX2_noiseOf_124 : decode cX2_noiseOf 124 = .ok (.iconst 0, 1) := by decide +kernel
theorem dX2_noiseOf_125 : decode cX2_noiseOf 125 = .ok (.aload_n 0, 1) := by decide +kernel
theorem dX2_noiseOf_126 : decode cX2_noiseOf 126 = .ok (.getfield 30, 3) := by decide +kernel
theorem dX2_noiseOf_129 : decode cX2_noiseOf 129 = .ok (.iastore, 1) := by decide +kernel
theorem dX2_noiseOf_130 : decode cX2_noiseOf 130 = .ok (.aload_n 0, 1) := by decide +kernel
theorem dX2_noiseOf_131 : decode cX2_noiseOf 131 = .ok (.getfield 24, 3) := by decide +kernel
theorem dX2_noiseOf_134 : decode cX2_noiseOf 134 = .ok (.iconst 1, 1) := by decide +kernel
theorem dX2_noiseOf_135 : decode cX2_noiseOf 135 = .ok (.iload_n 3, 1) := by decide +kernel
theorem dX2_noiseOf_136 : decode cX2_noiseOf 136 = .ok (.iastore, 1) := by decide +kernel
theorem dX2_noiseOf_137 : decode cX2_noiseOf 137 = .ok (.aload_n 0, 1) := by decide +kernel
theorem dX2_noiseOf_138 : decode cX2_noiseOf 138 = .ok (.getfield 24, 3) := by decide +kernel
theorem dX2_noiseOf_141 : decode cX2_noiseOf 141 = .ok (.iconst 2, 1) := by decide +kernel
theorem dX2_noiseOf_142 : decode cX2_noiseOf 142 = .ok (.iload_n 1, 1) := by decide +kernel
theorem dX2_noiseOf_143 : decode cX2_noiseOf 143 = .ok (.iastore, 1) := by decide +kernel
theorem dX2_noiseOf_144 : decode cX2_noiseOf 144 = .ok (.aload_n 0, 1) := by decide +kernel
theorem dX2_noiseOf_145 : decode cX2_noiseOf 145 = .ok (.getfield 24, 3) := by decide +kernel
theorem dX2_noiseOf_148 : decode cX2_noiseOf 148 = .ok (.iconst 3, 1) := by decide +kernel
theorem dX2_noiseOf_149 : decode cX2_noiseOf 149 = .ok (.aload_n 0, 1) := by decide +kernel
theorem dX2_noiseOf_150 : decode cX2_noiseOf 150 = .ok (.getfield 14, 3) := by decide +kernel
theorem dX2_noiseOf_153 : decode cX2_noiseOf 153 = .ok (.getfield 77, 3) := by decide +kernel
theorem dX2_noiseOf_156 : decode cX2_noiseOf 156 = .ok (.iload_n 1, 1) := by decide +kernel
theorem dX2_noiseOf_157 : decode cX2_noiseOf 157 = .ok (.iaload, 1) := by decide +kernel
theorem dX2_noiseOf_158 : decode cX2_noiseOf 158 = .ok (.iastore, 1) := by decide +kernel
theorem dX2_noiseOf_159 : decode cX2_noiseOf 159 = .ok (.aload_n 0, 1) := by decide +kernel
theorem dX2_noiseOf_160 : decode cX2_noiseOf 160 = .ok (.getfield 24, 3) := by decide +kernel
theorem dX2_noiseOf_163 : decode cX2_noiseOf 163 = .ok (.iconst 4, 1) := by decide +kernel
theorem dX2_noiseOf_164 : decode cX2_noiseOf 164 = .ok (.aload_n 0, 1) := by decide +kernel
theorem dX2_noiseOf_165 : decode cX2_noiseOf 165 = .ok (.getfield 14, 3) := by decide +kernel
theorem dX2_noiseOf_168 : decode cX2_noiseOf 168 = .ok (.getfield 84, 3) := by decide +kernel
theorem dX2_noiseOf_171 : decode cX2_noiseOf 171 = .ok (.iload_n 1, 1) := by decide +kernel
theorem dX2_noiseOf_172 : decode cX2_noiseOf 172 = .ok (.iaload, 1) := by decide +kernel
theorem dX2_noiseOf_173 : decode cX2_noiseOf 173 = .ok (.iastore, 1) := by decide +kernel
theorem dX2_noiseOf_174 : decode cX2_noiseOf 174 = .ok (.aload_n 0, 1) := by decide +kernel
theorem dX2_noiseOf_175 : decode cX2_noiseOf 175 = .ok (.getfield 24, 3) := by decide +kernel
theorem dX2_noiseOf_178 : decode cX2_noiseOf 178 = .ok (.iconst 5, 1) := by decide +kernel
theorem dX2_noiseOf_179 : decode cX2_noiseOf 179 = .ok (.iload 4, 2) := by decide +kernel
theorem dX2_noiseOf_181 : decode cX2_noiseOf 181 = .ok (.iastore, 1) := by decide +kernel
theorem dX2_noiseOf_182 : decode cX2_noiseOf 182 = .ok (.iconst 0, 1) := by decide +kernel
theorem dX2_noiseOf_183 : decode cX2_noiseOf 183 = .ok (.bipush 99, 2) := by decide +kernel
theorem dX2_noiseOf_185 : decode cX2_noiseOf 185 = .ok (.aload_n 0, 1) := by decide +kernel
theorem dX2_noiseOf_186 : decode cX2_noiseOf 186 = .ok (.aload_n 0, 1) := by decide +kernel
theorem dX2_noiseOf_187 : decode cX2_noiseOf 187 = .ok (.getfield 14, 3) := by decide +kernel
theorem dX2_noiseOf_190 : decode cX2_noiseOf 190 = .ok (.getfield 74, 3) := by decide +kernel
theorem dX2_noiseOf_193 : decode cX2_noiseOf 193 = .ok (.invokevirtual 87, 3) := by decide +kernel
theorem dX2_noiseOf_196 : decode cX2_noiseOf 196 = .ok (.invokestatic 91, 3) := by decide +kernel
theorem dX2_noiseOf_199 : decode cX2_noiseOf 199 = .ok (.invokestatic 80, 3) := by decide +kernel
theorem dX2_noiseOf_202 : decode cX2_noiseOf 202 = .ok (.istore 7, 2) := by decide +kernel
theorem dX2_noiseOf_204 : decode cX2_noiseOf 204 = .ok (.iload 6, 2) := by decide +kernel
theorem dX2_noiseOf_206 : decode cX2_noiseOf 206 = .ok (.ifCond .eq 20, 3) := by decide +kernel
theorem dX2_noiseOf_209 : decode cX2_noiseOf 209 = .ok (.aload_n 0, 1) := by decide +kernel
theorem dX2_noiseOf_210 : decode cX2_noiseOf 210 = .ok (.getfield 20, 3) := by decide +kernel
theorem dX2_noiseOf_213 : decode cX2_noiseOf 213 = .ok (.iload 5, 2) := by decide +kernel
theorem dX2_noiseOf_215 : decode cX2_noiseOf 215 = .ok (.aload_n 0, 1) := by decide +kernel
theorem dX2_noiseOf_216 : decode cX2_noiseOf 216 = .ok (.getfield 37, 3) := by decide +kernel
theorem dX2_noiseOf_219 : decode cX2_noiseOf 219 = .ok (.bipush 7, 2) := by decide +kernel
theorem dX2_noiseOf_221 : decode cX2_noiseOf 221 = .ok (.ishl, 1) := by decide +kernel
theorem dX2_noiseOf_222 : decode cX2_noiseOf 222 = .ok (.iload 7, 2) := by decide +kernel
theorem dX2_noiseOf_224 : decode cX2_noiseOf 224 = .ok (.ior, 1) := by decide +kernel
theorem dX2_noiseOf_225 : decode cX2_noiseOf 225 = .ok (.iastore, 1) := by decide +kernel
theorem dX2_noiseOf_226 : decode cX2_noiseOf 226 = .ok (.iload 7, 2) := by decide +kernel
theorem dX2_noiseOf_228 : decode cX2_noiseOf 228 = .ok (.ireturn, 1) := by decide +kernel
theorem dX2_depthThen_0 : decode cX2_depthThen 0 = .ok (.aload_n 0, 1) := by decide +kernel
theorem dX2_depthThen_1 : decode cX2_depthThen 1 = .ok (.getfield 14, 3) := by decide +kernel
theorem dX2_depthThen_4 : decode cX2_depthThen 4 = .ok (.getfield 43, 3) := by decide +kernel
theorem dX2_depthThen_7 : decode cX2_depthThen 7 = .ok (.ifnonnull 30, 3) := by decide +kernel
theorem dX2_depthThen_10 : decode cX2_depthThen 10 = .ok (.iload_n 2, 1) := by decide +kernel
theorem dX2_depthThen_11 : decode cX2_depthThen 11 = .ok (.ifCond .ne 9, 3) := by decide +kernel
theorem dX2_depthThen_14 : decode cX2_depthThen 14 = .ok (.iload_n 1, 1) := by decide +kernel
theorem dX2_depthThen_15 : decode cX2_depthThen 15 = .ok (.iconst 1, 1) := by decide +kernel
theorem dX2_depthThen_16 : decode cX2_depthThen 16 = .ok (.iadd, 1) := by decide +kernel
theorem dX2_depthThen_17 : decode cX2_depthThen 17 = .ok (.goto 6, 3) := by decide +kernel
theorem dX2_depthThen_20 : decode cX2_depthThen 20 = .ok (.iload_n 1, 1) := by decide +kernel
theorem dX2_depthThen_21 : decode cX2_depthThen 21 = .ok (.iload_n 2, 1) := by decide +kernel
theorem dX2_depthThen_22 : decode cX2_depthThen 22 = .ok (.isub, 1) := by decide +kernel
theorem dX2_depthThen_23 : decode cX2_depthThen 23 = .ok (.istore 5, 2) := by decide +kernel
theorem dX2_depthThen_25 : decode cX2_depthThen 25 = .ok (.iconst 0, 1) := by decide +kernel
theorem dX2_depthThen_26 : decode cX2_depthThen 26 = .ok (.bipush 9, 2) := by decide +kernel
theorem dX2_depthThen_28 : decode cX2_depthThen 28 = .ok (.iload 5, 2) := by decide +kernel
theorem dX2_depthThen_30 : decode cX2_depthThen 30 = .ok (.invokestatic 91, 3) := by decide +kernel
theorem dX2_depthThen_33 : decode cX2_depthThen 33 = .ok (.invokestatic 80, 3) := by decide +kernel
theorem dX2_depthThen_36 : decode cX2_depthThen 36 = .ok (.ireturn, 1) := by decide +kernel
theorem dX2_depthThen_37 : decode cX2_depthThen 37 = .ok (.iload_n 1, 1) := by decide +kernel
theorem dX2_depthThen_38 : decode cX2_depthThen 38 = .ok (.sipush 128, 3) := by decide +kernel
theorem dX2_depthThen_41 : decode cX2_depthThen 41 = .ok (.imul, 1) := by decide +kernel
theorem dX2_depthThen_42 : decode cX2_depthThen 42 = .ok (.iload_n 2, 1) := by decide +kernel
theorem dX2_depthThen_43 : decode cX2_depthThen 43 = .ok (.iadd, 1) := by decide +kernel
theorem dX2_depthThen_44 : decode cX2_depthThen 44 = .ok (.iconst 5, 1) := by decide +kernel
theorem dX2_depthThen_45 : decode cX2_depthThen 45 = .ok (.imul, 1) := by decide +kernel
theorem dX2_depthThen_46 : decode cX2_depthThen 46 = .ok (.iload_n 3, 1) := by decide +kernel
theorem dX2_depthThen_47 : decode cX2_depthThen 47 = .ok (.iadd, 1) := by decide +kernel
theorem dX2_depthThen_48 : decode cX2_depthThen 48 = .ok (.iconst 5, 1) := by decide +kernel
theorem dX2_depthThen_49 : decode cX2_depthThen 49 = .ok (.imul, 1) := by decide +kernel
theorem dX2_depthThen_50 : decode cX2_depthThen 50 = .ok (.iload 4, 2) := by decide +kernel
theorem dX2_depthThen_52 : decode cX2_depthThen 52 = .ok (.iadd, 1) := by decide +kernel
theorem dX2_depthThen_53 : decode cX2_depthThen 53 = .ok (.istore 5, 2) := by decide +kernel
theorem dX2_depthThen_55 : decode cX2_depthThen 55 = .ok (.iload_n 2, 1) := by decide +kernel
theorem dX2_depthThen_56 : decode cX2_depthThen 56 = .ok (.sipush 128, 3) := by decide +kernel
theorem dX2_depthThen_59 : decode cX2_depthThen 59 = .ok (.if_icmp .ge 29, 3) := by decide +kernel
theorem dX2_depthThen_62 : decode cX2_depthThen 62 = .ok (.iload 5, 2) := by decide +kernel
theorem dX2_depthThen_64 : decode cX2_depthThen 64 = .ok (.ifCond .lt 24, 3) := by decide +kernel
theorem dX2_depthThen_67 : decode cX2_depthThen 67 = .ok (.aload_n 0, 1) := by decide +kernel
theorem dX2_depthThen_68 : decode cX2_depthThen 68 = .ok (.getfield 40, 3) := by decide +kernel
theorem dX2_depthThen_71 : decode cX2_depthThen 71 = .ok (.ifnull 17, 3) := by decide +kernel
theorem dX2_depthThen_74 : decode cX2_depthThen 74 = .ok (.iload 5, 2) := by decide +kernel
theorem dX2_depthThen_76 : decode cX2_depthThen 76 = .ok (.aload_n 0, 1) := by decide +kernel
theorem dX2_depthThen_77 : decode cX2_depthThen 77 = .ok (.getfield 40, 3) := by decide +kernel
theorem dX2_depthThen_80 : decode cX2_depthThen 80 = .ok (.arraylength, 1) := by decide +kernel
theorem dX2_depthThen_81 : decode cX2_depthThen 81 = .ok (.if_icmp .ge 7, 3) := by decide +kernel
theorem dX2_depthThen_84 : decode cX2_depthThen 84 = .ok (.iconst 1, 1) := by decide +kernel
theorem dX2_depthThen_85 : decode cX2_depthThen 85 = .ok (.goto 4, 3) := by decide +kernel
theorem dX2_depthThen_88 : decode cX2_depthThen 88 = .ok (.iconst 0, 1) := by decide +kernel
theorem dX2_depthThen_89 : decode cX2_depthThen 89 = .ok (.istore 6, 2) := by decide +kernel
theorem dX2_depthThen_91 : decode cX2_depthThen 91 = .ok (.iload 6, 2) := by decide +kernel
theorem dX2_depthThen_93 : decode cX2_depthThen 93 = .ok (.ifCond .eq 30, 3) := by decide +kernel
theorem dX2_depthThen_96 : decode cX2_depthThen 96 = .ok (.aload_n 0, 1) := by decide +kernel
theorem dX2_depthThen_97 : decode cX2_depthThen 97 = .ok (.getfield 40, 3) := by decide +kernel
theorem dX2_depthThen_100 : decode cX2_depthThen 100 = .ok (.iload 5, 2) := by decide +kernel
theorem dX2_depthThen_102 : decode cX2_depthThen 102 = .ok (.iaload, 1) := by decide +kernel
theorem dX2_depthThen_103 : decode cX2_depthThen 103 = .ok (.iconst 4, 1) := by decide +kernel
theorem dX2_depthThen_104 : decode cX2_depthThen 104 = .ok (.ishr, 1) := by decide +kernel
theorem dX2_depthThen_105 : decode cX2_depthThen 105 = .ok (.aload_n 0, 1) := by decide +kernel
theorem dX2_depthThen_106 : decode cX2_depthThen 106 = .ok (.getfield 37, 3) := by decide +kernel
theorem dX2_depthThen_109 : decode cX2_depthThen 109 = .ok (.if_icmp .ne 14, 3) := by decide +kernel
theorem dX2_depthThen_112 : decode cX2_depthThen 112 = .ok (.aload_n 0, 1) := by decide +kernel
theorem dX2_depthThen_113 : decode cX2_depthThen 113 = .ok (.getfield 40, 3) := by decide +kernel
theorem dX2_depthThen_116 : decode cX2_depthThen 116 = .ok (.iload 5, 2) := by decide +kernel
theorem dX2_depthThen_118 : decode cX2_depthThen 118 = .ok (.iaload, 1) := by decide +kernel
theorem dX2_depthThen_119 : decode cX2_depthThen 119 = .ok (.bipush 15, 2) := by decide +kernel
theorem dX2_depthThen_121 : decode cX2_depthThen 121 = .ok (.iand, 1) := by decide +kernel
theorem dX2_depthThen_122 : decode cX2_depthThen 122 = .ok (.ireturn, 1) := by decide +kernel
theorem dX2_depthThen_123 : decode cX2_depthThen 123 = .ok (.aload_n 0, 1) := by decide +kernel
theorem dX2_depthThen_124 : decode cX2_depthThen 124 = .ok (.getfield 24, 3) := by decide +kernel
theorem dX2_depthThen_127 : decode cX2_depthThen 127 = .ok (.iconst 0, 1) := by decide +kernel
theorem dX2_depthThen_128 : decode cX2_depthThen 128 = .ok (.aload_n 0, 1) := by decide +kernel
theorem dX2_depthThen_129 : decode cX2_depthThen 129 = .ok (.getfield 30, 3) := by decide +kernel
theorem dX2_depthThen_132 : decode cX2_depthThen 132 = .ok (.iastore, 1) := by decide +kernel
theorem dX2_depthThen_133 : decode cX2_depthThen 133 = .ok (.aload_n 0, 1) := by decide +kernel
theorem dX2_depthThen_134 : decode cX2_depthThen 134 = .ok (.getfield 24, 3) := by decide +kernel
theorem dX2_depthThen_137 : decode cX2_depthThen 137 = .ok (.iconst 1, 1) := by decide +kernel
theorem dX2_depthThen_138 : decode cX2_depthThen 138 = .ok (.iload_n 1, 1) := by decide +kernel
theorem dX2_depthThen_139 : decode cX2_depthThen 139 = .ok (.iastore, 1) := by decide +kernel
theorem dX2_depthThen_140 : decode cX2_depthThen 140 = .ok (.aload_n 0, 1) := by decide +kernel
theorem dX2_depthThen_141 : decode cX2_depthThen 141 = .ok (.getfield 24, 3) := by decide +kernel
theorem dX2_depthThen_144 : decode cX2_depthThen 144 = .ok (.iconst 2, 1) := by decide +kernel
theorem dX2_depthThen_145 : decode cX2_depthThen 145 = .ok (.iload_n 2, 1) := by decide +kernel
theorem dX2_depthThen_146 : decode cX2_depthThen 146 = .ok (.iastore, 1) := by decide +kernel
theorem dX2_depthThen_147 : decode cX2_depthThen 147 = .ok (.aload_n 0, 1) := by decide +kernel
theorem dX2_depthThen_148 : decode cX2_depthThen 148 = .ok (.getfield 24, 3) := by decide +kernel
theorem dX2_depthThen_151 : decode cX2_depthThen 151 = .ok (.iconst 3, 1) := by decide +kernel
theorem dX2_depthThen_152 : decode cX2_depthThen 152 = .ok (.iload_n 3, 1) := by decide +kernel
theorem dX2_depthThen_153 : decode cX2_depthThen 153 = .ok (.iastore, 1) := by decide +kernel
theorem dX2_depthThen_154 : decode cX2_depthThen 154 = .ok (.aload_n 0, 1) := by decide +kernel
theorem dX2_depthThen_155 : decode cX2_depthThen 155 = .ok (.getfield 24, 3) := by decide +kernel

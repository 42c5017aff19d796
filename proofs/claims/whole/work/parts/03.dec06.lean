theorem dX9_layWalks_55 : decode cX9_layWalks 55 = .ok (.getfield 137, 3) := by decide +kernel
theorem dX9_layWalks_58 : decode cX9_layWalks 58 = .ok (.invokevirtual 244, 3) := by decide +kernel
theorem dX9_layWalks_61 : decode cX9_layWalks 61 = .ok (.aload_n 0, 1) := by decide +kernel
theorem dX9_layWalks_62 : decode cX9_layWalks 62 = .ok (.getfield 235, 3) := by decide +kernel
theorem dX9_layWalks_65 : decode cX9_layWalks 65 = .ok (.areturn, 1) := by decide +kernel
theorem dX9_soonest_0 : decode cX9_soonest 0 = .ok (.aload_n 0, 1) := by decide +kernel
theorem dX9_soonest_1 : decode cX9_soonest 1 = .ok (.iload_n 1, 1) := by decide +kernel
theorem dX9_soonest_2 : decode cX9_soonest 2 = .ok (.i2l, 1) := by decide +kernel
theorem dX9_soonest_3 : decode cX9_soonest 3 = .ok (.invokevirtual 144, 3) := by decide +kernel
theorem dX9_soonest_6 : decode cX9_soonest 6 = .ok (.ifCond .ne 6, 3) := by decide +kernel
theorem dX9_soonest_9 : decode cX9_soonest 9 = .ok (.bipush (-3), 2) := by decide +kernel
theorem dX9_soonest_11 : decode cX9_soonest 11 = .ok (.ireturn, 1) := by decide +kernel
theorem dX9_soonest_12 : decode cX9_soonest 12 = .ok (.aload_n 0, 1) := by decide +kernel
theorem dX9_soonest_13 : decode cX9_soonest 13 = .ok (.invokevirtual 248, 3) := by decide +kernel
theorem dX9_soonest_16 : decode cX9_soonest 16 = .ok (.iload_n 1, 1) := by decide +kernel
theorem dX9_soonest_17 : decode cX9_soonest 17 = .ok (.invokevirtual 252, 3) := by decide +kernel
theorem dX9_soonest_20 : decode cX9_soonest 20 = .ok (.ireturn, 1) := by decide +kernel
theorem dX9_way_0 : decode cX9_way 0 = .ok (.aload_n 0, 1) := by decide +kernel
theorem dX9_way_1 : decode cX9_way 1 = .ok (.iload_n 1, 1) := by decide +kernel
theorem dX9_way_2 : decode cX9_way 2 = .ok (.i2l, 1) := by decide +kernel
theorem dX9_way_3 : decode cX9_way 3 = .ok (.invokevirtual 144, 3) := by decide +kernel
theorem dX9_way_6 : decode cX9_way 6 = .ok (.ifCond .eq 7, 3) := by decide +kernel
theorem dX9_way_9 : decode cX9_way 9 = .ok (.iload_n 2, 1) := by decide +kernel
theorem dX9_way_10 : decode cX9_way 10 = .ok (.ifCond .ge 6, 3) := by decide +kernel
theorem dX9_way_13 : decode cX9_way 13 = .ok (.bipush (-3), 2) := by decide +kernel
theorem dX9_way_15 : decode cX9_way 15 = .ok (.ireturn, 1) := by decide +kernel
theorem dX9_way_16 : decode cX9_way 16 = .ok (.aload_n 0, 1) := by decide +kernel
theorem dX9_way_17 : decode cX9_way 17 = .ok (.invokevirtual 248, 3) := by decide +kernel
theorem dX9_way_20 : decode cX9_way 20 = .ok (.astore_n 3, 1) := by decide +kernel
theorem dX9_way_21 : decode cX9_way 21 = .ok (.aload_n 3, 1) := by decide +kernel
theorem dX9_way_22 : decode cX9_way 22 = .ok (.iload_n 1, 1) := by decide +kernel
theorem dX9_way_23 : decode cX9_way 23 = .ok (.invokevirtual 252, 3) := by decide +kernel
theorem dX9_way_26 : decode cX9_way 26 = .ok (.istore 4, 2) := by decide +kernel
theorem dX9_way_28 : decode cX9_way 28 = .ok (.iload_n 2, 1) := by decide +kernel
theorem dX9_way_29 : decode cX9_way 29 = .ok (.iload 4, 2) := by decide +kernel
theorem dX9_way_31 : decode cX9_way 31 = .ok (.if_icmp .lt 7, 3) := by decide +kernel
theorem dX9_way_34 : decode cX9_way 34 = .ok (.iconst (-1), 1) := by decide +kernel
theorem dX9_way_35 : decode cX9_way 35 = .ok (.goto 8, 3) := by decide +kernel
theorem dX9_way_38 : decode cX9_way 38 = .ok (.aload_n 3, 1) := by decide +kernel
theorem dX9_way_39 : decode cX9_way 39 = .ok (.iload_n 2, 1) := by decide +kernel
theorem dX9_way_40 : decode cX9_way 40 = .ok (.invokevirtual 255, 3) := by decide +kernel
theorem dX9_way_43 : decode cX9_way 43 = .ok (.ireturn, 1) := by decide +kernel
theorem dX9_rows_0 : decode cX9_rows 0 = .ok (.aload_n 0, 1) := by decide +kernel
theorem dX9_rows_1 : decode cX9_rows 1 = .ok (.iload_n 1, 1) := by decide +kernel
theorem dX9_rows_2 : decode cX9_rows 2 = .ok (.i2l, 1) := by decide +kernel
theorem dX9_rows_3 : decode cX9_rows 3 = .ok (.invokevirtual 144, 3) := by decide +kernel
theorem dX9_rows_6 : decode cX9_rows 6 = .ok (.ifCond .eq 13, 3) := by decide +kernel
theorem dX9_rows_9 : decode cX9_rows 9 = .ok (.iload_n 2, 1) := by decide +kernel
theorem dX9_rows_10 : decode cX9_rows 10 = .ok (.ifCond .lt 9, 3) := by decide +kernel
theorem dX9_rows_13 : decode cX9_rows 13 = .ok (.iload_n 2, 1) := by decide +kernel
theorem dX9_rows_14 : decode cX9_rows 14 = .ok (.bipush 8, 2) := by decide +kernel
theorem dX9_rows_16 : decode cX9_rows 16 = .ok (.if_icmp .le 7, 3) := by decide +kernel
theorem dX9_rows_19 : decode cX9_rows 19 = .ok (.ldc2_w 258, 3) := by decide +kernel
theorem dX9_rows_22 : decode cX9_rows 22 = .ok (.lreturn, 1) := by decide +kernel
theorem dX9_rows_23 : decode cX9_rows 23 = .ok (.aload_n 0, 1) := by decide +kernel
theorem dX9_rows_24 : decode cX9_rows 24 = .ok (.invokevirtual 248, 3) := by decide +kernel
theorem dX9_rows_27 : decode cX9_rows 27 = .ok (.iload_n 1, 1) := by decide +kernel
theorem dX9_rows_28 : decode cX9_rows 28 = .ok (.iload_n 2, 1) := by decide +kernel
theorem dX9_rows_29 : decode cX9_rows 29 = .ok (.invokevirtual 260, 3) := by decide +kernel
theorem dX9_rows_32 : decode cX9_rows 32 = .ok (.lreturn, 1) := by decide +kernel
theorem dX9_can_0 : decode cX9_can 0 = .ok (.aload_n 0, 1) := by decide +kernel
theorem dX9_can_1 : decode cX9_can 1 = .ok (.invokevirtual 248, 3) := by decide +kernel
theorem dX9_can_4 : decode cX9_can 4 = .ok (.astore_n 1, 1) := by decide +kernel
theorem dX9_can_5 : decode cX9_can 5 = .ok (.aload_n 1, 1) := by decide +kernel
theorem dX9_can_6 : decode cX9_can 6 = .ok (.invokevirtual 264, 3) := by decide +kernel
theorem dX9_can_9 : decode cX9_can 9 = .ok (.aload_n 1, 1) := by decide +kernel
theorem dX9_can_10 : decode cX9_can 10 = .ok (.invokevirtual 267, 3) := by decide +kernel
theorem dX9_can_13 : decode cX9_can 13 = .ok (.ireturn, 1) := by decide +kernel
theorem dX9_most_0 : decode cX9_most 0 = .ok (.iload_n 1, 1) := by decide +kernel
theorem dX9_most_1 : decode cX9_most 1 = .ok (.ifCond .lt 8, 3) := by decide +kernel
theorem dX9_most_4 : decode cX9_most 4 = .ok (.iload_n 1, 1) := by decide +kernel
theorem dX9_most_5 : decode cX9_most 5 = .ok (.iconst 1, 1) := by decide +kernel
theorem dX9_most_6 : decode cX9_most 6 = .ok (.if_icmp .le 6, 3) := by decide +kernel
theorem dX9_most_9 : decode cX9_most 9 = .ok (.bipush (-2), 2) := by decide +kernel
theorem dX9_most_11 : decode cX9_most 11 = .ok (.ireturn, 1) := by decide +kernel
theorem dX9_most_12 : decode cX9_most 12 = .ok (.aload_n 0, 1) := by decide +kernel
theorem dX9_most_13 : decode cX9_most 13 = .ok (.getfield 28, 3) := by decide +kernel
theorem dX9_most_16 : decode cX9_most 16 = .ok (.getfield 137, 3) := by decide +kernel
theorem dX9_most_19 : decode cX9_most 19 = .ok (.ifCond .ne 5, 3) := by decide +kernel
theorem dX9_most_22 : decode cX9_most 22 = .ok (.iconst (-1), 1) := by decide +kernel
theorem dX9_most_23 : decode cX9_most 23 = .ok (.ireturn, 1) := by decide +kernel
theorem dX9_most_24 : decode cX9_most 24 = .ok (.aload_n 0, 1) := by decide +kernel
theorem dX9_most_25 : decode cX9_most 25 = .ok (.invokevirtual 248, 3) := by decide +kernel
theorem dX9_most_28 : decode cX9_most 28 = .ok (.astore_n 2, 1) := by decide +kernel
theorem dX9_most_29 : decode cX9_most 29 = .ok (.aload_n 2, 1) := by decide +kernel
theorem dX9_most_30 : decode cX9_most 30 = .ok (.invokevirtual 264, 3) := by decide +kernel
theorem dX9_most_33 : decode cX9_most 33 = .ok (.aload_n 2, 1) := by decide +kernel
theorem dX9_most_34 : decode cX9_most 34 = .ok (.invokevirtual 270, 3) := by decide +kernel
theorem dX9_most_37 : decode cX9_most 37 = .ok (.istore_n 3, 1) := by decide +kernel
theorem dX9_most_38 : decode cX9_most 38 = .ok (.iload_n 1, 1) := by decide +kernel
theorem dX9_most_39 : decode cX9_most 39 = .ok (.ifCond .ne 10, 3) := by decide +kernel
theorem dX9_most_42 : decode cX9_most 42 = .ok (.iload_n 3, 1) := by decide +kernel
theorem dX9_most_43 : decode cX9_most 43 = .ok (.invokestatic 273, 3) := by decide +kernel
theorem dX9_most_46 : decode cX9_most 46 = .ok (.goto 4, 3) := by decide +kernel
theorem dX9_most_49 : decode cX9_most 49 = .ok (.iload_n 3, 1) := by decide +kernel
theorem dX9_most_50 : decode cX9_most 50 = .ok (.ireturn, 1) := by decide +kernel
theorem dX9_deepest_0 : decode cX9_deepest 0 = .ok (.aload_n 0, 1) := by decide +kernel
theorem dX9_deepest_1 : decode cX9_deepest 1 = .ok (.invokevirtual 248, 3) := by decide +kernel
theorem dX9_deepest_4 : decode cX9_deepest 4 = .ok (.astore_n 1, 1) := by decide +kernel
theorem dX9_deepest_5 : decode cX9_deepest 5 = .ok (.aload_n 1, 1) := by decide +kernel
theorem dX9_deepest_6 : decode cX9_deepest 6 = .ok (.invokevirtual 264, 3) := by decide +kernel
theorem dX9_deepest_9 : decode cX9_deepest 9 = .ok (.aload_n 1, 1) := by decide +kernel
theorem dX9_deepest_10 : decode cX9_deepest 10 = .ok (.invokevirtual 278, 3) := by decide +kernel
theorem dX9_deepest_13 : decode cX9_deepest 13 = .ok (.ireturn, 1) := by decide +kernel
theorem dX9_atOnce_0 : decode cX9_atOnce 0 = .ok (.aload_n 0, 1) := by decide +kernel
theorem dX9_atOnce_1 : decode cX9_atOnce 1 = .ok (.getfield 28, 3) := by decide +kernel
theorem dX9_atOnce_4 : decode cX9_atOnce 4 = .ok (.getfield 137, 3) := by decide +kernel
theorem dX9_atOnce_7 : decode cX9_atOnce 7 = .ok (.ifCond .ne 6, 3) := by decide +kernel
theorem dX9_atOnce_10 : decode cX9_atOnce 10 = .ok (.bipush (-5), 2) := by decide +kernel
theorem dX9_atOnce_12 : decode cX9_atOnce 12 = .ok (.ireturn, 1) := by decide +kernel
theorem dX9_atOnce_13 : decode cX9_atOnce 13 = .ok (.aload_n 0, 1) := by decide +kernel
theorem dX9_atOnce_14 : decode cX9_atOnce 14 = .ok (.getfield 55, 3) := by decide +kernel
theorem dX9_atOnce_17 : decode cX9_atOnce 17 = .ok (.aload_n 0, 1) := by decide +kernel
theorem dX9_atOnce_18 : decode cX9_atOnce 18 = .ok (.getfield 21, 3) := by decide +kernel
theorem dX9_atOnce_21 : decode cX9_atOnce 21 = .ok (.aload_n 0, 1) := by decide +kernel
theorem dX9_atOnce_22 : decode cX9_atOnce 22 = .ok (.getfield 28, 3) := by decide +kernel
theorem dX9_atOnce_25 : decode cX9_atOnce 25 = .ok (.getfield 127, 3) := by decide +kernel
theorem dX9_atOnce_28 : decode cX9_atOnce 28 = .ok (.invokevirtual 130, 3) := by decide +kernel
theorem dX9_atOnce_31 : decode cX9_atOnce 31 = .ok (.aload_n 0, 1) := by decide +kernel
theorem dX9_atOnce_32 : decode cX9_atOnce 32 = .ok (.getfield 21, 3) := by decide +kernel
theorem dX9_atOnce_35 : decode cX9_atOnce 35 = .ok (.aload_n 0, 1) := by decide +kernel
theorem dX9_atOnce_36 : decode cX9_atOnce 36 = .ok (.getfield 28, 3) := by decide +kernel
theorem dX9_atOnce_39 : decode cX9_atOnce 39 = .ok (.getfield 114, 3) := by decide +kernel
theorem dX9_atOnce_42 : decode cX9_atOnce 42 = .ok (.invokevirtual 156, 3) := by decide +kernel
theorem dX9_atOnce_45 : decode cX9_atOnce 45 = .ok (.istore_n 1, 1) := by decide +kernel
theorem dX9_atOnce_46 : decode cX9_atOnce 46 = .ok (.iconst (-1), 1) := by decide +kernel
theorem dX9_atOnce_47 : decode cX9_atOnce 47 = .ok (.istore_n 2, 1) := by decide +kernel
theorem dX9_atOnce_48 : decode cX9_atOnce 48 = .ok (.iconst 0, 1) := by decide +kernel
theorem dX9_atOnce_49 : decode cX9_atOnce 49 = .ok (.istore_n 3, 1) := by decide +kernel
theorem dX9_atOnce_50 : decode cX9_atOnce 50 = .ok (.iload_n 3, 1) := by decide +kernel
theorem dX9_atOnce_51 : decode cX9_atOnce 51 = .ok (.iconst 1, 1) := by decide +kernel
theorem dX9_atOnce_52 : decode cX9_atOnce 52 = .ok (.aload_n 0, 1) := by decide +kernel
theorem dX9_atOnce_53 : decode cX9_atOnce 53 = .ok (.getfield 21, 3) := by decide +kernel
theorem dX9_atOnce_56 : decode cX9_atOnce 56 = .ok (.getfield 111, 3) := by decide +kernel
theorem dX9_atOnce_59 : decode cX9_atOnce 59 = .ok (.ishl, 1) := by decide +kernel
theorem dX9_atOnce_60 : decode cX9_atOnce 60 = .ok (.if_icmp .ge 71, 3) := by decide +kernel
theorem dX9_atOnce_63 : decode cX9_atOnce 63 = .ok (.iload_n 2, 1) := by decide +kernel
theorem dX9_atOnce_64 : decode cX9_atOnce 64 = .ok (.iconst (-1), 1) := by decide +kernel
theorem dX9_atOnce_65 : decode cX9_atOnce 65 = .ok (.if_icmp .eq 14, 3) := by decide +kernel
theorem dX9_atOnce_68 : decode cX9_atOnce 68 = .ok (.iload_n 3, 1) := by decide +kernel
theorem dX9_atOnce_69 : decode cX9_atOnce 69 = .ok (.invokestatic 273, 3) := by decide +kernel
theorem dX9_atOnce_72 : decode cX9_atOnce 72 = .ok (.iload_n 2, 1) := by decide +kernel
theorem dX9_atOnce_73 : decode cX9_atOnce 73 = .ok (.invokestatic 273, 3) := by decide +kernel
theorem dX9_atOnce_76 : decode cX9_atOnce 76 = .ok (.if_icmp .le 7, 3) := by decide +kernel
theorem dX9_atOnce_79 : decode cX9_atOnce 79 = .ok (.iconst 1, 1) := by decide +kernel
theorem dX9_atOnce_80 : decode cX9_atOnce 80 = .ok (.goto 4, 3) := by decide +kernel
theorem dX9_atOnce_83 : decode cX9_atOnce 83 = .ok (.iconst 0, 1) := by decide +kernel
theorem dX9_atOnce_84 : decode cX9_atOnce 84 = .ok (.istore 4, 2) := by decide +kernel
theorem dX9_atOnce_86 : decode cX9_atOnce 86 = .ok (.iload 4, 2) := by decide +kernel
theorem dX9_atOnce_88 : decode cX9_atOnce 88 = .ok (.ifCond .eq 37, 3) := by decide +kernel
theorem dX9_atOnce_91 : decode cX9_atOnce 91 = .ok (.iload_n 3, 1) := by decide +kernel
theorem dX9_atOnce_92 : decode cX9_atOnce 92 = .ok (.iload_n 1, 1) := by decide +kernel
theorem dX9_atOnce_93 : decode cX9_atOnce 93 = .ok (.iand, 1) := by decide +kernel
theorem dX9_atOnce_94 : decode cX9_atOnce 94 = .ok (.ifCond .ne 31, 3) := by decide +kernel
theorem dX9_atOnce_97 : decode cX9_atOnce 97 = .ok (.aload_n 0, 1) := by decide +kernel
theorem dX9_atOnce_98 : decode cX9_atOnce 98 = .ok (.getfield 55, 3) := by decide +kernel
theorem dX9_atOnce_101 : decode cX9_atOnce 101 = .ok (.aload_n 0, 1) := by decide +kernel
theorem dX9_atOnce_102 : decode cX9_atOnce 102 = .ok (.getfield 28, 3) := by decide +kernel
theorem dX9_atOnce_105 : decode cX9_atOnce 105 = .ok (.getfield 114, 3) := by decide +kernel
theorem dX9_atOnce_108 : decode cX9_atOnce 108 = .ok (.aload_n 0, 1) := by decide +kernel
theorem dX9_atOnce_109 : decode cX9_atOnce 109 = .ok (.getfield 28, 3) := by decide +kernel
theorem dX9_atOnce_112 : decode cX9_atOnce 112 = .ok (.getfield 137, 3) := by decide +kernel
theorem dX9_atOnce_115 : decode cX9_atOnce 115 = .ok (.iload_n 3, 1) := by decide +kernel
theorem dX9_atOnce_116 : decode cX9_atOnce 116 = .ok (.iconst 0, 1) := by decide +kernel
theorem dX9_atOnce_117 : decode cX9_atOnce 117 = .ok (.invokevirtual 152, 3) := by decide +kernel
theorem dX9_atOnce_120 : decode cX9_atOnce 120 = .ok (.ifCond .le 5, 3) := by decide +kernel
theorem dX9_atOnce_123 : decode cX9_atOnce 123 = .ok (.iload_n 3, 1) := by decide +kernel
theorem dX9_atOnce_124 : decode cX9_atOnce 124 = .ok (.istore_n 2, 1) := by decide +kernel
theorem dX9_atOnce_125 : decode cX9_atOnce 125 = .ok (.iinc 3 1, 3) := by decide +kernel
theorem dX9_atOnce_128 : decode cX9_atOnce 128 = .ok (.goto (-78), 3) := by decide +kernel
theorem dX9_atOnce_131 : decode cX9_atOnce 131 = .ok (.iload_n 2, 1) := by decide +kernel
theorem dX9_atOnce_132 : decode cX9_atOnce 132 = .ok (.ireturn, 1) := by decide +kernel
theorem dX9_stands_0 : decode cX9_stands 0 = .ok (.aload_n 0, 1) := by decide +kernel
theorem dX9_stands_1 : decode cX9_stands 1 = .ok (.invokevirtual 248, 3) := by decide +kernel
theorem dX9_stands_4 : decode cX9_stands 4 = .ok (.astore_n 1, 1) := by decide +kernel
theorem dX9_stands_5 : decode cX9_stands 5 = .ok (.aload_n 1, 1) := by decide +kernel
theorem dX9_stands_6 : decode cX9_stands 6 = .ok (.invokevirtual 264, 3) := by decide +kernel
theorem dX9_stands_9 : decode cX9_stands 9 = .ok (.aload_n 1, 1) := by decide +kernel
theorem dX9_stands_10 : decode cX9_stands 10 = .ok (.getfield 281, 3) := by decide +kernel
theorem dX9_stands_13 : decode cX9_stands 13 = .ok (.ireturn, 1) := by decide +kernel
theorem dX9_learnSays_0 : decode cX9_learnSays 0 = .ok (.aload_n 0, 1) := by decide +kernel
theorem dX9_learnSays_1 : decode cX9_learnSays 1 = .ok (.getfield 62, 3) := by decide +kernel
theorem dX9_learnSays_4 : decode cX9_learnSays 4 = .ok (.aload_n 0, 1) := by decide +kernel
theorem dX9_learnSays_5 : decode cX9_learnSays 5 = .ok (.getfield 21, 3) := by decide +kernel
theorem dX9_learnSays_8 : decode cX9_learnSays 8 = .ok (.getfield 177, 3) := by decide +kernel
theorem dX9_learnSays_11 : decode cX9_learnSays 11 = .ok (.aload_n 0, 1) := by decide +kernel
theorem dX9_learnSays_12 : decode cX9_learnSays 12 = .ok (.getfield 28, 3) := by decide +kernel
theorem dX9_learnSays_15 : decode cX9_learnSays 15 = .ok (.getfield 284, 3) := by decide +kernel
theorem dX9_learnSays_18 : decode cX9_learnSays 18 = .ok (.aload_n 0, 1) := by decide +kernel
theorem dX9_learnSays_19 : decode cX9_learnSays 19 = .ok (.getfield 28, 3) := by decide +kernel
theorem dX9_learnSays_22 : decode cX9_learnSays 22 = .ok (.getfield 288, 3) := by decide +kernel
theorem dX9_learnSays_25 : decode cX9_learnSays 25 = .ok (.invokevirtual 291, 3) := by decide +kernel
theorem dX9_learnSays_28 : decode cX9_learnSays 28 = .ok (.aload_n 0, 1) := by decide +kernel
theorem dX9_learnSays_29 : decode cX9_learnSays 29 = .ok (.getfield 62, 3) := by decide +kernel
theorem dX9_learnSays_32 : decode cX9_learnSays 32 = .ok (.areturn, 1) := by decide +kernel
theorem dX9_ways_0 : decode cX9_ways 0 = .ok (.aload_n 0, 1) := by decide +kernel
theorem dX9_ways_1 : decode cX9_ways 1 = .ok (.invokevirtual 203, 3) := by decide +kernel
theorem dX9_ways_4 : decode cX9_ways 4 = .ok (.getfield 207, 3) := by decide +kernel
theorem dX9_ways_7 : decode cX9_ways 7 = .ok (.ireturn, 1) := by decide +kernel
theorem dX9_first_0 : decode cX9_first 0 = .ok (.aload_n 0, 1) := by decide +kernel
theorem dX9_first_1 : decode cX9_first 1 = .ok (.iload_n 1, 1) := by decide +kernel
theorem dX9_first_2 : decode cX9_first 2 = .ok (.invokevirtual 169, 3) := by decide +kernel
theorem dX9_first_5 : decode cX9_first 5 = .ok (.ifCond .ne 6, 3) := by decide +kernel
theorem dX9_first_8 : decode cX9_first 8 = .ok (.bipush (-2), 2) := by decide +kernel
theorem dX9_first_10 : decode cX9_first 10 = .ok (.ireturn, 1) := by decide +kernel
theorem dX9_first_11 : decode cX9_first 11 = .ok (.aload_n 0, 1) := by decide +kernel
theorem dX9_first_12 : decode cX9_first 12 = .ok (.invokevirtual 203, 3) := by decide +kernel
theorem dX9_first_15 : decode cX9_first 15 = .ok (.astore_n 2, 1) := by decide +kernel
theorem dX9_first_16 : decode cX9_first 16 = .ok (.aload_n 2, 1) := by decide +kernel
theorem dX9_first_17 : decode cX9_first 17 = .ok (.getfield 207, 3) := by decide +kernel
theorem dX9_first_20 : decode cX9_first 20 = .ok (.ifCond .ne 7, 3) := by decide +kernel
theorem dX9_first_23 : decode cX9_first 23 = .ok (.iconst (-1), 1) := by decide +kernel
theorem dX9_first_24 : decode cX9_first 24 = .ok (.goto 9, 3) := by decide +kernel
theorem dX9_first_27 : decode cX9_first 27 = .ok (.aload_n 2, 1) := by decide +kernel
theorem dX9_first_28 : decode cX9_first 28 = .ok (.getfield 295, 3) := by decide +kernel
theorem dX9_first_31 : decode cX9_first 31 = .ok (.iload_n 1, 1) := by decide +kernel
theorem dX9_first_32 : decode cX9_first 32 = .ok (.iaload, 1) := by decide +kernel
theorem dX9_first_33 : decode cX9_first 33 = .ok (.ireturn, 1) := by decide +kernel
theorem dX9_surely_0 : decode cX9_surely 0 = .ok (.aload_n 0, 1) := by decide +kernel
theorem dX9_surely_1 : decode cX9_surely 1 = .ok (.iload_n 1, 1) := by decide +kernel
theorem dX9_surely_2 : decode cX9_surely 2 = .ok (.invokevirtual 169, 3) := by decide +kernel
theorem dX9_surely_5 : decode cX9_surely 5 = .ok (.ifCond .ne 6, 3) := by decide +kernel
theorem dX9_surely_8 : decode cX9_surely 8 = .ok (.bipush (-2), 2) := by decide +kernel
theorem dX9_surely_10 : decode cX9_surely 10 = .ok (.ireturn, 1) := by decide +kernel
theorem dX9_surely_11 : decode cX9_surely 11 = .ok (.aload_n 0, 1) := by decide +kernel
theorem dX9_surely_12 : decode cX9_surely 12 = .ok (.invokevirtual 203, 3) := by decide +kernel
theorem dX9_surely_15 : decode cX9_surely 15 = .ok (.astore_n 2, 1) := by decide +kernel
theorem dX9_surely_16 : decode cX9_surely 16 = .ok (.iconst 0, 1) := by decide +kernel
theorem dX9_surely_17 : decode cX9_surely 17 = .ok (.istore_n 3, 1) := by decide +kernel
theorem dX9_surely_18 : decode cX9_surely 18 = .ok (.iload_n 3, 1) := by decide +kernel
theorem dX9_surely_19 : decode cX9_surely 19 = .ok (.aload_n 0, 1) := by decide +kernel
theorem dX9_surely_20 : decode cX9_surely 20 = .ok (.getfield 21, 3) := by decide +kernel
theorem dX9_surely_23 : decode cX9_surely 23 = .ok (.getfield 177, 3) := by decide +kernel
theorem dX9_surely_26 : decode cX9_surely 26 = .ok (.if_icmp .ge 31, 3) := by decide +kernel
theorem dX9_surely_29 : decode cX9_surely 29 = .ok (.aload_n 2, 1) := by decide +kernel
theorem dX9_surely_30 : decode cX9_surely 30 = .ok (.getfield 207, 3) := by decide +kernel
theorem dX9_surely_33 : decode cX9_surely 33 = .ok (.ifCond .le 18, 3) := by decide +kernel
theorem dX9_surely_36 : decode cX9_surely 36 = .ok (.aload_n 2, 1) := by decide +kernel
theorem dX9_surely_37 : decode cX9_surely 37 = .ok (.iload_n 1, 1) := by decide +kernel
theorem dX9_surely_38 : decode cX9_surely 38 = .ok (.iload_n 3, 1) := by decide +kernel
theorem dX9_surely_39 : decode cX9_surely 39 = .ok (.invokevirtual 298, 3) := by decide +kernel
theorem dX9_surely_42 : decode cX9_surely 42 = .ok (.aload_n 2, 1) := by decide +kernel
theorem dX9_surely_43 : decode cX9_surely 43 = .ok (.getfield 207, 3) := by decide +kernel
theorem dX9_surely_46 : decode cX9_surely 46 = .ok (.if_icmp .ne 5, 3) := by decide +kernel
theorem dX9_surely_49 : decode cX9_surely 49 = .ok (.iload_n 3, 1) := by decide +kernel
theorem dX9_surely_50 : decode cX9_surely 50 = .ok (.ireturn, 1) := by decide +kernel
theorem dX9_surely_51 : decode cX9_surely 51 = .ok (.iinc 3 1, 3) := by decide +kernel
theorem dX9_surely_54 : decode cX9_surely 54 = .ok (.goto (-36), 3) := by decide +kernel
theorem dX9_surely_57 : decode cX9_surely 57 = .ok (.iconst (-1), 1) := by decide +kernel
theorem dX9_surely_58 : decode cX9_surely 58 = .ok (.ireturn, 1) := by decide +kernel
theorem dX9_odds_0 : decode cX9_odds 0 = .ok (.aload_n 0, 1) := by decide +kernel
theorem dX9_odds_1 : decode cX9_odds 1 = .ok (.iload_n 1, 1) := by decide +kernel
theorem dX9_odds_2 : decode cX9_odds 2 = .ok (.invokevirtual 169, 3) := by decide +kernel
theorem dX9_odds_5 : decode cX9_odds 5 = .ok (.ifCond .eq 25, 3) := by decide +kernel
theorem dX9_odds_8 : decode cX9_odds 8 = .ok (.aload_n 0, 1) := by decide +kernel
theorem dX9_odds_9 : decode cX9_odds 9 = .ok (.iload_n 2, 1) := by decide +kernel
theorem dX9_odds_10 : decode cX9_odds 10 = .ok (.invokevirtual 169, 3) := by decide +kernel
theorem dX9_odds_13 : decode cX9_odds 13 = .ok (.ifCond .eq 17, 3) := by decide +kernel
theorem dX9_odds_16 : decode cX9_odds 16 = .ok (.iload_n 1, 1) := by decide +kernel
theorem dX9_odds_17 : decode cX9_odds 17 = .ok (.iload_n 2, 1) := by decide +kernel
theorem dX9_odds_18 : decode cX9_odds 18 = .ok (.if_icmp .eq 12, 3) := by decide +kernel
theorem dX9_odds_21 : decode cX9_odds 21 = .ok (.iload_n 3, 1) := by decide +kernel
theorem dX9_odds_22 : decode cX9_odds 22 = .ok (.ifCond .lt 8, 3) := by decide +kernel
theorem dX9_odds_25 : decode cX9_odds 25 = .ok (.iload_n 3, 1) := by decide +kernel
theorem dX9_odds_26 : decode cX9_odds 26 = .ok (.iconst 1, 1) := by decide +kernel
theorem dX9_odds_27 : decode cX9_odds 27 = .ok (.if_icmp .le 6, 3) := by decide +kernel
theorem dX9_odds_30 : decode cX9_odds 30 = .ok (.bipush (-2), 2) := by decide +kernel
theorem dX9_odds_32 : decode cX9_odds 32 = .ok (.ireturn, 1) := by decide +kernel
theorem dX9_odds_33 : decode cX9_odds 33 = .ok (.aload_n 0, 1) := by decide +kernel
theorem dX9_odds_34 : decode cX9_odds 34 = .ok (.invokevirtual 203, 3) := by decide +kernel
theorem dX9_odds_37 : decode cX9_odds 37 = .ok (.astore 4, 2) := by decide +kernel
theorem dX9_odds_39 : decode cX9_odds 39 = .ok (.aload 4, 2) := by decide +kernel
theorem dX9_odds_41 : decode cX9_odds 41 = .ok (.getfield 207, 3) := by decide +kernel
theorem dX9_odds_44 : decode cX9_odds 44 = .ok (.ifCond .ne 5, 3) := by decide +kernel
theorem dX9_odds_47 : decode cX9_odds 47 = .ok (.iconst (-1), 1) := by decide +kernel
theorem dX9_odds_48 : decode cX9_odds 48 = .ok (.ireturn, 1) := by decide +kernel
theorem dX9_odds_49 : decode cX9_odds 49 = .ok (.aload 4, 2) := by decide +kernel
theorem dX9_odds_51 : decode cX9_odds 51 = .ok (.iload_n 1, 1) := by decide +kernel
theorem dX9_odds_52 : decode cX9_odds 52 = .ok (.iload_n 2, 1) := by decide +kernel
theorem dX9_odds_53 : decode cX9_odds 53 = .ok (.invokevirtual 298, 3) := by decide +kernel
theorem dX9_odds_56 : decode cX9_odds 56 = .ok (.i2l, 1) := by decide +kernel
theorem dX9_odds_57 : decode cX9_odds 57 = .ok (.aload 4, 2) := by decide +kernel
theorem dX9_odds_59 : decode cX9_odds 59 = .ok (.getfield 207, 3) := by decide +kernel
theorem dX9_odds_62 : decode cX9_odds 62 = .ok (.i2l, 1) := by decide +kernel
theorem dX9_odds_63 : decode cX9_odds 63 = .ok (.iload_n 3, 1) := by decide +kernel
theorem dX9_odds_64 : decode cX9_odds 64 = .ok (.invokestatic 301, 3) := by decide +kernel
theorem dX9_odds_67 : decode cX9_odds 67 = .ok (.ireturn, 1) := by decide +kernel
theorem dX9_partOf_0 : decode cX9_partOf 0 = .ok (.lload_n 0, 1) := by decide +kernel
theorem dX9_partOf_1 : decode cX9_partOf 1 = .ok (.lstore 5, 2) := by decide +kernel
theorem dX9_partOf_3 : decode cX9_partOf 3 = .ok (.lload_n 2, 1) := by decide +kernel
theorem dX9_partOf_4 : decode cX9_partOf 4 = .ok (.lstore 7, 2) := by decide +kernel
theorem dX9_partOf_6 : decode cX9_partOf 6 = .ok (.iconst 0, 1) := by decide +kernel
theorem dX9_partOf_7 : decode cX9_partOf 7 = .ok (.istore 9, 2) := by decide +kernel
theorem dX9_partOf_9 : decode cX9_partOf 9 = .ok (.iload 9, 2) := by decide +kernel
theorem dX9_partOf_11 : decode cX9_partOf 11 = .ok (.bipush 100, 2) := by decide +kernel
theorem dX9_partOf_13 : decode cX9_partOf 13 = .ok (.if_icmp .ge 31, 3) := by decide +kernel
theorem dX9_partOf_16 : decode cX9_partOf 16 = .ok (.lload 7, 2) := by decide +kernel
theorem dX9_partOf_18 : decode cX9_partOf 18 = .ok (.lconst 0, 1) := by decide +kernel
theorem dX9_partOf_19 : decode cX9_partOf 19 = .ok (.lcmp, 1) := by decide +kernel
theorem dX9_partOf_20 : decode cX9_partOf 20 = .ok (.ifCond .eq 24, 3) := by decide +kernel
theorem dX9_partOf_23 : decode cX9_partOf 23 = .ok (.lload 5, 2) := by decide +kernel
theorem dX9_partOf_25 : decode cX9_partOf 25 = .ok (.lload 7, 2) := by decide +kernel
theorem dX9_partOf_27 : decode cX9_partOf 27 = .ok (.lrem, 1) := by decide +kernel
theorem dX9_partOf_28 : decode cX9_partOf 28 = .ok (.lstore 10, 2) := by decide +kernel
theorem dX9_partOf_30 : decode cX9_partOf 30 = .ok (.lload 7, 2) := by decide +kernel
theorem dX9_partOf_32 : decode cX9_partOf 32 = .ok (.lstore 5, 2) := by decide +kernel
theorem dX9_partOf_34 : decode cX9_partOf 34 = .ok (.lload 10, 2) := by decide +kernel
theorem dX9_partOf_36 : decode cX9_partOf 36 = .ok (.lstore 7, 2) := by decide +kernel
theorem dX9_partOf_38 : decode cX9_partOf 38 = .ok (.iinc 9 1, 3) := by decide +kernel
theorem dX9_partOf_41 : decode cX9_partOf 41 = .ok (.goto (-32), 3) := by decide +kernel
theorem dX9_partOf_44 : decode cX9_partOf 44 = .ok (.lload 5, 2) := by decide +kernel
theorem dX9_partOf_46 : decode cX9_partOf 46 = .ok (.lconst 0, 1) := by decide +kernel
theorem dX9_partOf_47 : decode cX9_partOf 47 = .ok (.lcmp, 1) := by decide +kernel
theorem dX9_partOf_48 : decode cX9_partOf 48 = .ok (.ifCond .ne 5, 3) := by decide +kernel
theorem dX9_partOf_51 : decode cX9_partOf 51 = .ok (.iconst 0, 1) := by decide +kernel
theorem dX9_partOf_52 : decode cX9_partOf 52 = .ok (.ireturn, 1) := by decide +kernel
theorem dX9_partOf_53 : decode cX9_partOf 53 = .ok (.iload 4, 2) := by decide +kernel
theorem dX9_partOf_55 : decode cX9_partOf 55 = .ok (.ifCond .ne 7, 3) := by decide +kernel
theorem dX9_partOf_58 : decode cX9_partOf 58 = .ok (.lload_n 0, 1) := by decide +kernel
theorem dX9_partOf_59 : decode cX9_partOf 59 = .ok (.goto 4, 3) := by decide +kernel
theorem dX9_partOf_62 : decode cX9_partOf 62 = .ok (.lload_n 2, 1) := by decide +kernel
theorem dX9_partOf_63 : decode cX9_partOf 63 = .ok (.lload 5, 2) := by decide +kernel
theorem dX9_partOf_65 : decode cX9_partOf 65 = .ok (.ldiv, 1) := by decide +kernel
theorem dX9_partOf_66 : decode cX9_partOf 66 = .ok (.l2i, 1) := by decide +kernel
theorem dX9_partOf_67 : decode cX9_partOf 67 = .ok (.ireturn, 1) := by decide +kernel
theorem dX9_clause_0 : decode cX9_clause 0 = .ok (.aload_n 0, 1) := by decide +kernel
theorem dX9_clause_1 : decode cX9_clause 1 = .ok (.invokevirtual 203, 3) := by decide +kernel
theorem dX9_clause_4 : decode cX9_clause 4 = .ok (.astore_n 1, 1) := by decide +kernel
theorem dX9_clause_5 : decode cX9_clause 5 = .ok (.aload_n 1, 1) := by decide +kernel
theorem dX9_clause_6 : decode cX9_clause 6 = .ok (.getfield 207, 3) := by decide +kernel
theorem dX9_clause_9 : decode cX9_clause 9 = .ok (.ifCond .ne 5, 3) := by decide +kernel
theorem dX9_clause_12 : decode cX9_clause 12 = .ok (.iconst (-1), 1) := by decide +kernel
theorem dX9_clause_13 : decode cX9_clause 13 = .ok (.ireturn, 1) := by decide +kernel
theorem dX9_clause_14 : decode cX9_clause 14 = .ok (.iconst (-1), 1) := by decide +kernel
theorem dX9_clause_15 : decode cX9_clause 15 = .ok (.istore_n 2, 1) := by decide +kernel
theorem dX9_clause_16 : decode cX9_clause 16 = .ok (.aload_n 1, 1) := by decide +kernel
theorem dX9_clause_17 : decode cX9_clause 17 = .ok (.getfield 207, 3) := by decide +kernel
theorem dX9_clause_20 : decode cX9_clause 20 = .ok (.iconst 1, 1) := by decide +kernel
theorem dX9_clause_21 : decode cX9_clause 21 = .ok (.iadd, 1) := by decide +kernel
theorem dX9_clause_22 : decode cX9_clause 22 = .ok (.istore_n 3, 1) := by decide +kernel
theorem dX9_clause_23 : decode cX9_clause 23 = .ok (.iconst 0, 1) := by decide +kernel
theorem dX9_clause_24 : decode cX9_clause 24 = .ok (.istore 4, 2) := by decide +kernel
theorem dX9_clause_26 : decode cX9_clause 26 = .ok (.iload 4, 2) := by decide +kernel
theorem dX9_clause_28 : decode cX9_clause 28 = .ok (.aload_n 0, 1) := by decide +kernel
theorem dX9_clause_29 : decode cX9_clause 29 = .ok (.getfield 21, 3) := by decide +kernel
theorem dX9_clause_32 : decode cX9_clause 32 = .ok (.getfield 177, 3) := by decide +kernel
theorem dX9_clause_35 : decode cX9_clause 35 = .ok (.if_icmp .ge 75, 3) := by decide +kernel
theorem dX9_clause_38 : decode cX9_clause 38 = .ok (.iload 4, 2) := by decide +kernel
theorem dX9_clause_40 : decode cX9_clause 40 = .ok (.iconst 1, 1) := by decide +kernel
theorem dX9_clause_41 : decode cX9_clause 41 = .ok (.iadd, 1) := by decide +kernel
theorem dX9_clause_42 : decode cX9_clause 42 = .ok (.istore 5, 2) := by decide +kernel
theorem dX9_clause_44 : decode cX9_clause 44 = .ok (.iload 5, 2) := by decide +kernel
theorem dX9_clause_46 : decode cX9_clause 46 = .ok (.aload_n 0, 1) := by decide +kernel
theorem dX9_clause_47 : decode cX9_clause 47 = .ok (.getfield 21, 3) := by decide +kernel
theorem dX9_clause_50 : decode cX9_clause 50 = .ok (.getfield 177, 3) := by decide +kernel
theorem dX9_clause_53 : decode cX9_clause 53 = .ok (.if_icmp .ge 51, 3) := by decide +kernel
theorem dX9_clause_56 : decode cX9_clause 56 = .ok (.aload_n 1, 1) := by decide +kernel
theorem dX9_clause_57 : decode cX9_clause 57 = .ok (.iload 4, 2) := by decide +kernel
theorem dX9_clause_59 : decode cX9_clause 59 = .ok (.iload 5, 2) := by decide +kernel
theorem dX9_clause_61 : decode cX9_clause 61 = .ok (.invokevirtual 298, 3) := by decide +kernel
theorem dX9_clause_64 : decode cX9_clause 64 = .ok (.istore 6, 2) := by decide +kernel
theorem dX9_clause_66 : decode cX9_clause 66 = .ok (.iload 6, 2) := by decide +kernel
theorem dX9_clause_68 : decode cX9_clause 68 = .ok (.aload_n 1, 1) := by decide +kernel
theorem dX9_clause_69 : decode cX9_clause 69 = .ok (.getfield 207, 3) := by decide +kernel
theorem dX9_clause_72 : decode cX9_clause 72 = .ok (.iload 6, 2) := by decide +kernel
theorem dX9_clause_74 : decode cX9_clause 74 = .ok (.isub, 1) := by decide +kernel
theorem dX9_clause_75 : decode cX9_clause 75 = .ok (.invokestatic 305, 3) := by decide +kernel
theorem dX9_clause_78 : decode cX9_clause 78 = .ok (.istore 7, 2) := by decide +kernel
theorem dX9_clause_80 : decode cX9_clause 80 = .ok (.iload 7, 2) := by decide +kernel
theorem dX9_clause_82 : decode cX9_clause 82 = .ok (.iload_n 3, 1) := by decide +kernel
theorem dX9_clause_83 : decode cX9_clause 83 = .ok (.if_icmp .ge 15, 3) := by decide +kernel
theorem dX9_clause_86 : decode cX9_clause 86 = .ok (.iload 7, 2) := by decide +kernel
theorem dX9_clause_88 : decode cX9_clause 88 = .ok (.istore_n 3, 1) := by decide +kernel
theorem dX9_clause_89 : decode cX9_clause 89 = .ok (.bipush 10, 2) := by decide +kernel
theorem dX9_clause_91 : decode cX9_clause 91 = .ok (.iload 4, 2) := by decide +kernel
theorem dX9_clause_93 : decode cX9_clause 93 = .ok (.imul, 1) := by decide +kernel
theorem dX9_clause_94 : decode cX9_clause 94 = .ok (.iload 5, 2) := by decide +kernel
theorem dX9_clause_96 : decode cX9_clause 96 = .ok (.iadd, 1) := by decide +kernel
theorem dX9_clause_97 : decode cX9_clause 97 = .ok (.istore_n 2, 1) := by decide +kernel
theorem dX9_clause_98 : decode cX9_clause 98 = .ok (.iinc 5 1, 3) := by decide +kernel
theorem dX9_clause_101 : decode cX9_clause 101 = .ok (.goto (-57), 3) := by decide +kernel
theorem dX9_clause_104 : decode cX9_clause 104 = .ok (.iinc 4 1, 3) := by decide +kernel
theorem dX9_clause_107 : decode cX9_clause 107 = .ok (.goto (-81), 3) := by decide +kernel
theorem dX9_clause_110 : decode cX9_clause 110 = .ok (.iload_n 2, 1) := by decide +kernel
theorem dX9_clause_111 : decode cX9_clause 111 = .ok (.ireturn, 1) := by decide +kernel
theorem dX9_hints_0 : decode cX9_hints 0 = .ok (.iload_n 1, 1) := by decide +kernel
theorem dX9_hints_1 : decode cX9_hints 1 = .ok (.ifCond .lt 8, 3) := by decide +kernel
theorem dX9_hints_4 : decode cX9_hints 4 = .ok (.iload_n 1, 1) := by decide +kernel
theorem dX9_hints_5 : decode cX9_hints 5 = .ok (.iconst 1, 1) := by decide +kernel
theorem dX9_hints_6 : decode cX9_hints 6 = .ok (.if_icmp .le 6, 3) := by decide +kernel
theorem dX9_hints_9 : decode cX9_hints 9 = .ok (.bipush (-2), 2) := by decide +kernel
theorem dX9_hints_11 : decode cX9_hints 11 = .ok (.ireturn, 1) := by decide +kernel
theorem dX9_hints_12 : decode cX9_hints 12 = .ok (.iload_n 1, 1) := by decide +kernel
theorem dX9_hints_13 : decode cX9_hints 13 = .ok (.iconst 1, 1) := by decide +kernel
theorem dX9_hints_14 : decode cX9_hints 14 = .ok (.if_icmp .ne 13, 3) := by decide +kernel
theorem dX9_hints_17 : decode cX9_hints 17 = .ok (.aload_n 0, 1) := by decide +kernel
theorem dX9_hints_18 : decode cX9_hints 18 = .ok (.getfield 28, 3) := by decide +kernel
theorem dX9_hints_21 : decode cX9_hints 21 = .ok (.getfield 284, 3) := by decide +kernel
theorem dX9_hints_24 : decode cX9_hints 24 = .ok (.goto 10, 3) := by decide +kernel
theorem dX9_hints_27 : decode cX9_hints 27 = .ok (.aload_n 0, 1) := by decide +kernel
theorem dX9_hints_28 : decode cX9_hints 28 = .ok (.getfield 28, 3) := by decide +kernel
theorem dX9_hints_31 : decode cX9_hints 31 = .ok (.getfield 288, 3) := by decide +kernel
theorem dX9_hints_34 : decode cX9_hints 34 = .ok (.invokestatic 310, 3) := by decide +kernel
theorem dX9_hints_37 : decode cX9_hints 37 = .ok (.iconst 2, 1) := by decide +kernel
theorem dX9_hints_38 : decode cX9_hints 38 = .ok (.idiv, 1) := by decide +kernel
theorem dX9_hints_39 : decode cX9_hints 39 = .ok (.ireturn, 1) := by decide +kernel
theorem dX9_draughts_0 : decode cX9_draughts 0 = .ok (.aload_n 0, 1) := by decide +kernel
theorem dX9_draughts_1 : decode cX9_draughts 1 = .ok (.iload_n 1, 1) := by decide +kernel
theorem dX9_draughts_2 : decode cX9_draughts 2 = .ok (.invokevirtual 315, 3) := by decide +kernel
theorem dX9_draughts_5 : decode cX9_draughts 5 = .ok (.istore_n 2, 1) := by decide +kernel
theorem dX9_draughts_6 : decode cX9_draughts 6 = .ok (.iload_n 2, 1) := by decide +kernel
theorem dX9_draughts_7 : decode cX9_draughts 7 = .ok (.ifCond .eq 7, 3) := by decide +kernel
theorem dX9_draughts_10 : decode cX9_draughts 10 = .ok (.iload_n 2, 1) := by decide +kernel
theorem dX9_draughts_11 : decode cX9_draughts 11 = .ok (.goto 13, 3) := by decide +kernel
theorem dX9_draughts_14 : decode cX9_draughts 14 = .ok (.aload_n 0, 1) := by decide +kernel
theorem dX9_draughts_15 : decode cX9_draughts 15 = .ok (.aload_n 0, 1) := by decide +kernel
theorem dX9_draughts_16 : decode cX9_draughts 16 = .ok (.getfield 48, 3) := by decide +kernel
theorem dX9_draughts_19 : decode cX9_draughts 19 = .ok (.iload_n 1, 1) := by decide +kernel
theorem dX9_draughts_20 : decode cX9_draughts 20 = .ok (.aaload, 1) := by decide +kernel
theorem dX9_draughts_21 : decode cX9_draughts 21 = .ok (.invokevirtual 318, 3) := by decide +kernel
theorem dX9_draughts_24 : decode cX9_draughts 24 = .ok (.ireturn, 1) := by decide +kernel
theorem dX9_refuseSlept_0 : decode cX9_refuseSlept 0 = .ok (.iload_n 1, 1) := by decide +kernel
theorem dX9_refuseSlept_1 : decode cX9_refuseSlept 1 = .ok (.invokestatic 210, 3) := by decide +kernel
theorem dX9_refuseSlept_4 : decode cX9_refuseSlept 4 = .ok (.ifCond .ne 6, 3) := by decide +kernel
theorem dX9_refuseSlept_7 : decode cX9_refuseSlept 7 = .ok (.bipush (-2), 2) := by decide +kernel
theorem dX9_refuseSlept_9 : decode cX9_refuseSlept 9 = .ok (.ireturn, 1) := by decide +kernel
theorem dX9_refuseSlept_10 : decode cX9_refuseSlept 10 = .ok (.aload_n 0, 1) := by decide +kernel
theorem dX9_refuseSlept_11 : decode cX9_refuseSlept 11 = .ok (.getfield 48, 3) := by decide +kernel
theorem dX9_refuseSlept_14 : decode cX9_refuseSlept 14 = .ok (.iload_n 1, 1) := by decide +kernel
theorem dX9_refuseSlept_15 : decode cX9_refuseSlept 15 = .ok (.aaload, 1) := by decide +kernel
theorem dX9_refuseSlept_16 : decode cX9_refuseSlept 16 = .ok (.astore_n 2, 1) := by decide +kernel
theorem dX9_refuseSlept_17 : decode cX9_refuseSlept 17 = .ok (.aload_n 2, 1) := by decide +kernel
theorem dX9_refuseSlept_18 : decode cX9_refuseSlept 18 = .ok (.getfield 213, 3) := by decide +kernel
theorem dX9_refuseSlept_21 : decode cX9_refuseSlept 21 = .ok (.ifCond .eq 6, 3) := by decide +kernel
theorem dX9_refuseSlept_24 : decode cX9_refuseSlept 24 = .ok (.bipush (-6), 2) := by decide +kernel
theorem dX9_refuseSlept_26 : decode cX9_refuseSlept 26 = .ok (.ireturn, 1) := by decide +kernel
theorem dX9_refuseSlept_27 : decode cX9_refuseSlept 27 = .ok (.aload_n 2, 1) := by decide +kernel
theorem dX9_refuseSlept_28 : decode cX9_refuseSlept 28 = .ok (.getfield 217, 3) := by decide +kernel
theorem dX9_refuseSlept_31 : decode cX9_refuseSlept 31 = .ok (.iconst 1, 1) := by decide +kernel
theorem dX9_refuseSlept_32 : decode cX9_refuseSlept 32 = .ok (.if_icmp .lt 12, 3) := by decide +kernel
theorem dX9_refuseSlept_35 : decode cX9_refuseSlept 35 = .ok (.aload_n 2, 1) := by decide +kernel
theorem dX9_refuseSlept_36 : decode cX9_refuseSlept 36 = .ok (.getfield 217, 3) := by decide +kernel
theorem dX9_refuseSlept_39 : decode cX9_refuseSlept 39 = .ok (.bipush 10, 2) := by decide +kernel
theorem dX9_refuseSlept_41 : decode cX9_refuseSlept 41 = .ok (.if_icmp .le 6, 3) := by decide +kernel
theorem dX9_refuseSlept_44 : decode cX9_refuseSlept 44 = .ok (.bipush (-4), 2) := by decide +kernel
theorem dX9_refuseSlept_46 : decode cX9_refuseSlept 46 = .ok (.ireturn, 1) := by decide +kernel
theorem dX9_refuseSlept_47 : decode cX9_refuseSlept 47 = .ok (.iconst 0, 1) := by decide +kernel
theorem dX9_refuseSlept_48 : decode cX9_refuseSlept 48 = .ok (.istore_n 3, 1) := by decide +kernel
theorem dX9_refuseSlept_49 : decode cX9_refuseSlept 49 = .ok (.iload_n 3, 1) := by decide +kernel
theorem dX9_refuseSlept_50 : decode cX9_refuseSlept 50 = .ok (.aload_n 2, 1) := by decide +kernel
theorem dX9_refuseSlept_51 : decode cX9_refuseSlept 51 = .ok (.getfield 217, 3) := by decide +kernel
theorem dX9_refuseSlept_54 : decode cX9_refuseSlept 54 = .ok (.if_icmp .ge 34, 3) := by decide +kernel
theorem dX9_refuseSlept_57 : decode cX9_refuseSlept 57 = .ok (.aload_n 2, 1) := by decide +kernel
theorem dX9_refuseSlept_58 : decode cX9_refuseSlept 58 = .ok (.iload_n 3, 1) := by decide +kernel
theorem dX9_refuseSlept_59 : decode cX9_refuseSlept 59 = .ok (.invokevirtual 220, 3) := by decide +kernel
theorem dX9_refuseSlept_62 : decode cX9_refuseSlept 62 = .ok (.lconst 0, 1) := by decide +kernel
theorem dX9_refuseSlept_63 : decode cX9_refuseSlept 63 = .ok (.lcmp, 1) := by decide +kernel
theorem dX9_refuseSlept_64 : decode cX9_refuseSlept 64 = .ok (.ifCond .lt 15, 3) := by decide +kernel
theorem dX9_refuseSlept_67 : decode cX9_refuseSlept 67 = .ok (.aload_n 2, 1) := by decide +kernel
theorem dX9_refuseSlept_68 : decode cX9_refuseSlept 68 = .ok (.iload_n 3, 1) := by decide +kernel
theorem dX9_refuseSlept_69 : decode cX9_refuseSlept 69 = .ok (.invokevirtual 220, 3) := by decide +kernel
theorem dX9_refuseSlept_72 : decode cX9_refuseSlept 72 = .ok (.ldc2_w 322, 3) := by decide +kernel
theorem dX9_refuseSlept_75 : decode cX9_refuseSlept 75 = .ok (.lcmp, 1) := by decide +kernel
theorem dX9_refuseSlept_76 : decode cX9_refuseSlept 76 = .ok (.ifCond .le 6, 3) := by decide +kernel
theorem dX9_refuseSlept_79 : decode cX9_refuseSlept 79 = .ok (.bipush (-3), 2) := by decide +kernel
theorem dX9_refuseSlept_81 : decode cX9_refuseSlept 81 = .ok (.ireturn, 1) := by decide +kernel
theorem dX9_refuseSlept_82 : decode cX9_refuseSlept 82 = .ok (.iinc 3 1, 3) := by decide +kernel
theorem dX9_refuseSlept_85 : decode cX9_refuseSlept 85 = .ok (.goto (-36), 3) := by decide +kernel
theorem dX9_refuseSlept_88 : decode cX9_refuseSlept 88 = .ok (.iconst 0, 1) := by decide +kernel
theorem dX9_refuseSlept_89 : decode cX9_refuseSlept 89 = .ok (.ireturn, 1) := by decide +kernel
theorem dX9_draughtsOf_0 : decode cX9_draughtsOf 0 = .ok (.iconst 0, 1) := by decide +kernel
theorem dX9_draughtsOf_1 : decode cX9_draughtsOf 1 = .ok (.istore_n 2, 1) := by decide +kernel
theorem dX9_draughtsOf_2 : decode cX9_draughtsOf 2 = .ok (.iconst 0, 1) := by decide +kernel
theorem dX9_draughtsOf_3 : decode cX9_draughtsOf 3 = .ok (.istore_n 3, 1) := by decide +kernel
theorem dX9_draughtsOf_4 : decode cX9_draughtsOf 4 = .ok (.iload_n 3, 1) := by decide +kernel
theorem dX9_draughtsOf_5 : decode cX9_draughtsOf 5 = .ok (.bipush 10, 2) := by decide +kernel
theorem dX9_draughtsOf_7 : decode cX9_draughtsOf 7 = .ok (.if_icmp .ge 24, 3) := by decide +kernel
theorem dX9_draughtsOf_10 : decode cX9_draughtsOf 10 = .ok (.aload_n 0, 1) := by decide +kernel
theorem dX9_draughtsOf_11 : decode cX9_draughtsOf 11 = .ok (.iload_n 3, 1) := by decide +kernel
theorem dX9_draughtsOf_12 : decode cX9_draughtsOf 12 = .ok (.aload_n 1, 1) := by decide +kernel
theorem dX9_draughtsOf_13 : decode cX9_draughtsOf 13 = .ok (.invokevirtual 324, 3) := by decide +kernel
theorem dX9_draughtsOf_16 : decode cX9_draughtsOf 16 = .ok (.ifCond .eq 9, 3) := by decide +kernel
theorem dX9_draughtsOf_19 : decode cX9_draughtsOf 19 = .ok (.iload_n 2, 1) := by decide +kernel
theorem dX9_draughtsOf_20 : decode cX9_draughtsOf 20 = .ok (.iconst 1, 1) := by decide +kernel
theorem dX9_draughtsOf_21 : decode cX9_draughtsOf 21 = .ok (.iload_n 3, 1) := by decide +kernel
theorem dX9_draughtsOf_22 : decode cX9_draughtsOf 22 = .ok (.ishl, 1) := by decide +kernel
theorem dX9_draughtsOf_23 : decode cX9_draughtsOf 23 = .ok (.ior, 1) := by decide +kernel
theorem dX9_draughtsOf_24 : decode cX9_draughtsOf 24 = .ok (.istore_n 2, 1) := by decide +kernel
theorem dX9_draughtsOf_25 : decode cX9_draughtsOf 25 = .ok (.iinc 3 1, 3) := by decide +kernel
theorem dX9_draughtsOf_28 : decode cX9_draughtsOf 28 = .ok (.goto (-24), 3) := by decide +kernel
theorem dX9_draughtsOf_31 : decode cX9_draughtsOf 31 = .ok (.iload_n 2, 1) := by decide +kernel
theorem dX9_draughtsOf_32 : decode cX9_draughtsOf 32 = .ok (.ireturn, 1) := by decide +kernel
theorem dX9_sleptBy_0 : decode cX9_sleptBy 0 = .ok (.aload_n 0, 1) := by decide +kernel
theorem dX9_sleptBy_1 : decode cX9_sleptBy 1 = .ok (.getfield 55, 3) := by decide +kernel
theorem dX9_sleptBy_4 : decode cX9_sleptBy 4 = .ok (.aload_n 0, 1) := by decide +kernel
theorem dX9_sleptBy_5 : decode cX9_sleptBy 5 = .ok (.getfield 21, 3) := by decide +kernel
theorem dX9_sleptBy_8 : decode cX9_sleptBy 8 = .ok (.iload_n 1, 1) := by decide +kernel
theorem dX9_sleptBy_9 : decode cX9_sleptBy 9 = .ok (.invokevirtual 130, 3) := by decide +kernel
theorem dX9_sleptBy_12 : decode cX9_sleptBy 12 = .ok (.aload_n 0, 1) := by decide +kernel
theorem dX9_sleptBy_13 : decode cX9_sleptBy 13 = .ok (.getfield 28, 3) := by decide +kernel
theorem dX9_sleptBy_16 : decode cX9_sleptBy 16 = .ok (.getfield 137, 3) := by decide +kernel
theorem dX9_sleptBy_19 : decode cX9_sleptBy 19 = .ok (.istore_n 3, 1) := by decide +kernel
theorem dX9_sleptBy_20 : decode cX9_sleptBy 20 = .ok (.iconst 0, 1) := by decide +kernel
theorem dX9_sleptBy_21 : decode cX9_sleptBy 21 = .ok (.istore 4, 2) := by decide +kernel
theorem dX9_sleptBy_23 : decode cX9_sleptBy 23 = .ok (.iload 4, 2) := by decide +kernel
theorem dX9_sleptBy_25 : decode cX9_sleptBy 25 = .ok (.aload_n 2, 1) := by decide +kernel
theorem dX9_sleptBy_26 : decode cX9_sleptBy 26 = .ok (.getfield 217, 3) := by decide +kernel
theorem dX9_sleptBy_29 : decode cX9_sleptBy 29 = .ok (.if_icmp .ge 45, 3) := by decide +kernel
theorem dX9_sleptBy_32 : decode cX9_sleptBy 32 = .ok (.iload_n 3, 1) := by decide +kernel
theorem dX9_sleptBy_33 : decode cX9_sleptBy 33 = .ok (.ifCond .le 21, 3) := by decide +kernel
theorem dX9_sleptBy_36 : decode cX9_sleptBy 36 = .ok (.aload_n 0, 1) := by decide +kernel
theorem dX9_sleptBy_37 : decode cX9_sleptBy 37 = .ok (.getfield 55, 3) := by decide +kernel
theorem dX9_sleptBy_40 : decode cX9_sleptBy 40 = .ok (.aload_n 0, 1) := by decide +kernel
theorem dX9_sleptBy_41 : decode cX9_sleptBy 41 = .ok (.getfield 28, 3) := by decide +kernel
theorem dX9_sleptBy_44 : decode cX9_sleptBy 44 = .ok (.getfield 114, 3) := by decide +kernel
theorem dX9_sleptBy_47 : decode cX9_sleptBy 47 = .ok (.iload_n 3, 1) := by decide +kernel
theorem dX9_sleptBy_48 : decode cX9_sleptBy 48 = .ok (.iconst 0, 1) := by decide +kernel
theorem dX9_sleptBy_49 : decode cX9_sleptBy 49 = .ok (.iconst 0, 1) := by decide +kernel
theorem dX9_sleptBy_50 : decode cX9_sleptBy 50 = .ok (.invokevirtual 152, 3) := by decide +kernel
theorem dX9_sleptBy_53 : decode cX9_sleptBy 53 = .ok (.istore_n 3, 1) := by decide +kernel
theorem dX9_sleptBy_54 : decode cX9_sleptBy 54 = .ok (.aload_n 2, 1) := by decide +kernel
theorem dX9_sleptBy_55 : decode cX9_sleptBy 55 = .ok (.iload 4, 2) := by decide +kernel
theorem dX9_sleptBy_57 : decode cX9_sleptBy 57 = .ok (.invokevirtual 220, 3) := by decide +kernel
theorem dX9_sleptBy_60 : decode cX9_sleptBy 60 = .ok (.iload_n 3, 1) := by decide +kernel
theorem dX9_sleptBy_61 : decode cX9_sleptBy 61 = .ok (.i2l, 1) := by decide +kernel
theorem dX9_sleptBy_62 : decode cX9_sleptBy 62 = .ok (.lcmp, 1) := by decide +kernel
theorem dX9_sleptBy_63 : decode cX9_sleptBy 63 = .ok (.ifCond .eq 5, 3) := by decide +kernel
theorem dX9_sleptBy_66 : decode cX9_sleptBy 66 = .ok (.iconst 0, 1) := by decide +kernel
theorem dX9_sleptBy_67 : decode cX9_sleptBy 67 = .ok (.ireturn, 1) := by decide +kernel
theorem dX9_sleptBy_68 : decode cX9_sleptBy 68 = .ok (.iinc 4 1, 3) := by decide +kernel
theorem dX9_sleptBy_71 : decode cX9_sleptBy 71 = .ok (.goto (-48), 3) := by decide +kernel
theorem dX9_sleptBy_74 : decode cX9_sleptBy 74 = .ok (.iconst 1, 1) := by decide +kernel
theorem dX9_sleptBy_75 : decode cX9_sleptBy 75 = .ok (.ireturn, 1) := by decide +kernel
theorem dX9_attempt_0 : decode cX9_attempt 0 = .ok (.aload_n 0, 1) := by decide +kernel
theorem dX9_attempt_1 : decode cX9_attempt 1 = .ok (.iload_n 1, 1) := by decide +kernel
theorem dX9_attempt_2 : decode cX9_attempt 2 = .ok (.invokevirtual 315, 3) := by decide +kernel
theorem dX9_attempt_5 : decode cX9_attempt 5 = .ok (.istore_n 2, 1) := by decide +kernel
theorem dX9_attempt_6 : decode cX9_attempt 6 = .ok (.iload_n 2, 1) := by decide +kernel
theorem dX9_attempt_7 : decode cX9_attempt 7 = .ok (.ifCond .eq 5, 3) := by decide +kernel
theorem dX9_attempt_10 : decode cX9_attempt 10 = .ok (.iload_n 2, 1) := by decide +kernel
theorem dX9_attempt_11 : decode cX9_attempt 11 = .ok (.ireturn, 1) := by decide +kernel
theorem dX9_attempt_12 : decode cX9_attempt 12 = .ok (.aload_n 0, 1) := by decide +kernel
theorem dX9_attempt_13 : decode cX9_attempt 13 = .ok (.getfield 28, 3) := by decide +kernel
theorem dX9_attempt_16 : decode cX9_attempt 16 = .ok (.getfield 137, 3) := by decide +kernel
theorem dX9_attempt_19 : decode cX9_attempt 19 = .ok (.ifCond .ne 6, 3) := by decide +kernel
theorem dX9_attempt_22 : decode cX9_attempt 22 = .ok (.bipush (-5), 2) := by decide +kernel
theorem dX9_attempt_24 : decode cX9_attempt 24 = .ok (.ireturn, 1) := by decide +kernel
theorem dX9_attempt_25 : decode cX9_attempt 25 = .ok (.aload_n 0, 1) := by decide +kernel
theorem dX9_attempt_26 : decode cX9_attempt 26 = .ok (.aload_n 0, 1) := by decide +kernel
theorem dX9_attempt_27 : decode cX9_attempt 27 = .ok (.getfield 48, 3) := by decide +kernel
theorem dX9_attempt_30 : decode cX9_attempt 30 = .ok (.iload_n 1, 1) := by decide +kernel
theorem dX9_attempt_31 : decode cX9_attempt 31 = .ok (.aaload, 1) := by decide +kernel
theorem dX9_attempt_32 : decode cX9_attempt 32 = .ok (.invokevirtual 318, 3) := by decide +kernel
theorem dX9_attempt_35 : decode cX9_attempt 35 = .ok (.istore_n 3, 1) := by decide +kernel
theorem dX9_attempt_36 : decode cX9_attempt 36 = .ok (.iload_n 3, 1) := by decide +kernel
theorem dX9_attempt_37 : decode cX9_attempt 37 = .ok (.ifCond .ne 5, 3) := by decide +kernel
theorem dX9_attempt_40 : decode cX9_attempt 40 = .ok (.iconst (-1), 1) := by decide +kernel
theorem dX9_attempt_41 : decode cX9_attempt 41 = .ok (.ireturn, 1) := by decide +kernel
theorem dX9_attempt_42 : decode cX9_attempt 42 = .ok (.aload_n 0, 1) := by decide +kernel
theorem dX9_attempt_43 : decode cX9_attempt 43 = .ok (.getfield 21, 3) := by decide +kernel
theorem dX9_attempt_46 : decode cX9_attempt 46 = .ok (.aload_n 0, 1) := by decide +kernel
theorem dX9_attempt_47 : decode cX9_attempt 47 = .ok (.getfield 28, 3) := by decide +kernel
theorem dX9_attempt_50 : decode cX9_attempt 50 = .ok (.getfield 114, 3) := by decide +kernel
theorem dX9_attempt_53 : decode cX9_attempt 53 = .ok (.invokevirtual 156, 3) := by decide +kernel
theorem dX9_attempt_56 : decode cX9_attempt 56 = .ok (.istore 4, 2) := by decide +kernel
theorem dX9_attempt_58 : decode cX9_attempt 58 = .ok (.iconst (-1), 1) := by decide +kernel
theorem dX9_attempt_59 : decode cX9_attempt 59 = .ok (.istore 5, 2) := by decide +kernel
theorem dX9_attempt_61 : decode cX9_attempt 61 = .ok (.bipush 11, 2) := by decide +kernel
theorem dX9_attempt_63 : decode cX9_attempt 63 = .ok (.istore 6, 2) := by decide +kernel
theorem dX9_attempt_65 : decode cX9_attempt 65 = .ok (.iconst 0, 1) := by decide +kernel
theorem dX9_attempt_66 : decode cX9_attempt 66 = .ok (.istore 7, 2) := by decide +kernel
theorem dX9_attempt_68 : decode cX9_attempt 68 = .ok (.iload 7, 2) := by decide +kernel
theorem dX9_attempt_70 : decode cX9_attempt 70 = .ok (.iconst 1, 1) := by decide +kernel
theorem dX9_attempt_71 : decode cX9_attempt 71 = .ok (.aload_n 0, 1) := by decide +kernel
theorem dX9_attempt_72 : decode cX9_attempt 72 = .ok (.getfield 21, 3) := by decide +kernel
theorem dX9_attempt_75 : decode cX9_attempt 75 = .ok (.getfield 111, 3) := by decide +kernel
theorem dX9_attempt_78 : decode cX9_attempt 78 = .ok (.ishl, 1) := by decide +kernel
theorem dX9_attempt_79 : decode cX9_attempt 79 = .ok (.if_icmp .ge 46, 3) := by decide +kernel
theorem dX9_attempt_82 : decode cX9_attempt 82 = .ok (.iload 7, 2) := by decide +kernel
theorem dX9_attempt_84 : decode cX9_attempt 84 = .ok (.iload 4, 2) := by decide +kernel
theorem dX9_attempt_86 : decode cX9_attempt 86 = .ok (.iand, 1) := by decide +kernel
theorem dX9_attempt_87 : decode cX9_attempt 87 = .ok (.ifCond .ne 13, 3) := by decide +kernel
theorem dX9_attempt_90 : decode cX9_attempt 90 = .ok (.aload_n 0, 1) := by decide +kernel
theorem dX9_attempt_91 : decode cX9_attempt 91 = .ok (.iload_n 3, 1) := by decide +kernel
theorem dX9_attempt_92 : decode cX9_attempt 92 = .ok (.iload 7, 2) := by decide +kernel
theorem dX9_attempt_94 : decode cX9_attempt 94 = .ok (.invokevirtual 328, 3) := by decide +kernel
theorem dX9_attempt_97 : decode cX9_attempt 97 = .ok (.goto 5, 3) := by decide +kernel
theorem dX9_attempt_100 : decode cX9_attempt 100 = .ok (.iload 6, 2) := by decide +kernel
theorem dX9_attempt_102 : decode cX9_attempt 102 = .ok (.istore 8, 2) := by decide +kernel
theorem dX9_attempt_104 : decode cX9_attempt 104 = .ok (.iload 8, 2) := by decide +kernel
theorem dX9_attempt_106 : decode cX9_attempt 106 = .ok (.iload 6, 2) := by decide +kernel
theorem dX9_attempt_108 : decode cX9_attempt 108 = .ok (.if_icmp .ge 11, 3) := by decide +kernel
theorem dX9_attempt_111 : decode cX9_attempt 111 = .ok (.iload 8, 2) := by decide +kernel
theorem dX9_attempt_113 : decode cX9_attempt 113 = .ok (.istore 6, 2) := by decide +kernel
theorem dX9_attempt_115 : decode cX9_attempt 115 = .ok (.iload 7, 2) := by decide +kernel
theorem dX9_attempt_117 : decode cX9_attempt 117 = .ok (.istore 5, 2) := by decide +kernel
theorem dX9_attempt_119 : decode cX9_attempt 119 = .ok (.iinc 7 1, 3) := by decide +kernel
theorem dX9_attempt_122 : decode cX9_attempt 122 = .ok (.goto (-54), 3) := by decide +kernel
theorem dX9_attempt_125 : decode cX9_attempt 125 = .ok (.iload 5, 2) := by decide +kernel
theorem dX9_attempt_127 : decode cX9_attempt 127 = .ok (.ireturn, 1) := by decide +kernel
theorem dX9_mostAlike_0 : decode cX9_mostAlike 0 = .ok (.aload_n 0, 1) := by decide +kernel
theorem dX9_mostAlike_1 : decode cX9_mostAlike 1 = .ok (.getfield 66, 3) := by decide +kernel
theorem dX9_mostAlike_4 : decode cX9_mostAlike 4 = .ok (.iconst 0, 1) := by decide +kernel
theorem dX9_mostAlike_5 : decode cX9_mostAlike 5 = .ok (.invokestatic 331, 3) := by decide +kernel
theorem dX9_mostAlike_8 : decode cX9_mostAlike 8 = .ok (.iconst 0, 1) := by decide +kernel
theorem dX9_mostAlike_9 : decode cX9_mostAlike 9 = .ok (.istore_n 3, 1) := by decide +kernel
theorem dX9_mostAlike_10 : decode cX9_mostAlike 10 = .ok (.iconst 0, 1) := by decide +kernel
theorem dX9_mostAlike_11 : decode cX9_mostAlike 11 = .ok (.istore 4, 2) := by decide +kernel
theorem dX9_mostAlike_13 : decode cX9_mostAlike 13 = .ok (.iload 4, 2) := by decide +kernel
theorem dX9_mostAlike_15 : decode cX9_mostAlike 15 = .ok (.bipush 10, 2) := by decide +kernel
theorem dX9_mostAlike_17 : decode cX9_mostAlike 17 = .ok (.if_icmp .ge 80, 3) := by decide +kernel
theorem dX9_mostAlike_20 : decode cX9_mostAlike 20 = .ok (.iload_n 1, 1) := by decide +kernel
theorem dX9_mostAlike_21 : decode cX9_mostAlike 21 = .ok (.iload 4, 2) := by decide +kernel
theorem dX9_mostAlike_23 : decode cX9_mostAlike 23 = .ok (.ishr, 1) := by decide +kernel
theorem dX9_mostAlike_24 : decode cX9_mostAlike 24 = .ok (.iconst 1, 1) := by decide +kernel
theorem dX9_mostAlike_25 : decode cX9_mostAlike 25 = .ok (.iand, 1) := by decide +kernel
theorem dX9_mostAlike_26 : decode cX9_mostAlike 26 = .ok (.iconst 1, 1) := by decide +kernel
theorem dX9_mostAlike_27 : decode cX9_mostAlike 27 = .ok (.if_icmp .ne 64, 3) := by decide +kernel
theorem dX9_mostAlike_30 : decode cX9_mostAlike 30 = .ok (.aload_n 0, 1) := by decide +kernel
theorem dX9_mostAlike_31 : decode cX9_mostAlike 31 = .ok (.getfield 55, 3) := by decide +kernel
theorem dX9_mostAlike_34 : decode cX9_mostAlike 34 = .ok (.aload_n 0, 1) := by decide +kernel
theorem dX9_mostAlike_35 : decode cX9_mostAlike 35 = .ok (.getfield 21, 3) := by decide +kernel
theorem dX9_mostAlike_38 : decode cX9_mostAlike 38 = .ok (.iload 4, 2) := by decide +kernel
theorem dX9_mostAlike_40 : decode cX9_mostAlike 40 = .ok (.invokevirtual 130, 3) := by decide +kernel
theorem dX9_mostAlike_43 : decode cX9_mostAlike 43 = .ok (.aload_n 0, 1) := by decide +kernel
theorem dX9_mostAlike_44 : decode cX9_mostAlike 44 = .ok (.getfield 55, 3) := by decide +kernel
theorem dX9_mostAlike_47 : decode cX9_mostAlike 47 = .ok (.aload_n 0, 1) := by decide +kernel
theorem dX9_mostAlike_48 : decode cX9_mostAlike 48 = .ok (.getfield 28, 3) := by decide +kernel
theorem dX9_mostAlike_51 : decode cX9_mostAlike 51 = .ok (.getfield 114, 3) := by decide +kernel
theorem dX9_mostAlike_54 : decode cX9_mostAlike 54 = .ok (.aload_n 0, 1) := by decide +kernel
theorem dX9_mostAlike_55 : decode cX9_mostAlike 55 = .ok (.getfield 28, 3) := by decide +kernel
theorem dX9_mostAlike_58 : decode cX9_mostAlike 58 = .ok (.getfield 137, 3) := by decide +kernel
theorem dX9_mostAlike_61 : decode cX9_mostAlike 61 = .ok (.iload_n 2, 1) := by decide +kernel
theorem dX9_mostAlike_62 : decode cX9_mostAlike 62 = .ok (.iconst 0, 1) := by decide +kernel
theorem dX9_mostAlike_63 : decode cX9_mostAlike 63 = .ok (.invokevirtual 152, 3) := by decide +kernel
theorem dX9_mostAlike_66 : decode cX9_mostAlike 66 = .ok (.istore 5, 2) := by decide +kernel
theorem dX9_mostAlike_68 : decode cX9_mostAlike 68 = .ok (.aload_n 0, 1) := by decide +kernel
theorem dX9_mostAlike_69 : decode cX9_mostAlike 69 = .ok (.getfield 66, 3) := by decide +kernel
theorem dX9_mostAlike_72 : decode cX9_mostAlike 72 = .ok (.iload 5, 2) := by decide +kernel
theorem dX9_mostAlike_74 : decode cX9_mostAlike 74 = .ok (.dup2, 1) := by decide +kernel
theorem dX9_mostAlike_75 : decode cX9_mostAlike 75 = .ok (.iaload, 1) := by decide +kernel
theorem dX9_mostAlike_76 : decode cX9_mostAlike 76 = .ok (.iconst 1, 1) := by decide +kernel
theorem dX9_mostAlike_77 : decode cX9_mostAlike 77 = .ok (.iadd, 1) := by decide +kernel
theorem dX9_mostAlike_78 : decode cX9_mostAlike 78 = .ok (.iastore, 1) := by decide +kernel
theorem dX9_mostAlike_79 : decode cX9_mostAlike 79 = .ok (.iload_n 3, 1) := by decide +kernel
theorem dX9_mostAlike_80 : decode cX9_mostAlike 80 = .ok (.aload_n 0, 1) := by decide +kernel
theorem dX9_mostAlike_81 : decode cX9_mostAlike 81 = .ok (.getfield 66, 3) := by decide +kernel
theorem dX9_mostAlike_84 : decode cX9_mostAlike 84 = .ok (.iload 5, 2) := by decide +kernel
theorem dX9_mostAlike_86 : decode cX9_mostAlike 86 = .ok (.iaload, 1) := by decide +kernel
theorem dX9_mostAlike_87 : decode cX9_mostAlike 87 = .ok (.invokestatic 305, 3) := by decide +kernel
theorem dX9_mostAlike_90 : decode cX9_mostAlike 90 = .ok (.istore_n 3, 1) := by decide +kernel
theorem dX9_mostAlike_91 : decode cX9_mostAlike 91 = .ok (.iinc 4 1, 3) := by decide +kernel
theorem dX9_mostAlike_94 : decode cX9_mostAlike 94 = .ok (.goto (-81), 3) := by decide +kernel
theorem dX9_mostAlike_97 : decode cX9_mostAlike 97 = .ok (.iload_n 3, 1) := by decide +kernel
theorem dX9_mostAlike_98 : decode cX9_mostAlike 98 = .ok (.ireturn, 1) := by decide +kernel
theorem dX9_layDares_0 : decode cX9_layDares 0 = .ok (.aload_n 0, 1) := by decide +kernel
theorem dX9_layDares_1 : decode cX9_layDares 1 = .ok (.getfield 337, 3) := by decide +kernel
theorem dX9_layDares_4 : decode cX9_layDares 4 = .ok (.ifnonnull 18, 3) := by decide +kernel
theorem dX9_layDares_7 : decode cX9_layDares 7 = .ok (.aload_n 0, 1) := by decide +kernel
theorem dX9_layDares_8 : decode cX9_layDares 8 = .ok (.new 341, 3) := by decide +kernel
theorem dX9_layDares_11 : decode cX9_layDares 11 = .ok (.dup, 1) := by decide +kernel
theorem dX9_layDares_12 : decode cX9_layDares 12 = .ok (.aload_n 0, 1) := by decide +kernel
theorem dX9_layDares_13 : decode cX9_layDares 13 = .ok (.getfield 55, 3) := by decide +kernel
theorem dX9_layDares_16 : decode cX9_layDares 16 = .ok (.invokespecial 343, 3) := by decide +kernel
theorem dX9_layDares_19 : decode cX9_layDares 19 = .ok (.putfield 337, 3) := by decide +kernel
theorem dX9_layDares_22 : decode cX9_layDares 22 = .ok (.aload_n 0, 1) := by decide +kernel
theorem dX9_layDares_23 : decode cX9_layDares 23 = .ok (.getfield 55, 3) := by decide +kernel
theorem dX9_layDares_26 : decode cX9_layDares 26 = .ok (.aload_n 0, 1) := by decide +kernel
theorem dX9_layDares_27 : decode cX9_layDares 27 = .ok (.getfield 21, 3) := by decide +kernel
theorem dX9_layDares_30 : decode cX9_layDares 30 = .ok (.aload_n 0, 1) := by decide +kernel
theorem dX9_layDares_31 : decode cX9_layDares 31 = .ok (.getfield 28, 3) := by decide +kernel
theorem dX9_layDares_34 : decode cX9_layDares 34 = .ok (.getfield 127, 3) := by decide +kernel
theorem dX9_layDares_37 : decode cX9_layDares 37 = .ok (.invokevirtual 130, 3) := by decide +kernel
theorem dX9_layDares_40 : decode cX9_layDares 40 = .ok (.aload_n 0, 1) := by decide +kernel
theorem dX9_layDares_41 : decode cX9_layDares 41 = .ok (.getfield 337, 3) := by decide +kernel
theorem dX9_layDares_44 : decode cX9_layDares 44 = .ok (.iload_n 1, 1) := by decide +kernel
theorem dX9_layDares_45 : decode cX9_layDares 45 = .ok (.invokevirtual 344, 3) := by decide +kernel
theorem dX9_layDares_48 : decode cX9_layDares 48 = .ok (.aload_n 0, 1) := by decide +kernel
theorem dX9_layDares_49 : decode cX9_layDares 49 = .ok (.getfield 337, 3) := by decide +kernel
theorem dX9_layDares_52 : decode cX9_layDares 52 = .ok (.areturn, 1) := by decide +kernel
theorem dX9_daring_0 : decode cX9_daring 0 = .ok (.aload_n 0, 1) := by decide +kernel
theorem dX9_daring_1 : decode cX9_daring 1 = .ok (.iload_n 1, 1) := by decide +kernel
theorem dX9_daring_2 : decode cX9_daring 2 = .ok (.i2l, 1) := by decide +kernel
theorem dX9_daring_3 : decode cX9_daring 3 = .ok (.invokevirtual 144, 3) := by decide +kernel
theorem dX9_daring_6 : decode cX9_daring 6 = .ok (.ifCond .ne 6, 3) := by decide +kernel
theorem dX9_daring_9 : decode cX9_daring 9 = .ok (.bipush (-3), 2) := by decide +kernel
theorem dX9_daring_11 : decode cX9_daring 11 = .ok (.ireturn, 1) := by decide +kernel
theorem dX9_daring_12 : decode cX9_daring 12 = .ok (.aload_n 0, 1) := by decide +kernel
theorem dX9_daring_13 : decode cX9_daring 13 = .ok (.getfield 28, 3) := by decide +kernel
theorem dX9_daring_16 : decode cX9_daring 16 = .ok (.getfield 137, 3) := by decide +kernel
theorem dX9_daring_19 : decode cX9_daring 19 = .ok (.ifCond .ne 6, 3) := by decide +kernel
theorem dX9_daring_22 : decode cX9_daring 22 = .ok (.bipush (-5), 2) := by decide +kernel
theorem dX9_daring_24 : decode cX9_daring 24 = .ok (.ireturn, 1) := by decide +kernel
theorem dX9_daring_25 : decode cX9_daring 25 = .ok (.aload_n 0, 1) := by decide +kernel
theorem dX9_daring_26 : decode cX9_daring 26 = .ok (.iload_n 1, 1) := by decide +kernel
theorem dX9_daring_27 : decode cX9_daring 27 = .ok (.invokevirtual 347, 3) := by decide +kernel
theorem dX9_daring_30 : decode cX9_daring 30 = .ok (.aload_n 0, 1) := by decide +kernel
theorem dX9_daring_31 : decode cX9_daring 31 = .ok (.getfield 28, 3) := by decide +kernel
theorem dX9_daring_34 : decode cX9_daring 34 = .ok (.getfield 114, 3) := by decide +kernel
theorem dX9_daring_37 : decode cX9_daring 37 = .ok (.aload_n 0, 1) := by decide +kernel

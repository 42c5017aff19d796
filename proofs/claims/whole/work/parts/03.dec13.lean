theorem dX10_goesBind_128 : decode cX10_goesBind 128 = .ok (.aload_n 0, 1) := by decide +kernel
theorem dX10_goesBind_129 : decode cX10_goesBind 129 = .ok (.iload_n 1, 1) := by decide +kernel
theorem dX10_goesBind_130 : decode cX10_goesBind 130 = .ok (.invokevirtual 393, 3) := by decide +kernel
theorem dX10_goesBind_133 : decode cX10_goesBind 133 = .ok (.return_, 1) := by decide +kernel
theorem dX10_goesBindLeft_0 : decode cX10_goesBindLeft 0 = .ok (.aload_n 0, 1) := by decide +kernel
theorem dX10_goesBindLeft_1 : decode cX10_goesBindLeft 1 = .ok (.getfield 60, 3) := by decide +kernel
theorem dX10_goesBindLeft_4 : decode cX10_goesBindLeft 4 = .ok (.iload_n 1, 1) := by decide +kernel
theorem dX10_goesBindLeft_5 : decode cX10_goesBindLeft 5 = .ok (.iload_n 1, 1) := by decide +kernel
theorem dX10_goesBindLeft_6 : decode cX10_goesBindLeft 6 = .ok (.iastore, 1) := by decide +kernel
theorem dX10_goesBindLeft_7 : decode cX10_goesBindLeft 7 = .ok (.aload_n 0, 1) := by decide +kernel
theorem dX10_goesBindLeft_8 : decode cX10_goesBindLeft 8 = .ok (.iload_n 1, 1) := by decide +kernel
theorem dX10_goesBindLeft_9 : decode cX10_goesBindLeft 9 = .ok (.iconst 1, 1) := by decide +kernel
theorem dX10_goesBindLeft_10 : decode cX10_goesBindLeft 10 = .ok (.iadd, 1) := by decide +kernel
theorem dX10_goesBindLeft_11 : decode cX10_goesBindLeft 11 = .ok (.iconst 0, 1) := by decide +kernel
theorem dX10_goesBindLeft_12 : decode cX10_goesBindLeft 12 = .ok (.invokevirtual 386, 3) := by decide +kernel
theorem dX10_goesBindLeft_15 : decode cX10_goesBindLeft 15 = .ok (.aload_n 0, 1) := by decide +kernel
theorem dX10_goesBindLeft_16 : decode cX10_goesBindLeft 16 = .ok (.getfield 60, 3) := by decide +kernel
theorem dX10_goesBindLeft_19 : decode cX10_goesBindLeft 19 = .ok (.iload_n 1, 1) := by decide +kernel
theorem dX10_goesBindLeft_20 : decode cX10_goesBindLeft 20 = .ok (.iconst (-1), 1) := by decide +kernel
theorem dX10_goesBindLeft_21 : decode cX10_goesBindLeft 21 = .ok (.iastore, 1) := by decide +kernel
theorem dX10_goesBindLeft_22 : decode cX10_goesBindLeft 22 = .ok (.return_, 1) := by decide +kernel
theorem dX10_laysWays_0 : decode cX10_laysWays 0 = .ok (.aload_n 0, 1) := by decide +kernel
theorem dX10_laysWays_1 : decode cX10_laysWays 1 = .ok (.iconst 0, 1) := by decide +kernel
theorem dX10_laysWays_2 : decode cX10_laysWays 2 = .ok (.putfield 371, 3) := by decide +kernel
theorem dX10_laysWays_5 : decode cX10_laysWays 5 = .ok (.aload_n 0, 1) := by decide +kernel
theorem dX10_laysWays_6 : decode cX10_laysWays 6 = .ok (.iconst 0, 1) := by decide +kernel
theorem dX10_laysWays_7 : decode cX10_laysWays 7 = .ok (.putfield 380, 3) := by decide +kernel
theorem dX10_laysWays_10 : decode cX10_laysWays 10 = .ok (.aload_n 0, 1) := by decide +kernel
theorem dX10_laysWays_11 : decode cX10_laysWays 11 = .ok (.iload_n 1, 1) := by decide +kernel
theorem dX10_laysWays_12 : decode cX10_laysWays 12 = .ok (.putfield 374, 3) := by decide +kernel
theorem dX10_laysWays_15 : decode cX10_laysWays 15 = .ok (.aload_n 0, 1) := by decide +kernel
theorem dX10_laysWays_16 : decode cX10_laysWays 16 = .ok (.iload_n 2, 1) := by decide +kernel
theorem dX10_laysWays_17 : decode cX10_laysWays 17 = .ok (.putfield 377, 3) := by decide +kernel
theorem dX10_laysWays_20 : decode cX10_laysWays 20 = .ok (.iconst 0, 1) := by decide +kernel
theorem dX10_laysWays_21 : decode cX10_laysWays 21 = .ok (.istore_n 3, 1) := by decide +kernel
theorem dX10_laysWays_22 : decode cX10_laysWays 22 = .ok (.iload_n 3, 1) := by decide +kernel
theorem dX10_laysWays_23 : decode cX10_laysWays 23 = .ok (.bipush 8, 2) := by decide +kernel
theorem dX10_laysWays_25 : decode cX10_laysWays 25 = .ok (.if_icmp .ge 16, 3) := by decide +kernel
theorem dX10_laysWays_28 : decode cX10_laysWays 28 = .ok (.aload_n 0, 1) := by decide +kernel
theorem dX10_laysWays_29 : decode cX10_laysWays 29 = .ok (.getfield 60, 3) := by decide +kernel
theorem dX10_laysWays_32 : decode cX10_laysWays 32 = .ok (.iload_n 3, 1) := by decide +kernel
theorem dX10_laysWays_33 : decode cX10_laysWays 33 = .ok (.iconst (-1), 1) := by decide +kernel
theorem dX10_laysWays_34 : decode cX10_laysWays 34 = .ok (.iastore, 1) := by decide +kernel
theorem dX10_laysWays_35 : decode cX10_laysWays 35 = .ok (.iinc 3 1, 3) := by decide +kernel
theorem dX10_laysWays_38 : decode cX10_laysWays 38 = .ok (.goto (-16), 3) := by decide +kernel
theorem dX10_laysWays_41 : decode cX10_laysWays 41 = .ok (.aload_n 0, 1) := by decide +kernel
theorem dX10_laysWays_42 : decode cX10_laysWays 42 = .ok (.iconst 0, 1) := by decide +kernel
theorem dX10_laysWays_43 : decode cX10_laysWays 43 = .ok (.aload_n 0, 1) := by decide +kernel
theorem dX10_laysWays_44 : decode cX10_laysWays 44 = .ok (.getfield 13, 3) := by decide +kernel
theorem dX10_laysWays_47 : decode cX10_laysWays 47 = .ok (.iconst 4, 1) := by decide +kernel
theorem dX10_laysWays_48 : decode cX10_laysWays 48 = .ok (.iaload, 1) := by decide +kernel
theorem dX10_laysWays_49 : decode cX10_laysWays 49 = .ok (.iconst 2, 1) := by decide +kernel
theorem dX10_laysWays_50 : decode cX10_laysWays 50 = .ok (.irem, 1) := by decide +kernel
theorem dX10_laysWays_51 : decode cX10_laysWays 51 = .ok (.iconst 1, 1) := by decide +kernel
theorem dX10_laysWays_52 : decode cX10_laysWays 52 = .ok (.if_icmp .ne 7, 3) := by decide +kernel
theorem dX10_laysWays_55 : decode cX10_laysWays 55 = .ok (.iconst 1, 1) := by decide +kernel
theorem dX10_laysWays_56 : decode cX10_laysWays 56 = .ok (.goto 4, 3) := by decide +kernel
theorem dX10_laysWays_59 : decode cX10_laysWays 59 = .ok (.iconst 0, 1) := by decide +kernel
theorem dX10_laysWays_60 : decode cX10_laysWays 60 = .ok (.invokevirtual 386, 3) := by decide +kernel
theorem dX10_laysWays_63 : decode cX10_laysWays 63 = .ok (.aload_n 0, 1) := by decide +kernel
theorem dX10_laysWays_64 : decode cX10_laysWays 64 = .ok (.getfield 371, 3) := by decide +kernel
theorem dX10_laysWays_67 : decode cX10_laysWays 67 = .ok (.ireturn, 1) := by decide +kernel
theorem dX10_isPerson_0 : decode cX10_isPerson 0 = .ok (.iload_n 1, 1) := by decide +kernel
theorem dX10_isPerson_1 : decode cX10_isPerson 1 = .ok (.i2l, 1) := by decide +kernel
theorem dX10_isPerson_2 : decode cX10_isPerson 2 = .ok (.lconst 0, 1) := by decide +kernel
theorem dX10_isPerson_3 : decode cX10_isPerson 3 = .ok (.aload_n 0, 1) := by decide +kernel
theorem dX10_isPerson_4 : decode cX10_isPerson 4 = .ok (.getfield 13, 3) := by decide +kernel
theorem dX10_isPerson_7 : decode cX10_isPerson 7 = .ok (.iconst 4, 1) := by decide +kernel
theorem dX10_isPerson_8 : decode cX10_isPerson 8 = .ok (.iaload, 1) := by decide +kernel
theorem dX10_isPerson_9 : decode cX10_isPerson 9 = .ok (.iconst 1, 1) := by decide +kernel
theorem dX10_isPerson_10 : decode cX10_isPerson 10 = .ok (.isub, 1) := by decide +kernel
theorem dX10_isPerson_11 : decode cX10_isPerson 11 = .ok (.i2l, 1) := by decide +kernel
theorem dX10_isPerson_12 : decode cX10_isPerson 12 = .ok (.invokestatic 152, 3) := by decide +kernel
theorem dX10_isPerson_15 : decode cX10_isPerson 15 = .ok (.ireturn, 1) := by decide +kernel
theorem dX10_notSelf_0 : decode cX10_notSelf 0 = .ok (.iload_n 0, 1) := by decide +kernel
theorem dX10_notSelf_1 : decode cX10_notSelf 1 = .ok (.iload_n 1, 1) := by decide +kernel
theorem dX10_notSelf_2 : decode cX10_notSelf 2 = .ok (.if_icmp .ne 7, 3) := by decide +kernel
theorem dX10_notSelf_5 : decode cX10_notSelf 5 = .ok (.iconst (-1), 1) := by decide +kernel
theorem dX10_notSelf_6 : decode cX10_notSelf 6 = .ok (.goto 4, 3) := by decide +kernel
theorem dX10_notSelf_9 : decode cX10_notSelf 9 = .ok (.iload_n 0, 1) := by decide +kernel
theorem dX10_notSelf_10 : decode cX10_notSelf 10 = .ok (.ireturn, 1) := by decide +kernel
theorem dX10_ways_0 : decode cX10_ways 0 = .ok (.aload_n 0, 1) := by decide +kernel
theorem dX10_ways_1 : decode cX10_ways 1 = .ok (.iconst 0, 1) := by decide +kernel
theorem dX10_ways_2 : decode cX10_ways 2 = .ok (.putfield 1, 3) := by decide +kernel
theorem dX10_ways_5 : decode cX10_ways 5 = .ok (.aload_n 0, 1) := by decide +kernel
theorem dX10_ways_6 : decode cX10_ways 6 = .ok (.iconst (-1), 1) := by decide +kernel
theorem dX10_ways_7 : decode cX10_ways 7 = .ok (.iconst (-1), 1) := by decide +kernel
theorem dX10_ways_8 : decode cX10_ways 8 = .ok (.invokevirtual 294, 3) := by decide +kernel
theorem dX10_ways_11 : decode cX10_ways 11 = .ok (.ireturn, 1) := by decide +kernel
theorem dX10_first_0 : decode cX10_first 0 = .ok (.aload_n 0, 1) := by decide +kernel
theorem dX10_first_1 : decode cX10_first 1 = .ok (.iconst 0, 1) := by decide +kernel
theorem dX10_first_2 : decode cX10_first 2 = .ok (.putfield 1, 3) := by decide +kernel
theorem dX10_first_5 : decode cX10_first 5 = .ok (.aload_n 0, 1) := by decide +kernel
theorem dX10_first_6 : decode cX10_first 6 = .ok (.iload_n 1, 1) := by decide +kernel
theorem dX10_first_7 : decode cX10_first 7 = .ok (.invokevirtual 396, 3) := by decide +kernel
theorem dX10_first_10 : decode cX10_first 10 = .ok (.ifCond .ne 6, 3) := by decide +kernel
theorem dX10_first_13 : decode cX10_first 13 = .ok (.bipush (-2), 2) := by decide +kernel
theorem dX10_first_15 : decode cX10_first 15 = .ok (.ireturn, 1) := by decide +kernel
theorem dX10_first_16 : decode cX10_first 16 = .ok (.aload_n 0, 1) := by decide +kernel
theorem dX10_first_17 : decode cX10_first 17 = .ok (.iconst (-1), 1) := by decide +kernel
theorem dX10_first_18 : decode cX10_first 18 = .ok (.iconst (-1), 1) := by decide +kernel
theorem dX10_first_19 : decode cX10_first 19 = .ok (.invokevirtual 294, 3) := by decide +kernel
theorem dX10_first_22 : decode cX10_first 22 = .ok (.ifCond .ne 7, 3) := by decide +kernel
theorem dX10_first_25 : decode cX10_first 25 = .ok (.iconst (-1), 1) := by decide +kernel
theorem dX10_first_26 : decode cX10_first 26 = .ok (.goto 13, 3) := by decide +kernel
theorem dX10_first_29 : decode cX10_first 29 = .ok (.aload_n 0, 1) := by decide +kernel
theorem dX10_first_30 : decode cX10_first 30 = .ok (.getfield 63, 3) := by decide +kernel
theorem dX10_first_33 : decode cX10_first 33 = .ok (.iload_n 1, 1) := by decide +kernel
theorem dX10_first_34 : decode cX10_first 34 = .ok (.iaload, 1) := by decide +kernel
theorem dX10_first_35 : decode cX10_first 35 = .ok (.iload_n 1, 1) := by decide +kernel
theorem dX10_first_36 : decode cX10_first 36 = .ok (.invokestatic 399, 3) := by decide +kernel
theorem dX10_first_39 : decode cX10_first 39 = .ok (.ireturn, 1) := by decide +kernel
theorem dX10_surely_0 : decode cX10_surely 0 = .ok (.aload_n 0, 1) := by decide +kernel
theorem dX10_surely_1 : decode cX10_surely 1 = .ok (.iconst 0, 1) := by decide +kernel
theorem dX10_surely_2 : decode cX10_surely 2 = .ok (.putfield 1, 3) := by decide +kernel
theorem dX10_surely_5 : decode cX10_surely 5 = .ok (.aload_n 0, 1) := by decide +kernel
theorem dX10_surely_6 : decode cX10_surely 6 = .ok (.iload_n 1, 1) := by decide +kernel
theorem dX10_surely_7 : decode cX10_surely 7 = .ok (.invokevirtual 396, 3) := by decide +kernel
theorem dX10_surely_10 : decode cX10_surely 10 = .ok (.ifCond .ne 6, 3) := by decide +kernel
theorem dX10_surely_13 : decode cX10_surely 13 = .ok (.bipush (-2), 2) := by decide +kernel
theorem dX10_surely_15 : decode cX10_surely 15 = .ok (.ireturn, 1) := by decide +kernel
theorem dX10_surely_16 : decode cX10_surely 16 = .ok (.aload_n 0, 1) := by decide +kernel
theorem dX10_surely_17 : decode cX10_surely 17 = .ok (.iconst (-1), 1) := by decide +kernel
theorem dX10_surely_18 : decode cX10_surely 18 = .ok (.iconst (-1), 1) := by decide +kernel
theorem dX10_surely_19 : decode cX10_surely 19 = .ok (.invokevirtual 294, 3) := by decide +kernel
theorem dX10_surely_22 : decode cX10_surely 22 = .ok (.ifCond .ne 7, 3) := by decide +kernel
theorem dX10_surely_25 : decode cX10_surely 25 = .ok (.iconst (-1), 1) := by decide +kernel
theorem dX10_surely_26 : decode cX10_surely 26 = .ok (.goto 13, 3) := by decide +kernel
theorem dX10_surely_29 : decode cX10_surely 29 = .ok (.aload_n 0, 1) := by decide +kernel
theorem dX10_surely_30 : decode cX10_surely 30 = .ok (.getfield 66, 3) := by decide +kernel
theorem dX10_surely_33 : decode cX10_surely 33 = .ok (.iload_n 1, 1) := by decide +kernel
theorem dX10_surely_34 : decode cX10_surely 34 = .ok (.iaload, 1) := by decide +kernel
theorem dX10_surely_35 : decode cX10_surely 35 = .ok (.iload_n 1, 1) := by decide +kernel
theorem dX10_surely_36 : decode cX10_surely 36 = .ok (.invokestatic 399, 3) := by decide +kernel
theorem dX10_surely_39 : decode cX10_surely 39 = .ok (.ireturn, 1) := by decide +kernel
theorem dX10_common_0 : decode cX10_common 0 = .ok (.iload_n 1, 1) := by decide +kernel
theorem dX10_common_1 : decode cX10_common 1 = .ok (.ifCond .ne 7, 3) := by decide +kernel
theorem dX10_common_4 : decode cX10_common 4 = .ok (.iload_n 0, 1) := by decide +kernel
theorem dX10_common_5 : decode cX10_common 5 = .ok (.goto 10, 3) := by decide +kernel
theorem dX10_common_8 : decode cX10_common 8 = .ok (.iload_n 1, 1) := by decide +kernel
theorem dX10_common_9 : decode cX10_common 9 = .ok (.iload_n 0, 1) := by decide +kernel
theorem dX10_common_10 : decode cX10_common 10 = .ok (.iload_n 1, 1) := by decide +kernel
theorem dX10_common_11 : decode cX10_common 11 = .ok (.irem, 1) := by decide +kernel
theorem dX10_common_12 : decode cX10_common 12 = .ok (.invokestatic 402, 3) := by decide +kernel
theorem dX10_common_15 : decode cX10_common 15 = .ok (.ireturn, 1) := by decide +kernel
theorem dX10_part_0 : decode cX10_part 0 = .ok (.iload_n 2, 1) := by decide +kernel
theorem dX10_part_1 : decode cX10_part 1 = .ok (.ifCond .ne 7, 3) := by decide +kernel
theorem dX10_part_4 : decode cX10_part 4 = .ok (.iload_n 0, 1) := by decide +kernel
theorem dX10_part_5 : decode cX10_part 5 = .ok (.goto 4, 3) := by decide +kernel
theorem dX10_part_8 : decode cX10_part 8 = .ok (.iload_n 1, 1) := by decide +kernel
theorem dX10_part_9 : decode cX10_part 9 = .ok (.iload_n 0, 1) := by decide +kernel
theorem dX10_part_10 : decode cX10_part 10 = .ok (.iload_n 1, 1) := by decide +kernel
theorem dX10_part_11 : decode cX10_part 11 = .ok (.invokestatic 402, 3) := by decide +kernel
theorem dX10_part_14 : decode cX10_part 14 = .ok (.idiv, 1) := by decide +kernel
theorem dX10_part_15 : decode cX10_part 15 = .ok (.ireturn, 1) := by decide +kernel
theorem dX10_odds_0 : decode cX10_odds 0 = .ok (.aload_n 0, 1) := by decide +kernel
theorem dX10_odds_1 : decode cX10_odds 1 = .ok (.iconst 0, 1) := by decide +kernel
theorem dX10_odds_2 : decode cX10_odds 2 = .ok (.putfield 1, 3) := by decide +kernel
theorem dX10_odds_5 : decode cX10_odds 5 = .ok (.aload_n 0, 1) := by decide +kernel
theorem dX10_odds_6 : decode cX10_odds 6 = .ok (.iload_n 1, 1) := by decide +kernel
theorem dX10_odds_7 : decode cX10_odds 7 = .ok (.i2l, 1) := by decide +kernel
theorem dX10_odds_8 : decode cX10_odds 8 = .ok (.iload_n 2, 1) := by decide +kernel
theorem dX10_odds_9 : decode cX10_odds 9 = .ok (.i2l, 1) := by decide +kernel
theorem dX10_odds_10 : decode cX10_odds 10 = .ok (.invokevirtual 290, 3) := by decide +kernel
theorem dX10_odds_13 : decode cX10_odds 13 = .ok (.ifCond .eq 13, 3) := by decide +kernel
theorem dX10_odds_16 : decode cX10_odds 16 = .ok (.iload_n 3, 1) := by decide +kernel
theorem dX10_odds_17 : decode cX10_odds 17 = .ok (.i2l, 1) := by decide +kernel
theorem dX10_odds_18 : decode cX10_odds 18 = .ok (.lconst 0, 1) := by decide +kernel
theorem dX10_odds_19 : decode cX10_odds 19 = .ok (.lconst 1, 1) := by decide +kernel
theorem dX10_odds_20 : decode cX10_odds 20 = .ok (.invokestatic 152, 3) := by decide +kernel
theorem dX10_odds_23 : decode cX10_odds 23 = .ok (.ifCond .ne 6, 3) := by decide +kernel
theorem dX10_odds_26 : decode cX10_odds 26 = .ok (.bipush (-2), 2) := by decide +kernel
theorem dX10_odds_28 : decode cX10_odds 28 = .ok (.ireturn, 1) := by decide +kernel
theorem dX10_odds_29 : decode cX10_odds 29 = .ok (.aload_n 0, 1) := by decide +kernel
theorem dX10_odds_30 : decode cX10_odds 30 = .ok (.iload_n 1, 1) := by decide +kernel
theorem dX10_odds_31 : decode cX10_odds 31 = .ok (.iload_n 2, 1) := by decide +kernel
theorem dX10_odds_32 : decode cX10_odds 32 = .ok (.invokevirtual 294, 3) := by decide +kernel
theorem dX10_odds_35 : decode cX10_odds 35 = .ok (.ifCond .ne 7, 3) := by decide +kernel
theorem dX10_odds_38 : decode cX10_odds 38 = .ok (.iconst (-1), 1) := by decide +kernel
theorem dX10_odds_39 : decode cX10_odds 39 = .ok (.goto 15, 3) := by decide +kernel
theorem dX10_odds_42 : decode cX10_odds 42 = .ok (.aload_n 0, 1) := by decide +kernel
theorem dX10_odds_43 : decode cX10_odds 43 = .ok (.getfield 380, 3) := by decide +kernel
theorem dX10_odds_46 : decode cX10_odds 46 = .ok (.aload_n 0, 1) := by decide +kernel
theorem dX10_odds_47 : decode cX10_odds 47 = .ok (.getfield 371, 3) := by decide +kernel
theorem dX10_odds_50 : decode cX10_odds 50 = .ok (.iload_n 3, 1) := by decide +kernel
theorem dX10_odds_51 : decode cX10_odds 51 = .ok (.invokestatic 405, 3) := by decide +kernel
theorem dX10_odds_54 : decode cX10_odds 54 = .ok (.ireturn, 1) := by decide +kernel
theorem dX10_clause_0 : decode cX10_clause 0 = .ok (.aload_n 0, 1) := by decide +kernel
theorem dX10_clause_1 : decode cX10_clause 1 = .ok (.iconst 0, 1) := by decide +kernel
theorem dX10_clause_2 : decode cX10_clause 2 = .ok (.putfield 1, 3) := by decide +kernel
theorem dX10_clause_5 : decode cX10_clause 5 = .ok (.iconst (-1), 1) := by decide +kernel
theorem dX10_clause_6 : decode cX10_clause 6 = .ok (.istore_n 1, 1) := by decide +kernel
theorem dX10_clause_7 : decode cX10_clause 7 = .ok (.ldc_w 350, 3) := by decide +kernel
theorem dX10_clause_10 : decode cX10_clause 10 = .ok (.istore_n 2, 1) := by decide +kernel
theorem dX10_clause_11 : decode cX10_clause 11 = .ok (.iconst 0, 1) := by decide +kernel
theorem dX10_clause_12 : decode cX10_clause 12 = .ok (.istore_n 3, 1) := by decide +kernel
theorem dX10_clause_13 : decode cX10_clause 13 = .ok (.iload_n 3, 1) := by decide +kernel
theorem dX10_clause_14 : decode cX10_clause 14 = .ok (.aload_n 0, 1) := by decide +kernel
theorem dX10_clause_15 : decode cX10_clause 15 = .ok (.getfield 13, 3) := by decide +kernel
theorem dX10_clause_18 : decode cX10_clause 18 = .ok (.iconst 4, 1) := by decide +kernel
theorem dX10_clause_19 : decode cX10_clause 19 = .ok (.iaload, 1) := by decide +kernel
theorem dX10_clause_20 : decode cX10_clause 20 = .ok (.if_icmp .ge 97, 3) := by decide +kernel
theorem dX10_clause_23 : decode cX10_clause 23 = .ok (.iload_n 3, 1) := by decide +kernel
theorem dX10_clause_24 : decode cX10_clause 24 = .ok (.iconst 1, 1) := by decide +kernel
theorem dX10_clause_25 : decode cX10_clause 25 = .ok (.iadd, 1) := by decide +kernel
theorem dX10_clause_26 : decode cX10_clause 26 = .ok (.istore 4, 2) := by decide +kernel
theorem dX10_clause_28 : decode cX10_clause 28 = .ok (.iload 4, 2) := by decide +kernel
theorem dX10_clause_30 : decode cX10_clause 30 = .ok (.aload_n 0, 1) := by decide +kernel
theorem dX10_clause_31 : decode cX10_clause 31 = .ok (.getfield 13, 3) := by decide +kernel
theorem dX10_clause_34 : decode cX10_clause 34 = .ok (.iconst 4, 1) := by decide +kernel
theorem dX10_clause_35 : decode cX10_clause 35 = .ok (.iaload, 1) := by decide +kernel
theorem dX10_clause_36 : decode cX10_clause 36 = .ok (.if_icmp .ge 75, 3) := by decide +kernel
theorem dX10_clause_39 : decode cX10_clause 39 = .ok (.aload_n 0, 1) := by decide +kernel
theorem dX10_clause_40 : decode cX10_clause 40 = .ok (.iload_n 3, 1) := by decide +kernel
theorem dX10_clause_41 : decode cX10_clause 41 = .ok (.iload 4, 2) := by decide +kernel
theorem dX10_clause_43 : decode cX10_clause 43 = .ok (.invokevirtual 294, 3) := by decide +kernel
theorem dX10_clause_46 : decode cX10_clause 46 = .ok (.ifCond .ne 5, 3) := by decide +kernel
theorem dX10_clause_49 : decode cX10_clause 49 = .ok (.iconst (-1), 1) := by decide +kernel
theorem dX10_clause_50 : decode cX10_clause 50 = .ok (.ireturn, 1) := by decide +kernel
theorem dX10_clause_51 : decode cX10_clause 51 = .ok (.aload_n 0, 1) := by decide +kernel
theorem dX10_clause_52 : decode cX10_clause 52 = .ok (.getfield 380, 3) := by decide +kernel
theorem dX10_clause_55 : decode cX10_clause 55 = .ok (.aload_n 0, 1) := by decide +kernel
theorem dX10_clause_56 : decode cX10_clause 56 = .ok (.getfield 371, 3) := by decide +kernel
theorem dX10_clause_59 : decode cX10_clause 59 = .ok (.aload_n 0, 1) := by decide +kernel
theorem dX10_clause_60 : decode cX10_clause 60 = .ok (.getfield 380, 3) := by decide +kernel
theorem dX10_clause_63 : decode cX10_clause 63 = .ok (.isub, 1) := by decide +kernel
theorem dX10_clause_64 : decode cX10_clause 64 = .ok (.if_icmp .le 10, 3) := by decide +kernel
theorem dX10_clause_67 : decode cX10_clause 67 = .ok (.aload_n 0, 1) := by decide +kernel
theorem dX10_clause_68 : decode cX10_clause 68 = .ok (.getfield 380, 3) := by decide +kernel
theorem dX10_clause_71 : decode cX10_clause 71 = .ok (.goto 12, 3) := by decide +kernel
theorem dX10_clause_74 : decode cX10_clause 74 = .ok (.aload_n 0, 1) := by decide +kernel
theorem dX10_clause_75 : decode cX10_clause 75 = .ok (.getfield 371, 3) := by decide +kernel
theorem dX10_clause_78 : decode cX10_clause 78 = .ok (.aload_n 0, 1) := by decide +kernel
theorem dX10_clause_79 : decode cX10_clause 79 = .ok (.getfield 380, 3) := by decide +kernel
theorem dX10_clause_82 : decode cX10_clause 82 = .ok (.isub, 1) := by decide +kernel
theorem dX10_clause_83 : decode cX10_clause 83 = .ok (.istore 5, 2) := by decide +kernel
theorem dX10_clause_85 : decode cX10_clause 85 = .ok (.iload 5, 2) := by decide +kernel
theorem dX10_clause_87 : decode cX10_clause 87 = .ok (.iload_n 2, 1) := by decide +kernel
theorem dX10_clause_88 : decode cX10_clause 88 = .ok (.if_icmp .lt 6, 3) := by decide +kernel
theorem dX10_clause_91 : decode cX10_clause 91 = .ok (.goto 14, 3) := by decide +kernel
theorem dX10_clause_94 : decode cX10_clause 94 = .ok (.bipush 10, 2) := by decide +kernel
theorem dX10_clause_96 : decode cX10_clause 96 = .ok (.iload_n 3, 1) := by decide +kernel
theorem dX10_clause_97 : decode cX10_clause 97 = .ok (.imul, 1) := by decide +kernel
theorem dX10_clause_98 : decode cX10_clause 98 = .ok (.iload 4, 2) := by decide +kernel
theorem dX10_clause_100 : decode cX10_clause 100 = .ok (.iadd, 1) := by decide +kernel
theorem dX10_clause_101 : decode cX10_clause 101 = .ok (.istore_n 1, 1) := by decide +kernel
theorem dX10_clause_102 : decode cX10_clause 102 = .ok (.iload 5, 2) := by decide +kernel
theorem dX10_clause_104 : decode cX10_clause 104 = .ok (.istore_n 2, 1) := by decide +kernel
theorem dX10_clause_105 : decode cX10_clause 105 = .ok (.iinc 4 1, 3) := by decide +kernel
theorem dX10_clause_108 : decode cX10_clause 108 = .ok (.goto (-80), 3) := by decide +kernel
theorem dX10_clause_111 : decode cX10_clause 111 = .ok (.iinc 3 1, 3) := by decide +kernel
theorem dX10_clause_114 : decode cX10_clause 114 = .ok (.goto (-101), 3) := by decide +kernel
theorem dX10_clause_117 : decode cX10_clause 117 = .ok (.iload_n 1, 1) := by decide +kernel
theorem dX10_clause_118 : decode cX10_clause 118 = .ok (.ireturn, 1) := by decide +kernel
theorem dX10_hints_0 : decode cX10_hints 0 = .ok (.aload_n 0, 1) := by decide +kernel
theorem dX10_hints_1 : decode cX10_hints 1 = .ok (.iconst 0, 1) := by decide +kernel
theorem dX10_hints_2 : decode cX10_hints 2 = .ok (.putfield 1, 3) := by decide +kernel
theorem dX10_hints_5 : decode cX10_hints 5 = .ok (.iload_n 1, 1) := by decide +kernel
theorem dX10_hints_6 : decode cX10_hints 6 = .ok (.i2l, 1) := by decide +kernel
theorem dX10_hints_7 : decode cX10_hints 7 = .ok (.lconst 0, 1) := by decide +kernel
theorem dX10_hints_8 : decode cX10_hints 8 = .ok (.lconst 1, 1) := by decide +kernel
theorem dX10_hints_9 : decode cX10_hints 9 = .ok (.invokestatic 152, 3) := by decide +kernel
theorem dX10_hints_12 : decode cX10_hints 12 = .ok (.ifCond .ne 6, 3) := by decide +kernel
theorem dX10_hints_15 : decode cX10_hints 15 = .ok (.bipush (-2), 2) := by decide +kernel
theorem dX10_hints_17 : decode cX10_hints 17 = .ok (.ireturn, 1) := by decide +kernel
theorem dX10_hints_18 : decode cX10_hints 18 = .ok (.iconst 0, 1) := by decide +kernel
theorem dX10_hints_19 : decode cX10_hints 19 = .ok (.istore_n 2, 1) := by decide +kernel
theorem dX10_hints_20 : decode cX10_hints 20 = .ok (.iconst 0, 1) := by decide +kernel
theorem dX10_hints_21 : decode cX10_hints 21 = .ok (.istore_n 3, 1) := by decide +kernel
theorem dX10_hints_22 : decode cX10_hints 22 = .ok (.iload_n 3, 1) := by decide +kernel
theorem dX10_hints_23 : decode cX10_hints 23 = .ok (.bipush 8, 2) := by decide +kernel
theorem dX10_hints_25 : decode cX10_hints 25 = .ok (.if_icmp .ge 34, 3) := by decide +kernel
theorem dX10_hints_28 : decode cX10_hints 28 = .ok (.iload_n 2, 1) := by decide +kernel
theorem dX10_hints_29 : decode cX10_hints 29 = .ok (.aload_n 0, 1) := by decide +kernel
theorem dX10_hints_30 : decode cX10_hints 30 = .ok (.getfield 13, 3) := by decide +kernel
theorem dX10_hints_33 : decode cX10_hints 33 = .ok (.iload_n 1, 1) := by decide +kernel
theorem dX10_hints_34 : decode cX10_hints 34 = .ok (.iconst 1, 1) := by decide +kernel
theorem dX10_hints_35 : decode cX10_hints 35 = .ok (.if_icmp .ne 8, 3) := by decide +kernel
theorem dX10_hints_38 : decode cX10_hints 38 = .ok (.bipush 29, 2) := by decide +kernel
theorem dX10_hints_40 : decode cX10_hints 40 = .ok (.goto 5, 3) := by decide +kernel
theorem dX10_hints_43 : decode cX10_hints 43 = .ok (.bipush 37, 2) := by decide +kernel
theorem dX10_hints_45 : decode cX10_hints 45 = .ok (.iload_n 3, 1) := by decide +kernel
theorem dX10_hints_46 : decode cX10_hints 46 = .ok (.iadd, 1) := by decide +kernel
theorem dX10_hints_47 : decode cX10_hints 47 = .ok (.iaload, 1) := by decide +kernel
theorem dX10_hints_48 : decode cX10_hints 48 = .ok (.invokestatic 253, 3) := by decide +kernel
theorem dX10_hints_51 : decode cX10_hints 51 = .ok (.iadd, 1) := by decide +kernel
theorem dX10_hints_52 : decode cX10_hints 52 = .ok (.istore_n 2, 1) := by decide +kernel
theorem dX10_hints_53 : decode cX10_hints 53 = .ok (.iinc 3 1, 3) := by decide +kernel
theorem dX10_hints_56 : decode cX10_hints 56 = .ok (.goto (-34), 3) := by decide +kernel
theorem dX10_hints_59 : decode cX10_hints 59 = .ok (.iload_n 2, 1) := by decide +kernel
theorem dX10_hints_60 : decode cX10_hints 60 = .ok (.iconst 2, 1) := by decide +kernel
theorem dX10_hints_61 : decode cX10_hints 61 = .ok (.idiv, 1) := by decide +kernel
theorem dX10_hints_62 : decode cX10_hints 62 = .ok (.ireturn, 1) := by decide +kernel
theorem dX10_noSlept_0 : decode cX10_noSlept 0 = .ok (.aload_n 0, 1) := by decide +kernel
theorem dX10_noSlept_1 : decode cX10_noSlept 1 = .ok (.iload_n 1, 1) := by decide +kernel
theorem dX10_noSlept_2 : decode cX10_noSlept 2 = .ok (.invokevirtual 323, 3) := by decide +kernel
theorem dX10_noSlept_5 : decode cX10_noSlept 5 = .ok (.istore_n 2, 1) := by decide +kernel
theorem dX10_noSlept_6 : decode cX10_noSlept 6 = .ok (.iload_n 2, 1) := by decide +kernel
theorem dX10_noSlept_7 : decode cX10_noSlept 7 = .ok (.ifCond .eq 5, 3) := by decide +kernel
theorem dX10_noSlept_10 : decode cX10_noSlept 10 = .ok (.iload_n 2, 1) := by decide +kernel
theorem dX10_noSlept_11 : decode cX10_noSlept 11 = .ok (.ireturn, 1) := by decide +kernel
theorem dX10_noSlept_12 : decode cX10_noSlept 12 = .ok (.aload_n 0, 1) := by decide +kernel
theorem dX10_noSlept_13 : decode cX10_noSlept 13 = .ok (.getfield 80, 3) := by decide +kernel
theorem dX10_noSlept_16 : decode cX10_noSlept 16 = .ok (.iload_n 1, 1) := by decide +kernel
theorem dX10_noSlept_17 : decode cX10_noSlept 17 = .ok (.iaload, 1) := by decide +kernel
theorem dX10_noSlept_18 : decode cX10_noSlept 18 = .ok (.i2l, 1) := by decide +kernel
theorem dX10_noSlept_19 : decode cX10_noSlept 19 = .ok (.lconst 1, 1) := by decide +kernel
theorem dX10_noSlept_20 : decode cX10_noSlept 20 = .ok (.ldc2_w 299, 3) := by decide +kernel
theorem dX10_noSlept_23 : decode cX10_noSlept 23 = .ok (.invokestatic 152, 3) := by decide +kernel
theorem dX10_noSlept_26 : decode cX10_noSlept 26 = .ok (.ifCond .ne 6, 3) := by decide +kernel
theorem dX10_noSlept_29 : decode cX10_noSlept 29 = .ok (.bipush (-4), 2) := by decide +kernel
theorem dX10_noSlept_31 : decode cX10_noSlept 31 = .ok (.ireturn, 1) := by decide +kernel
theorem dX10_noSlept_32 : decode cX10_noSlept 32 = .ok (.iconst 0, 1) := by decide +kernel
theorem dX10_noSlept_33 : decode cX10_noSlept 33 = .ok (.istore_n 3, 1) := by decide +kernel
theorem dX10_noSlept_34 : decode cX10_noSlept 34 = .ok (.iload_n 3, 1) := by decide +kernel
theorem dX10_noSlept_35 : decode cX10_noSlept 35 = .ok (.aload_n 0, 1) := by decide +kernel
theorem dX10_noSlept_36 : decode cX10_noSlept 36 = .ok (.getfield 80, 3) := by decide +kernel
theorem dX10_noSlept_39 : decode cX10_noSlept 39 = .ok (.iload_n 1, 1) := by decide +kernel
theorem dX10_noSlept_40 : decode cX10_noSlept 40 = .ok (.iaload, 1) := by decide +kernel
theorem dX10_noSlept_41 : decode cX10_noSlept 41 = .ok (.if_icmp .ge 33, 3) := by decide +kernel
theorem dX10_noSlept_44 : decode cX10_noSlept 44 = .ok (.aload_n 0, 1) := by decide +kernel
theorem dX10_noSlept_45 : decode cX10_noSlept 45 = .ok (.getfield 83, 3) := by decide +kernel
theorem dX10_noSlept_48 : decode cX10_noSlept 48 = .ok (.bipush 40, 2) := by decide +kernel
theorem dX10_noSlept_50 : decode cX10_noSlept 50 = .ok (.iload_n 1, 1) := by decide +kernel
theorem dX10_noSlept_51 : decode cX10_noSlept 51 = .ok (.imul, 1) := by decide +kernel
theorem dX10_noSlept_52 : decode cX10_noSlept 52 = .ok (.iload_n 3, 1) := by decide +kernel
theorem dX10_noSlept_53 : decode cX10_noSlept 53 = .ok (.iadd, 1) := by decide +kernel
theorem dX10_noSlept_54 : decode cX10_noSlept 54 = .ok (.laload, 1) := by decide +kernel
theorem dX10_noSlept_55 : decode cX10_noSlept 55 = .ok (.lconst 0, 1) := by decide +kernel
theorem dX10_noSlept_56 : decode cX10_noSlept 56 = .ok (.ldc2_w 297, 3) := by decide +kernel
theorem dX10_noSlept_59 : decode cX10_noSlept 59 = .ok (.invokestatic 152, 3) := by decide +kernel
theorem dX10_noSlept_62 : decode cX10_noSlept 62 = .ok (.ifCond .ne 6, 3) := by decide +kernel
theorem dX10_noSlept_65 : decode cX10_noSlept 65 = .ok (.bipush (-3), 2) := by decide +kernel
theorem dX10_noSlept_67 : decode cX10_noSlept 67 = .ok (.ireturn, 1) := by decide +kernel
theorem dX10_noSlept_68 : decode cX10_noSlept 68 = .ok (.iinc 3 1, 3) := by decide +kernel
theorem dX10_noSlept_71 : decode cX10_noSlept 71 = .ok (.goto (-37), 3) := by decide +kernel
theorem dX10_noSlept_74 : decode cX10_noSlept 74 = .ok (.iconst 0, 1) := by decide +kernel
theorem dX10_noSlept_75 : decode cX10_noSlept 75 = .ok (.ireturn, 1) := by decide +kernel
theorem dX10_draughtsOf_0 : decode cX10_draughtsOf 0 = .ok (.iconst 0, 1) := by decide +kernel
theorem dX10_draughtsOf_1 : decode cX10_draughtsOf 1 = .ok (.istore_n 2, 1) := by decide +kernel
theorem dX10_draughtsOf_2 : decode cX10_draughtsOf 2 = .ok (.iconst 0, 1) := by decide +kernel
theorem dX10_draughtsOf_3 : decode cX10_draughtsOf 3 = .ok (.istore_n 3, 1) := by decide +kernel
theorem dX10_draughtsOf_4 : decode cX10_draughtsOf 4 = .ok (.iload_n 3, 1) := by decide +kernel
theorem dX10_draughtsOf_5 : decode cX10_draughtsOf 5 = .ok (.bipush 10, 2) := by decide +kernel
theorem dX10_draughtsOf_7 : decode cX10_draughtsOf 7 = .ok (.if_icmp .ge 109, 3) := by decide +kernel
theorem dX10_draughtsOf_10 : decode cX10_draughtsOf 10 = .ok (.aload_n 0, 1) := by decide +kernel
theorem dX10_draughtsOf_11 : decode cX10_draughtsOf 11 = .ok (.invokevirtual 266, 3) := by decide +kernel
theorem dX10_draughtsOf_14 : decode cX10_draughtsOf 14 = .ok (.istore 4, 2) := by decide +kernel
theorem dX10_draughtsOf_16 : decode cX10_draughtsOf 16 = .ok (.iconst 1, 1) := by decide +kernel
theorem dX10_draughtsOf_17 : decode cX10_draughtsOf 17 = .ok (.istore 5, 2) := by decide +kernel
theorem dX10_draughtsOf_19 : decode cX10_draughtsOf 19 = .ok (.iconst 0, 1) := by decide +kernel
theorem dX10_draughtsOf_20 : decode cX10_draughtsOf 20 = .ok (.istore 6, 2) := by decide +kernel
theorem dX10_draughtsOf_22 : decode cX10_draughtsOf 22 = .ok (.iload 6, 2) := by decide +kernel
theorem dX10_draughtsOf_24 : decode cX10_draughtsOf 24 = .ok (.aload_n 0, 1) := by decide +kernel
theorem dX10_draughtsOf_25 : decode cX10_draughtsOf 25 = .ok (.getfield 80, 3) := by decide +kernel
theorem dX10_draughtsOf_28 : decode cX10_draughtsOf 28 = .ok (.iload_n 1, 1) := by decide +kernel
theorem dX10_draughtsOf_29 : decode cX10_draughtsOf 29 = .ok (.iaload, 1) := by decide +kernel
theorem dX10_draughtsOf_30 : decode cX10_draughtsOf 30 = .ok (.if_icmp .ge 65, 3) := by decide +kernel
theorem dX10_draughtsOf_33 : decode cX10_draughtsOf 33 = .ok (.iload 4, 2) := by decide +kernel
theorem dX10_draughtsOf_35 : decode cX10_draughtsOf 35 = .ok (.invokestatic 231, 3) := by decide +kernel
theorem dX10_draughtsOf_38 : decode cX10_draughtsOf 38 = .ok (.ifCond .ne 8, 3) := by decide +kernel
theorem dX10_draughtsOf_41 : decode cX10_draughtsOf 41 = .ok (.iload 4, 2) := by decide +kernel
theorem dX10_draughtsOf_43 : decode cX10_draughtsOf 43 = .ok (.goto 12, 3) := by decide +kernel
theorem dX10_draughtsOf_46 : decode cX10_draughtsOf 46 = .ok (.aload_n 0, 1) := by decide +kernel
theorem dX10_draughtsOf_47 : decode cX10_draughtsOf 47 = .ok (.iload 4, 2) := by decide +kernel
theorem dX10_draughtsOf_49 : decode cX10_draughtsOf 49 = .ok (.iconst 0, 1) := by decide +kernel
theorem dX10_draughtsOf_50 : decode cX10_draughtsOf 50 = .ok (.iconst 0, 1) := by decide +kernel
theorem dX10_draughtsOf_51 : decode cX10_draughtsOf 51 = .ok (.iload_n 3, 1) := by decide +kernel
theorem dX10_draughtsOf_52 : decode cX10_draughtsOf 52 = .ok (.invokevirtual 273, 3) := by decide +kernel
theorem dX10_draughtsOf_55 : decode cX10_draughtsOf 55 = .ok (.istore 4, 2) := by decide +kernel
theorem dX10_draughtsOf_57 : decode cX10_draughtsOf 57 = .ok (.iload 5, 2) := by decide +kernel
theorem dX10_draughtsOf_59 : decode cX10_draughtsOf 59 = .ok (.iload 4, 2) := by decide +kernel
theorem dX10_draughtsOf_61 : decode cX10_draughtsOf 61 = .ok (.invokestatic 231, 3) := by decide +kernel
theorem dX10_draughtsOf_64 : decode cX10_draughtsOf 64 = .ok (.i2l, 1) := by decide +kernel
theorem dX10_draughtsOf_65 : decode cX10_draughtsOf 65 = .ok (.aload_n 0, 1) := by decide +kernel
theorem dX10_draughtsOf_66 : decode cX10_draughtsOf 66 = .ok (.getfield 83, 3) := by decide +kernel
theorem dX10_draughtsOf_69 : decode cX10_draughtsOf 69 = .ok (.bipush 40, 2) := by decide +kernel
theorem dX10_draughtsOf_71 : decode cX10_draughtsOf 71 = .ok (.iload_n 1, 1) := by decide +kernel
theorem dX10_draughtsOf_72 : decode cX10_draughtsOf 72 = .ok (.imul, 1) := by decide +kernel
theorem dX10_draughtsOf_73 : decode cX10_draughtsOf 73 = .ok (.iload 6, 2) := by decide +kernel
theorem dX10_draughtsOf_75 : decode cX10_draughtsOf 75 = .ok (.iadd, 1) := by decide +kernel
theorem dX10_draughtsOf_76 : decode cX10_draughtsOf 76 = .ok (.laload, 1) := by decide +kernel
theorem dX10_draughtsOf_77 : decode cX10_draughtsOf 77 = .ok (.lcmp, 1) := by decide +kernel
theorem dX10_draughtsOf_78 : decode cX10_draughtsOf 78 = .ok (.ifCond .ne 7, 3) := by decide +kernel
theorem dX10_draughtsOf_81 : decode cX10_draughtsOf 81 = .ok (.iconst 1, 1) := by decide +kernel
theorem dX10_draughtsOf_82 : decode cX10_draughtsOf 82 = .ok (.goto 4, 3) := by decide +kernel
theorem dX10_draughtsOf_85 : decode cX10_draughtsOf 85 = .ok (.iconst 0, 1) := by decide +kernel
theorem dX10_draughtsOf_86 : decode cX10_draughtsOf 86 = .ok (.iand, 1) := by decide +kernel
theorem dX10_draughtsOf_87 : decode cX10_draughtsOf 87 = .ok (.istore 5, 2) := by decide +kernel
theorem dX10_draughtsOf_89 : decode cX10_draughtsOf 89 = .ok (.iinc 6 1, 3) := by decide +kernel
theorem dX10_draughtsOf_92 : decode cX10_draughtsOf 92 = .ok (.goto (-70), 3) := by decide +kernel
theorem dX10_draughtsOf_95 : decode cX10_draughtsOf 95 = .ok (.iload_n 2, 1) := by decide +kernel
theorem dX10_draughtsOf_96 : decode cX10_draughtsOf 96 = .ok (.iload 5, 2) := by decide +kernel
theorem dX10_draughtsOf_98 : decode cX10_draughtsOf 98 = .ok (.ifCond .eq 9, 3) := by decide +kernel
theorem dX10_draughtsOf_101 : decode cX10_draughtsOf 101 = .ok (.iconst 1, 1) := by decide +kernel
theorem dX10_draughtsOf_102 : decode cX10_draughtsOf 102 = .ok (.iload_n 3, 1) := by decide +kernel
theorem dX10_draughtsOf_103 : decode cX10_draughtsOf 103 = .ok (.ishl, 1) := by decide +kernel
theorem dX10_draughtsOf_104 : decode cX10_draughtsOf 104 = .ok (.goto 4, 3) := by decide +kernel
theorem dX10_draughtsOf_107 : decode cX10_draughtsOf 107 = .ok (.iconst 0, 1) := by decide +kernel
theorem dX10_draughtsOf_108 : decode cX10_draughtsOf 108 = .ok (.ior, 1) := by decide +kernel
theorem dX10_draughtsOf_109 : decode cX10_draughtsOf 109 = .ok (.istore_n 2, 1) := by decide +kernel
theorem dX10_draughtsOf_110 : decode cX10_draughtsOf 110 = .ok (.iinc 3 1, 3) := by decide +kernel
theorem dX10_draughtsOf_113 : decode cX10_draughtsOf 113 = .ok (.goto (-109), 3) := by decide +kernel
theorem dX10_draughtsOf_116 : decode cX10_draughtsOf 116 = .ok (.iload_n 2, 1) := by decide +kernel
theorem dX10_draughtsOf_117 : decode cX10_draughtsOf 117 = .ok (.ireturn, 1) := by decide +kernel
theorem dX10_draughts_0 : decode cX10_draughts 0 = .ok (.aload_n 0, 1) := by decide +kernel
theorem dX10_draughts_1 : decode cX10_draughts 1 = .ok (.iconst 0, 1) := by decide +kernel
theorem dX10_draughts_2 : decode cX10_draughts 2 = .ok (.putfield 1, 3) := by decide +kernel
theorem dX10_draughts_5 : decode cX10_draughts 5 = .ok (.aload_n 0, 1) := by decide +kernel
theorem dX10_draughts_6 : decode cX10_draughts 6 = .ok (.iload_n 1, 1) := by decide +kernel
theorem dX10_draughts_7 : decode cX10_draughts 7 = .ok (.invokevirtual 408, 3) := by decide +kernel
theorem dX10_draughts_10 : decode cX10_draughts 10 = .ok (.istore_n 2, 1) := by decide +kernel
theorem dX10_draughts_11 : decode cX10_draughts 11 = .ok (.iload_n 2, 1) := by decide +kernel
theorem dX10_draughts_12 : decode cX10_draughts 12 = .ok (.ifCond .eq 7, 3) := by decide +kernel
theorem dX10_draughts_15 : decode cX10_draughts 15 = .ok (.iload_n 2, 1) := by decide +kernel
theorem dX10_draughts_16 : decode cX10_draughts 16 = .ok (.goto 8, 3) := by decide +kernel
theorem dX10_draughts_19 : decode cX10_draughts 19 = .ok (.aload_n 0, 1) := by decide +kernel
theorem dX10_draughts_20 : decode cX10_draughts 20 = .ok (.iload_n 1, 1) := by decide +kernel
theorem dX10_draughts_21 : decode cX10_draughts 21 = .ok (.invokevirtual 411, 3) := by decide +kernel
theorem dX10_draughts_24 : decode cX10_draughts 24 = .ok (.ireturn, 1) := by decide +kernel
theorem dX10_mostOften_0 : decode cX10_mostOften 0 = .ok (.iconst 0, 1) := by decide +kernel
theorem dX10_mostOften_1 : decode cX10_mostOften 1 = .ok (.istore_n 3, 1) := by decide +kernel
theorem dX10_mostOften_2 : decode cX10_mostOften 2 = .ok (.iconst 0, 1) := by decide +kernel
theorem dX10_mostOften_3 : decode cX10_mostOften 3 = .ok (.istore 4, 2) := by decide +kernel
theorem dX10_mostOften_5 : decode cX10_mostOften 5 = .ok (.iload 4, 2) := by decide +kernel
theorem dX10_mostOften_7 : decode cX10_mostOften 7 = .ok (.bipush 9, 2) := by decide +kernel
theorem dX10_mostOften_9 : decode cX10_mostOften 9 = .ok (.if_icmp .gt 17, 3) := by decide +kernel
theorem dX10_mostOften_12 : decode cX10_mostOften 12 = .ok (.aload_n 0, 1) := by decide +kernel
theorem dX10_mostOften_13 : decode cX10_mostOften 13 = .ok (.getfield 69, 3) := by decide +kernel
theorem dX10_mostOften_16 : decode cX10_mostOften 16 = .ok (.iload 4, 2) := by decide +kernel
theorem dX10_mostOften_18 : decode cX10_mostOften 18 = .ok (.iconst 0, 1) := by decide +kernel
theorem dX10_mostOften_19 : decode cX10_mostOften 19 = .ok (.iastore, 1) := by decide +kernel
theorem dX10_mostOften_20 : decode cX10_mostOften 20 = .ok (.iinc 4 1, 3) := by decide +kernel
theorem dX10_mostOften_23 : decode cX10_mostOften 23 = .ok (.goto (-18), 3) := by decide +kernel
theorem dX10_mostOften_26 : decode cX10_mostOften 26 = .ok (.iconst 0, 1) := by decide +kernel
theorem dX10_mostOften_27 : decode cX10_mostOften 27 = .ok (.istore 4, 2) := by decide +kernel
theorem dX10_mostOften_29 : decode cX10_mostOften 29 = .ok (.iload 4, 2) := by decide +kernel
theorem dX10_mostOften_31 : decode cX10_mostOften 31 = .ok (.bipush 10, 2) := by decide +kernel
theorem dX10_mostOften_33 : decode cX10_mostOften 33 = .ok (.if_icmp .ge 73, 3) := by decide +kernel
theorem dX10_mostOften_36 : decode cX10_mostOften 36 = .ok (.iload_n 2, 1) := by decide +kernel
theorem dX10_mostOften_37 : decode cX10_mostOften 37 = .ok (.i2l, 1) := by decide +kernel
theorem dX10_mostOften_38 : decode cX10_mostOften 38 = .ok (.iload 4, 2) := by decide +kernel
theorem dX10_mostOften_40 : decode cX10_mostOften 40 = .ok (.invokestatic 245, 3) := by decide +kernel
theorem dX10_mostOften_43 : decode cX10_mostOften 43 = .ok (.ifCond .ne 6, 3) := by decide +kernel
theorem dX10_mostOften_46 : decode cX10_mostOften 46 = .ok (.goto 54, 3) := by decide +kernel
theorem dX10_mostOften_49 : decode cX10_mostOften 49 = .ok (.aload_n 0, 1) := by decide +kernel
theorem dX10_mostOften_50 : decode cX10_mostOften 50 = .ok (.aload_n 0, 1) := by decide +kernel
theorem dX10_mostOften_51 : decode cX10_mostOften 51 = .ok (.invokevirtual 266, 3) := by decide +kernel
theorem dX10_mostOften_54 : decode cX10_mostOften 54 = .ok (.iload_n 1, 1) := by decide +kernel
theorem dX10_mostOften_55 : decode cX10_mostOften 55 = .ok (.iconst 0, 1) := by decide +kernel
theorem dX10_mostOften_56 : decode cX10_mostOften 56 = .ok (.iload 4, 2) := by decide +kernel
theorem dX10_mostOften_58 : decode cX10_mostOften 58 = .ok (.invokevirtual 273, 3) := by decide +kernel
theorem dX10_mostOften_61 : decode cX10_mostOften 61 = .ok (.invokestatic 231, 3) := by decide +kernel
theorem dX10_mostOften_64 : decode cX10_mostOften 64 = .ok (.istore 5, 2) := by decide +kernel
theorem dX10_mostOften_66 : decode cX10_mostOften 66 = .ok (.aload_n 0, 1) := by decide +kernel
theorem dX10_mostOften_67 : decode cX10_mostOften 67 = .ok (.getfield 69, 3) := by decide +kernel
theorem dX10_mostOften_70 : decode cX10_mostOften 70 = .ok (.iload 5, 2) := by decide +kernel
theorem dX10_mostOften_72 : decode cX10_mostOften 72 = .ok (.dup2, 1) := by decide +kernel
theorem dX10_mostOften_73 : decode cX10_mostOften 73 = .ok (.iaload, 1) := by decide +kernel
theorem dX10_mostOften_74 : decode cX10_mostOften 74 = .ok (.iconst 1, 1) := by decide +kernel
theorem dX10_mostOften_75 : decode cX10_mostOften 75 = .ok (.iadd, 1) := by decide +kernel
theorem dX10_mostOften_76 : decode cX10_mostOften 76 = .ok (.iastore, 1) := by decide +kernel
theorem dX10_mostOften_77 : decode cX10_mostOften 77 = .ok (.aload_n 0, 1) := by decide +kernel
theorem dX10_mostOften_78 : decode cX10_mostOften 78 = .ok (.getfield 69, 3) := by decide +kernel
theorem dX10_mostOften_81 : decode cX10_mostOften 81 = .ok (.iload 5, 2) := by decide +kernel
theorem dX10_mostOften_83 : decode cX10_mostOften 83 = .ok (.iaload, 1) := by decide +kernel
theorem dX10_mostOften_84 : decode cX10_mostOften 84 = .ok (.iload_n 3, 1) := by decide +kernel
theorem dX10_mostOften_85 : decode cX10_mostOften 85 = .ok (.if_icmp .le 13, 3) := by decide +kernel
theorem dX10_mostOften_88 : decode cX10_mostOften 88 = .ok (.aload_n 0, 1) := by decide +kernel
theorem dX10_mostOften_89 : decode cX10_mostOften 89 = .ok (.getfield 69, 3) := by decide +kernel
theorem dX10_mostOften_92 : decode cX10_mostOften 92 = .ok (.iload 5, 2) := by decide +kernel
theorem dX10_mostOften_94 : decode cX10_mostOften 94 = .ok (.iaload, 1) := by decide +kernel
theorem dX10_mostOften_95 : decode cX10_mostOften 95 = .ok (.goto 4, 3) := by decide +kernel
theorem dX10_mostOften_98 : decode cX10_mostOften 98 = .ok (.iload_n 3, 1) := by decide +kernel
theorem dX10_mostOften_99 : decode cX10_mostOften 99 = .ok (.istore_n 3, 1) := by decide +kernel
theorem dX10_mostOften_100 : decode cX10_mostOften 100 = .ok (.iinc 4 1, 3) := by decide +kernel
theorem dX10_mostOften_103 : decode cX10_mostOften 103 = .ok (.goto (-74), 3) := by decide +kernel
theorem dX10_mostOften_106 : decode cX10_mostOften 106 = .ok (.iload_n 3, 1) := by decide +kernel
theorem dX10_mostOften_107 : decode cX10_mostOften 107 = .ok (.ireturn, 1) := by decide +kernel
theorem dX10_attempt_0 : decode cX10_attempt 0 = .ok (.aload_n 0, 1) := by decide +kernel
theorem dX10_attempt_1 : decode cX10_attempt 1 = .ok (.iconst 0, 1) := by decide +kernel
theorem dX10_attempt_2 : decode cX10_attempt 2 = .ok (.putfield 1, 3) := by decide +kernel
theorem dX10_attempt_5 : decode cX10_attempt 5 = .ok (.aload_n 0, 1) := by decide +kernel
theorem dX10_attempt_6 : decode cX10_attempt 6 = .ok (.iload_n 1, 1) := by decide +kernel
theorem dX10_attempt_7 : decode cX10_attempt 7 = .ok (.invokevirtual 408, 3) := by decide +kernel
theorem dX10_attempt_10 : decode cX10_attempt 10 = .ok (.istore_n 2, 1) := by decide +kernel
theorem dX10_attempt_11 : decode cX10_attempt 11 = .ok (.iload_n 2, 1) := by decide +kernel
theorem dX10_attempt_12 : decode cX10_attempt 12 = .ok (.ifCond .eq 5, 3) := by decide +kernel
theorem dX10_attempt_15 : decode cX10_attempt 15 = .ok (.iload_n 2, 1) := by decide +kernel
theorem dX10_attempt_16 : decode cX10_attempt 16 = .ok (.ireturn, 1) := by decide +kernel
theorem dX10_attempt_17 : decode cX10_attempt 17 = .ok (.aload_n 0, 1) := by decide +kernel
theorem dX10_attempt_18 : decode cX10_attempt 18 = .ok (.getfield 13, 3) := by decide +kernel
theorem dX10_attempt_21 : decode cX10_attempt 21 = .ok (.bipush 26, 2) := by decide +kernel
theorem dX10_attempt_23 : decode cX10_attempt 23 = .ok (.iaload, 1) := by decide +kernel
theorem dX10_attempt_24 : decode cX10_attempt 24 = .ok (.ifCond .ne 6, 3) := by decide +kernel
theorem dX10_attempt_27 : decode cX10_attempt 27 = .ok (.bipush (-5), 2) := by decide +kernel
theorem dX10_attempt_29 : decode cX10_attempt 29 = .ok (.ireturn, 1) := by decide +kernel
theorem dX10_attempt_30 : decode cX10_attempt 30 = .ok (.aload_n 0, 1) := by decide +kernel
theorem dX10_attempt_31 : decode cX10_attempt 31 = .ok (.iload_n 1, 1) := by decide +kernel
theorem dX10_attempt_32 : decode cX10_attempt 32 = .ok (.invokevirtual 411, 3) := by decide +kernel
theorem dX10_attempt_35 : decode cX10_attempt 35 = .ok (.istore_n 3, 1) := by decide +kernel
theorem dX10_attempt_36 : decode cX10_attempt 36 = .ok (.iconst (-1), 1) := by decide +kernel
theorem dX10_attempt_37 : decode cX10_attempt 37 = .ok (.istore 4, 2) := by decide +kernel
theorem dX10_attempt_39 : decode cX10_attempt 39 = .ok (.ldc_w 350, 3) := by decide +kernel
theorem dX10_attempt_42 : decode cX10_attempt 42 = .ok (.istore 5, 2) := by decide +kernel
theorem dX10_attempt_44 : decode cX10_attempt 44 = .ok (.iconst 0, 1) := by decide +kernel
theorem dX10_attempt_45 : decode cX10_attempt 45 = .ok (.istore 6, 2) := by decide +kernel
theorem dX10_attempt_47 : decode cX10_attempt 47 = .ok (.iload 6, 2) := by decide +kernel
theorem dX10_attempt_49 : decode cX10_attempt 49 = .ok (.iconst 1, 1) := by decide +kernel
theorem dX10_attempt_50 : decode cX10_attempt 50 = .ok (.aload_n 0, 1) := by decide +kernel
theorem dX10_attempt_51 : decode cX10_attempt 51 = .ok (.getfield 13, 3) := by decide +kernel
theorem dX10_attempt_54 : decode cX10_attempt 54 = .ok (.iconst 3, 1) := by decide +kernel
theorem dX10_attempt_55 : decode cX10_attempt 55 = .ok (.iaload, 1) := by decide +kernel
theorem dX10_attempt_56 : decode cX10_attempt 56 = .ok (.ishl, 1) := by decide +kernel
theorem dX10_attempt_57 : decode cX10_attempt 57 = .ok (.if_icmp .ge 57, 3) := by decide +kernel
theorem dX10_attempt_60 : decode cX10_attempt 60 = .ok (.iload_n 3, 1) := by decide +kernel
theorem dX10_attempt_61 : decode cX10_attempt 61 = .ok (.ifCond .eq 53, 3) := by decide +kernel
theorem dX10_attempt_64 : decode cX10_attempt 64 = .ok (.aload_n 0, 1) := by decide +kernel
theorem dX10_attempt_65 : decode cX10_attempt 65 = .ok (.aload_n 0, 1) := by decide +kernel
theorem dX10_attempt_66 : decode cX10_attempt 66 = .ok (.invokevirtual 266, 3) := by decide +kernel
theorem dX10_attempt_69 : decode cX10_attempt 69 = .ok (.iload 6, 2) := by decide +kernel
theorem dX10_attempt_71 : decode cX10_attempt 71 = .ok (.i2l, 1) := by decide +kernel
theorem dX10_attempt_72 : decode cX10_attempt 72 = .ok (.invokevirtual 269, 3) := by decide +kernel
theorem dX10_attempt_75 : decode cX10_attempt 75 = .ok (.ifCond .eq 6, 3) := by decide +kernel
theorem dX10_attempt_78 : decode cX10_attempt 78 = .ok (.goto 30, 3) := by decide +kernel
theorem dX10_attempt_81 : decode cX10_attempt 81 = .ok (.aload_n 0, 1) := by decide +kernel
theorem dX10_attempt_82 : decode cX10_attempt 82 = .ok (.iload 6, 2) := by decide +kernel
theorem dX10_attempt_84 : decode cX10_attempt 84 = .ok (.iload_n 3, 1) := by decide +kernel
theorem dX10_attempt_85 : decode cX10_attempt 85 = .ok (.invokevirtual 414, 3) := by decide +kernel
theorem dX10_attempt_88 : decode cX10_attempt 88 = .ok (.istore 7, 2) := by decide +kernel
theorem dX10_attempt_90 : decode cX10_attempt 90 = .ok (.iload 7, 2) := by decide +kernel
theorem dX10_attempt_92 : decode cX10_attempt 92 = .ok (.iload 5, 2) := by decide +kernel
theorem dX10_attempt_94 : decode cX10_attempt 94 = .ok (.if_icmp .lt 6, 3) := by decide +kernel
theorem dX10_attempt_97 : decode cX10_attempt 97 = .ok (.goto 11, 3) := by decide +kernel
theorem dX10_attempt_100 : decode cX10_attempt 100 = .ok (.iload 6, 2) := by decide +kernel
theorem dX10_attempt_102 : decode cX10_attempt 102 = .ok (.istore 4, 2) := by decide +kernel
theorem dX10_attempt_104 : decode cX10_attempt 104 = .ok (.iload 7, 2) := by decide +kernel
theorem dX10_attempt_106 : decode cX10_attempt 106 = .ok (.istore 5, 2) := by decide +kernel
theorem dX10_attempt_108 : decode cX10_attempt 108 = .ok (.iinc 6 1, 3) := by decide +kernel
theorem dX10_attempt_111 : decode cX10_attempt 111 = .ok (.goto (-64), 3) := by decide +kernel
theorem dX10_attempt_114 : decode cX10_attempt 114 = .ok (.iload 4, 2) := by decide +kernel
theorem dX10_attempt_116 : decode cX10_attempt 116 = .ok (.ireturn, 1) := by decide +kernel
theorem dX10_daresFrom_0 : decode cX10_daresFrom 0 = .ok (.aload_n 0, 1) := by decide +kernel
theorem dX10_daresFrom_1 : decode cX10_daresFrom 1 = .ok (.iload_n 1, 1) := by decide +kernel
theorem dX10_daresFrom_2 : decode cX10_daresFrom 2 = .ok (.invokevirtual 256, 3) := by decide +kernel
theorem dX10_daresFrom_5 : decode cX10_daresFrom 5 = .ok (.iconst 1, 1) := by decide +kernel
theorem dX10_daresFrom_6 : decode cX10_daresFrom 6 = .ok (.aload_n 0, 1) := by decide +kernel
theorem dX10_daresFrom_7 : decode cX10_daresFrom 7 = .ok (.getfield 13, 3) := by decide +kernel
theorem dX10_daresFrom_10 : decode cX10_daresFrom 10 = .ok (.iconst 3, 1) := by decide +kernel
theorem dX10_daresFrom_11 : decode cX10_daresFrom 11 = .ok (.iaload, 1) := by decide +kernel
theorem dX10_daresFrom_12 : decode cX10_daresFrom 12 = .ok (.ishl, 1) := by decide +kernel
theorem dX10_daresFrom_13 : decode cX10_daresFrom 13 = .ok (.iconst 1, 1) := by decide +kernel
theorem dX10_daresFrom_14 : decode cX10_daresFrom 14 = .ok (.isub, 1) := by decide +kernel
theorem dX10_daresFrom_15 : decode cX10_daresFrom 15 = .ok (.if_icmp .ne 5, 3) := by decide +kernel
theorem dX10_daresFrom_18 : decode cX10_daresFrom 18 = .ok (.iconst 0, 1) := by decide +kernel
theorem dX10_daresFrom_19 : decode cX10_daresFrom 19 = .ok (.ireturn, 1) := by decide +kernel
theorem dX10_daresFrom_20 : decode cX10_daresFrom 20 = .ok (.iconst 2, 1) := by decide +kernel
theorem dX10_daresFrom_21 : decode cX10_daresFrom 21 = .ok (.iload_n 1, 1) := by decide +kernel
theorem dX10_daresFrom_22 : decode cX10_daresFrom 22 = .ok (.imul, 1) := by decide +kernel
theorem dX10_daresFrom_23 : decode cX10_daresFrom 23 = .ok (.iload_n 3, 1) := by decide +kernel
theorem dX10_daresFrom_24 : decode cX10_daresFrom 24 = .ok (.ifCond .eq 7, 3) := by decide +kernel
theorem dX10_daresFrom_27 : decode cX10_daresFrom 27 = .ok (.iconst 0, 1) := by decide +kernel
theorem dX10_daresFrom_28 : decode cX10_daresFrom 28 = .ok (.goto 4, 3) := by decide +kernel
theorem dX10_daresFrom_31 : decode cX10_daresFrom 31 = .ok (.iconst 1, 1) := by decide +kernel
theorem dX10_daresFrom_32 : decode cX10_daresFrom 32 = .ok (.iadd, 1) := by decide +kernel
theorem dX10_daresFrom_33 : decode cX10_daresFrom 33 = .ok (.istore 4, 2) := by decide +kernel
theorem dX10_daresFrom_35 : decode cX10_daresFrom 35 = .ok (.aload_n 0, 1) := by decide +kernel
theorem dX10_daresFrom_36 : decode cX10_daresFrom 36 = .ok (.getfield 73, 3) := by decide +kernel
theorem dX10_daresFrom_39 : decode cX10_daresFrom 39 = .ok (.iload 4, 2) := by decide +kernel
theorem dX10_daresFrom_41 : decode cX10_daresFrom 41 = .ok (.baload, 1) := by decide +kernel
theorem dX10_daresFrom_42 : decode cX10_daresFrom 42 = .ok (.ifCond .eq 13, 3) := by decide +kernel
theorem dX10_daresFrom_45 : decode cX10_daresFrom 45 = .ok (.aload_n 0, 1) := by decide +kernel
theorem dX10_daresFrom_46 : decode cX10_daresFrom 46 = .ok (.getfield 73, 3) := by decide +kernel
theorem dX10_daresFrom_49 : decode cX10_daresFrom 49 = .ok (.iload 4, 2) := by decide +kernel
theorem dX10_daresFrom_51 : decode cX10_daresFrom 51 = .ok (.baload, 1) := by decide +kernel
theorem dX10_daresFrom_52 : decode cX10_daresFrom 52 = .ok (.iconst 2, 1) := by decide +kernel
theorem dX10_daresFrom_53 : decode cX10_daresFrom 53 = .ok (.isub, 1) := by decide +kernel
theorem dX10_daresFrom_54 : decode cX10_daresFrom 54 = .ok (.ireturn, 1) := by decide +kernel
theorem dX10_daresFrom_55 : decode cX10_daresFrom 55 = .ok (.ldc_w 350, 3) := by decide +kernel
theorem dX10_daresFrom_58 : decode cX10_daresFrom 58 = .ok (.istore 5, 2) := by decide +kernel
theorem dX10_daresFrom_60 : decode cX10_daresFrom 60 = .ok (.iconst 0, 1) := by decide +kernel
theorem dX10_daresFrom_61 : decode cX10_daresFrom 61 = .ok (.istore 6, 2) := by decide +kernel
theorem dX10_daresFrom_63 : decode cX10_daresFrom 63 = .ok (.iload 6, 2) := by decide +kernel
theorem dX10_daresFrom_65 : decode cX10_daresFrom 65 = .ok (.aload_n 0, 1) := by decide +kernel
theorem dX10_daresFrom_66 : decode cX10_daresFrom 66 = .ok (.getfield 13, 3) := by decide +kernel
theorem dX10_daresFrom_69 : decode cX10_daresFrom 69 = .ok (.iconst 3, 1) := by decide +kernel
theorem dX10_daresFrom_70 : decode cX10_daresFrom 70 = .ok (.iaload, 1) := by decide +kernel
theorem dX10_daresFrom_71 : decode cX10_daresFrom 71 = .ok (.if_icmp .ge 67, 3) := by decide +kernel
theorem dX10_daresFrom_74 : decode cX10_daresFrom 74 = .ok (.iload_n 2, 1) := by decide +kernel
theorem dX10_daresFrom_75 : decode cX10_daresFrom 75 = .ok (.aload_n 0, 1) := by decide +kernel
theorem dX10_daresFrom_76 : decode cX10_daresFrom 76 = .ok (.iload_n 1, 1) := by decide +kernel
theorem dX10_daresFrom_77 : decode cX10_daresFrom 77 = .ok (.invokevirtual 256, 3) := by decide +kernel
theorem dX10_daresFrom_80 : decode cX10_daresFrom 80 = .ok (.iconst (-1), 1) := by decide +kernel
theorem dX10_daresFrom_81 : decode cX10_daresFrom 81 = .ok (.ixor, 1) := by decide +kernel
theorem dX10_daresFrom_82 : decode cX10_daresFrom 82 = .ok (.iand, 1) := by decide +kernel
theorem dX10_daresFrom_83 : decode cX10_daresFrom 83 = .ok (.i2l, 1) := by decide +kernel
theorem dX10_daresFrom_84 : decode cX10_daresFrom 84 = .ok (.iload 6, 2) := by decide +kernel
theorem dX10_daresFrom_86 : decode cX10_daresFrom 86 = .ok (.invokestatic 245, 3) := by decide +kernel
theorem dX10_daresFrom_89 : decode cX10_daresFrom 89 = .ok (.ifCond .ne 6, 3) := by decide +kernel
theorem dX10_daresFrom_92 : decode cX10_daresFrom 92 = .ok (.goto 40, 3) := by decide +kernel
theorem dX10_daresFrom_95 : decode cX10_daresFrom 95 = .ok (.aload_n 0, 1) := by decide +kernel
theorem dX10_daresFrom_96 : decode cX10_daresFrom 96 = .ok (.iload_n 1, 1) := by decide +kernel
theorem dX10_daresFrom_97 : decode cX10_daresFrom 97 = .ok (.iconst 1, 1) := by decide +kernel
theorem dX10_daresFrom_98 : decode cX10_daresFrom 98 = .ok (.iload 6, 2) := by decide +kernel
theorem dX10_daresFrom_100 : decode cX10_daresFrom 100 = .ok (.ishl, 1) := by decide +kernel
theorem dX10_daresFrom_101 : decode cX10_daresFrom 101 = .ok (.iload_n 2, 1) := by decide +kernel
theorem dX10_daresFrom_102 : decode cX10_daresFrom 102 = .ok (.iload_n 3, 1) := by decide +kernel
theorem dX10_daresFrom_103 : decode cX10_daresFrom 103 = .ok (.invokevirtual 417, 3) := by decide +kernel
theorem dX10_daresFrom_106 : decode cX10_daresFrom 106 = .ok (.istore 7, 2) := by decide +kernel
theorem dX10_daresFrom_108 : decode cX10_daresFrom 108 = .ok (.iload 5, 2) := by decide +kernel
theorem dX10_daresFrom_110 : decode cX10_daresFrom 110 = .ok (.ldc_w 350, 3) := by decide +kernel
theorem dX10_daresFrom_113 : decode cX10_daresFrom 113 = .ok (.if_icmp .eq 10, 3) := by decide +kernel
theorem dX10_daresFrom_116 : decode cX10_daresFrom 116 = .ok (.iload 7, 2) := by decide +kernel
theorem dX10_daresFrom_118 : decode cX10_daresFrom 118 = .ok (.iload 5, 2) := by decide +kernel
theorem dX10_daresFrom_120 : decode cX10_daresFrom 120 = .ok (.if_icmp .le 8, 3) := by decide +kernel
theorem dX10_daresFrom_123 : decode cX10_daresFrom 123 = .ok (.iload 7, 2) := by decide +kernel
theorem dX10_daresFrom_125 : decode cX10_daresFrom 125 = .ok (.goto 5, 3) := by decide +kernel
theorem dX10_daresFrom_128 : decode cX10_daresFrom 128 = .ok (.iload 5, 2) := by decide +kernel
theorem dX10_daresFrom_130 : decode cX10_daresFrom 130 = .ok (.istore 5, 2) := by decide +kernel
theorem dX10_daresFrom_132 : decode cX10_daresFrom 132 = .ok (.iinc 6 1, 3) := by decide +kernel
theorem dX10_daresFrom_135 : decode cX10_daresFrom 135 = .ok (.goto (-72), 3) := by decide +kernel
theorem dX10_daresFrom_138 : decode cX10_daresFrom 138 = .ok (.iload 5, 2) := by decide +kernel
theorem dX10_daresFrom_140 : decode cX10_daresFrom 140 = .ok (.ldc_w 350, 3) := by decide +kernel
theorem dX10_daresFrom_143 : decode cX10_daresFrom 143 = .ok (.if_icmp .ne 13, 3) := by decide +kernel
theorem dX10_daresFrom_146 : decode cX10_daresFrom 146 = .ok (.aload_n 0, 1) := by decide +kernel
theorem dX10_daresFrom_147 : decode cX10_daresFrom 147 = .ok (.iload_n 1, 1) := by decide +kernel
theorem dX10_daresFrom_148 : decode cX10_daresFrom 148 = .ok (.iconst 0, 1) := by decide +kernel
theorem dX10_daresFrom_149 : decode cX10_daresFrom 149 = .ok (.iload_n 2, 1) := by decide +kernel
theorem dX10_daresFrom_150 : decode cX10_daresFrom 150 = .ok (.iload_n 3, 1) := by decide +kernel
theorem dX10_daresFrom_151 : decode cX10_daresFrom 151 = .ok (.invokevirtual 417, 3) := by decide +kernel
theorem dX10_daresFrom_154 : decode cX10_daresFrom 154 = .ok (.istore 5, 2) := by decide +kernel
theorem dX10_daresFrom_156 : decode cX10_daresFrom 156 = .ok (.aload_n 0, 1) := by decide +kernel
theorem dX10_daresFrom_157 : decode cX10_daresFrom 157 = .ok (.getfield 73, 3) := by decide +kernel
theorem dX10_daresFrom_160 : decode cX10_daresFrom 160 = .ok (.iload 4, 2) := by decide +kernel
theorem dX10_daresFrom_162 : decode cX10_daresFrom 162 = .ok (.iload 5, 2) := by decide +kernel
theorem dX10_daresFrom_164 : decode cX10_daresFrom 164 = .ok (.iconst 2, 1) := by decide +kernel
theorem dX10_daresFrom_165 : decode cX10_daresFrom 165 = .ok (.iadd, 1) := by decide +kernel
theorem dX10_daresFrom_166 : decode cX10_daresFrom 166 = .ok (.i2b, 1) := by decide +kernel
theorem dX10_daresFrom_167 : decode cX10_daresFrom 167 = .ok (.bastore, 1) := by decide +kernel
theorem dX10_daresFrom_168 : decode cX10_daresFrom 168 = .ok (.iload 5, 2) := by decide +kernel
theorem dX10_daresFrom_170 : decode cX10_daresFrom 170 = .ok (.ireturn, 1) := by decide +kernel
theorem dX10_daresBy_0 : decode cX10_daresBy 0 = .ok (.aload_n 0, 1) := by decide +kernel
theorem dX10_daresBy_1 : decode cX10_daresBy 1 = .ok (.iload_n 1, 1) := by decide +kernel
theorem dX10_daresBy_2 : decode cX10_daresBy 2 = .ok (.iload_n 2, 1) := by decide +kernel
theorem dX10_daresBy_3 : decode cX10_daresBy 3 = .ok (.iconst 0, 1) := by decide +kernel
theorem dX10_daresBy_4 : decode cX10_daresBy 4 = .ok (.aload_n 0, 1) := by decide +kernel
theorem dX10_daresBy_5 : decode cX10_daresBy 5 = .ok (.getfield 13, 3) := by decide +kernel
theorem dX10_daresBy_8 : decode cX10_daresBy 8 = .ok (.bipush 27, 2) := by decide +kernel
theorem dX10_daresBy_10 : decode cX10_daresBy 10 = .ok (.iaload, 1) := by decide +kernel
theorem dX10_daresBy_11 : decode cX10_daresBy 11 = .ok (.invokevirtual 273, 3) := by decide +kernel
theorem dX10_daresBy_14 : decode cX10_daresBy 14 = .ok (.istore 5, 2) := by decide +kernel
theorem dX10_daresBy_16 : decode cX10_daresBy 16 = .ok (.iload 5, 2) := by decide +kernel
theorem dX10_daresBy_18 : decode cX10_daresBy 18 = .ok (.invokestatic 231, 3) := by decide +kernel
theorem dX10_daresBy_21 : decode cX10_daresBy 21 = .ok (.ifCond .ne 7, 3) := by decide +kernel
theorem dX10_daresBy_24 : decode cX10_daresBy 24 = .ok (.iconst (-1), 1) := by decide +kernel
theorem dX10_daresBy_25 : decode cX10_daresBy 25 = .ok (.goto 34, 3) := by decide +kernel
theorem dX10_daresBy_28 : decode cX10_daresBy 28 = .ok (.aload_n 0, 1) := by decide +kernel
theorem dX10_daresBy_29 : decode cX10_daresBy 29 = .ok (.iload 5, 2) := by decide +kernel
theorem dX10_daresBy_31 : decode cX10_daresBy 31 = .ok (.iconst 1, 1) := by decide +kernel
theorem dX10_daresBy_32 : decode cX10_daresBy 32 = .ok (.aload_n 0, 1) := by decide +kernel
theorem dX10_daresBy_33 : decode cX10_daresBy 33 = .ok (.getfield 13, 3) := by decide +kernel
theorem dX10_daresBy_36 : decode cX10_daresBy 36 = .ok (.iconst 3, 1) := by decide +kernel
theorem dX10_daresBy_37 : decode cX10_daresBy 37 = .ok (.iaload, 1) := by decide +kernel
theorem dX10_daresBy_38 : decode cX10_daresBy 38 = .ok (.ishl, 1) := by decide +kernel
theorem dX10_daresBy_39 : decode cX10_daresBy 39 = .ok (.iconst 1, 1) := by decide +kernel
theorem dX10_daresBy_40 : decode cX10_daresBy 40 = .ok (.isub, 1) := by decide +kernel
theorem dX10_daresBy_41 : decode cX10_daresBy 41 = .ok (.iload_n 3, 1) := by decide +kernel
theorem dX10_daresBy_42 : decode cX10_daresBy 42 = .ok (.iconst (-1), 1) := by decide +kernel
theorem dX10_daresBy_43 : decode cX10_daresBy 43 = .ok (.ixor, 1) := by decide +kernel
theorem dX10_daresBy_44 : decode cX10_daresBy 44 = .ok (.iand, 1) := by decide +kernel
theorem dX10_daresBy_45 : decode cX10_daresBy 45 = .ok (.iload 4, 2) := by decide +kernel
theorem dX10_daresBy_47 : decode cX10_daresBy 47 = .ok (.ifCond .ne 7, 3) := by decide +kernel
theorem dX10_daresBy_50 : decode cX10_daresBy 50 = .ok (.iconst 1, 1) := by decide +kernel
theorem dX10_daresBy_51 : decode cX10_daresBy 51 = .ok (.goto 4, 3) := by decide +kernel
theorem dX10_daresBy_54 : decode cX10_daresBy 54 = .ok (.iconst 0, 1) := by decide +kernel
theorem dX10_daresBy_55 : decode cX10_daresBy 55 = .ok (.invokevirtual 421, 3) := by decide +kernel
theorem dX10_daresBy_58 : decode cX10_daresBy 58 = .ok (.ineg, 1) := by decide +kernel
theorem dX10_daresBy_59 : decode cX10_daresBy 59 = .ok (.ireturn, 1) := by decide +kernel
theorem dX10_beginsDaring_0 : decode cX10_beginsDaring 0 = .ok (.iconst 0, 1) := by decide +kernel
theorem dX10_beginsDaring_1 : decode cX10_beginsDaring 1 = .ok (.istore_n 1, 1) := by decide +kernel
theorem dX10_beginsDaring_2 : decode cX10_beginsDaring 2 = .ok (.iload_n 1, 1) := by decide +kernel
theorem dX10_beginsDaring_3 : decode cX10_beginsDaring 3 = .ok (.ldc 72, 2) := by decide +kernel
theorem dX10_beginsDaring_5 : decode cX10_beginsDaring 5 = .ok (.if_icmp .ge 16, 3) := by decide +kernel
theorem dX10_beginsDaring_8 : decode cX10_beginsDaring 8 = .ok (.aload_n 0, 1) := by decide +kernel
theorem dX10_beginsDaring_9 : decode cX10_beginsDaring 9 = .ok (.getfield 73, 3) := by decide +kernel
theorem dX10_beginsDaring_12 : decode cX10_beginsDaring 12 = .ok (.iload_n 1, 1) := by decide +kernel
theorem dX10_beginsDaring_13 : decode cX10_beginsDaring 13 = .ok (.iconst 0, 1) := by decide +kernel
theorem dX10_beginsDaring_14 : decode cX10_beginsDaring 14 = .ok (.bastore, 1) := by decide +kernel
theorem dX10_beginsDaring_15 : decode cX10_beginsDaring 15 = .ok (.iinc 1 1, 3) := by decide +kernel
theorem dX10_beginsDaring_18 : decode cX10_beginsDaring 18 = .ok (.goto (-16), 3) := by decide +kernel
theorem dX10_beginsDaring_21 : decode cX10_beginsDaring 21 = .ok (.return_, 1) := by decide +kernel
theorem dX10_noDaring_0 : decode cX10_noDaring 0 = .ok (.aload_n 0, 1) := by decide +kernel
theorem dX10_noDaring_1 : decode cX10_noDaring 1 = .ok (.iload_n 1, 1) := by decide +kernel
theorem dX10_noDaring_2 : decode cX10_noDaring 2 = .ok (.i2l, 1) := by decide +kernel
theorem dX10_noDaring_3 : decode cX10_noDaring 3 = .ok (.invokevirtual 259, 3) := by decide +kernel
theorem dX10_noDaring_6 : decode cX10_noDaring 6 = .ok (.ifCond .ne 8, 3) := by decide +kernel
theorem dX10_noDaring_9 : decode cX10_noDaring 9 = .ok (.bipush (-3), 2) := by decide +kernel
theorem dX10_noDaring_11 : decode cX10_noDaring 11 = .ok (.goto 19, 3) := by decide +kernel
theorem dX10_noDaring_14 : decode cX10_noDaring 14 = .ok (.aload_n 0, 1) := by decide +kernel
theorem dX10_noDaring_15 : decode cX10_noDaring 15 = .ok (.getfield 13, 3) := by decide +kernel

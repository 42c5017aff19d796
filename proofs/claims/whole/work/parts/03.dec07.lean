theorem dX9_daring_38 : decode cX9_daring 38 = .ok (.getfield 28, 3) := by decide +kernel
theorem dX9_daring_41 : decode cX9_daring 41 = .ok (.getfield 137, 3) := by decide +kernel
theorem dX9_daring_44 : decode cX9_daring 44 = .ok (.iconst 0, 1) := by decide +kernel
theorem dX9_daring_45 : decode cX9_daring 45 = .ok (.iconst 0, 1) := by decide +kernel
theorem dX9_daring_46 : decode cX9_daring 46 = .ok (.invokevirtual 351, 3) := by decide +kernel
theorem dX9_daring_49 : decode cX9_daring 49 = .ok (.ireturn, 1) := by decide +kernel
theorem dX9_dares_0 : decode cX9_dares 0 = .ok (.aload_n 0, 1) := by decide +kernel
theorem dX9_dares_1 : decode cX9_dares 1 = .ok (.iload_n 1, 1) := by decide +kernel
theorem dX9_dares_2 : decode cX9_dares 2 = .ok (.i2l, 1) := by decide +kernel
theorem dX9_dares_3 : decode cX9_dares 3 = .ok (.invokevirtual 144, 3) := by decide +kernel
theorem dX9_dares_6 : decode cX9_dares 6 = .ok (.ifCond .ne 6, 3) := by decide +kernel
theorem dX9_dares_9 : decode cX9_dares 9 = .ok (.bipush (-3), 2) := by decide +kernel
theorem dX9_dares_11 : decode cX9_dares 11 = .ok (.ireturn, 1) := by decide +kernel
theorem dX9_dares_12 : decode cX9_dares 12 = .ok (.aload_n 0, 1) := by decide +kernel
theorem dX9_dares_13 : decode cX9_dares 13 = .ok (.getfield 28, 3) := by decide +kernel
theorem dX9_dares_16 : decode cX9_dares 16 = .ok (.getfield 137, 3) := by decide +kernel
theorem dX9_dares_19 : decode cX9_dares 19 = .ok (.ifCond .ne 6, 3) := by decide +kernel
theorem dX9_dares_22 : decode cX9_dares 22 = .ok (.bipush (-5), 2) := by decide +kernel
theorem dX9_dares_24 : decode cX9_dares 24 = .ok (.ireturn, 1) := by decide +kernel
theorem dX9_dares_25 : decode cX9_dares 25 = .ok (.aload_n 0, 1) := by decide +kernel
theorem dX9_dares_26 : decode cX9_dares 26 = .ok (.iload_n 1, 1) := by decide +kernel
theorem dX9_dares_27 : decode cX9_dares 27 = .ok (.invokevirtual 347, 3) := by decide +kernel
theorem dX9_dares_30 : decode cX9_dares 30 = .ok (.aload_n 0, 1) := by decide +kernel
theorem dX9_dares_31 : decode cX9_dares 31 = .ok (.getfield 28, 3) := by decide +kernel
theorem dX9_dares_34 : decode cX9_dares 34 = .ok (.getfield 114, 3) := by decide +kernel
theorem dX9_dares_37 : decode cX9_dares 37 = .ok (.aload_n 0, 1) := by decide +kernel
theorem dX9_dares_38 : decode cX9_dares 38 = .ok (.getfield 28, 3) := by decide +kernel
theorem dX9_dares_41 : decode cX9_dares 41 = .ok (.getfield 137, 3) := by decide +kernel
theorem dX9_dares_44 : decode cX9_dares 44 = .ok (.invokevirtual 354, 3) := by decide +kernel
theorem dX9_dares_47 : decode cX9_dares 47 = .ok (.ireturn, 1) := by decide +kernel
theorem dX9_chance_0 : decode cX9_chance 0 = .ok (.aload_n 0, 1) := by decide +kernel
theorem dX9_chance_1 : decode cX9_chance 1 = .ok (.iload_n 1, 1) := by decide +kernel
theorem dX9_chance_2 : decode cX9_chance 2 = .ok (.iload_n 2, 1) := by decide +kernel
theorem dX9_chance_3 : decode cX9_chance 3 = .ok (.invokevirtual 357, 3) := by decide +kernel
theorem dX9_chance_6 : decode cX9_chance 6 = .ok (.istore_n 3, 1) := by decide +kernel
theorem dX9_chance_7 : decode cX9_chance 7 = .ok (.iload_n 3, 1) := by decide +kernel
theorem dX9_chance_8 : decode cX9_chance 8 = .ok (.ifCond .eq 5, 3) := by decide +kernel
theorem dX9_chance_11 : decode cX9_chance 11 = .ok (.iload_n 3, 1) := by decide +kernel
theorem dX9_chance_12 : decode cX9_chance 12 = .ok (.ireturn, 1) := by decide +kernel
theorem dX9_chance_13 : decode cX9_chance 13 = .ok (.aload_n 0, 1) := by decide +kernel
theorem dX9_chance_14 : decode cX9_chance 14 = .ok (.aload_n 0, 1) := by decide +kernel
theorem dX9_chance_15 : decode cX9_chance 15 = .ok (.getfield 48, 3) := by decide +kernel
theorem dX9_chance_18 : decode cX9_chance 18 = .ok (.iload_n 1, 1) := by decide +kernel
theorem dX9_chance_19 : decode cX9_chance 19 = .ok (.aaload, 1) := by decide +kernel
theorem dX9_chance_20 : decode cX9_chance 20 = .ok (.invokevirtual 360, 3) := by decide +kernel
theorem dX9_chance_23 : decode cX9_chance 23 = .ok (.lstore 4, 2) := by decide +kernel
theorem dX9_chance_25 : decode cX9_chance 25 = .ok (.lload 4, 2) := by decide +kernel
theorem dX9_chance_27 : decode cX9_chance 27 = .ok (.aload_n 0, 1) := by decide +kernel
theorem dX9_chance_28 : decode cX9_chance 28 = .ok (.getfield 70, 3) := by decide +kernel
theorem dX9_chance_31 : decode cX9_chance 31 = .ok (.iconst 0, 1) := by decide +kernel
theorem dX9_chance_32 : decode cX9_chance 32 = .ok (.laload, 1) := by decide +kernel
theorem dX9_chance_33 : decode cX9_chance 33 = .ok (.lsub, 1) := by decide +kernel
theorem dX9_chance_34 : decode cX9_chance 34 = .ok (.lload 4, 2) := by decide +kernel
theorem dX9_chance_36 : decode cX9_chance 36 = .ok (.iload_n 2, 1) := by decide +kernel
theorem dX9_chance_37 : decode cX9_chance 37 = .ok (.invokestatic 301, 3) := by decide +kernel
theorem dX9_chance_40 : decode cX9_chance 40 = .ok (.ireturn, 1) := by decide +kernel
theorem dX9_mean_0 : decode cX9_mean 0 = .ok (.aload_n 0, 1) := by decide +kernel
theorem dX9_mean_1 : decode cX9_mean 1 = .ok (.iload_n 1, 1) := by decide +kernel
theorem dX9_mean_2 : decode cX9_mean 2 = .ok (.iload_n 2, 1) := by decide +kernel
theorem dX9_mean_3 : decode cX9_mean 3 = .ok (.invokevirtual 357, 3) := by decide +kernel
theorem dX9_mean_6 : decode cX9_mean 6 = .ok (.istore_n 3, 1) := by decide +kernel
theorem dX9_mean_7 : decode cX9_mean 7 = .ok (.iload_n 3, 1) := by decide +kernel
theorem dX9_mean_8 : decode cX9_mean 8 = .ok (.ifCond .eq 5, 3) := by decide +kernel
theorem dX9_mean_11 : decode cX9_mean 11 = .ok (.iload_n 3, 1) := by decide +kernel
theorem dX9_mean_12 : decode cX9_mean 12 = .ok (.ireturn, 1) := by decide +kernel
theorem dX9_mean_13 : decode cX9_mean 13 = .ok (.aload_n 0, 1) := by decide +kernel
theorem dX9_mean_14 : decode cX9_mean 14 = .ok (.aload_n 0, 1) := by decide +kernel
theorem dX9_mean_15 : decode cX9_mean 15 = .ok (.getfield 48, 3) := by decide +kernel
theorem dX9_mean_18 : decode cX9_mean 18 = .ok (.iload_n 1, 1) := by decide +kernel
theorem dX9_mean_19 : decode cX9_mean 19 = .ok (.aaload, 1) := by decide +kernel
theorem dX9_mean_20 : decode cX9_mean 20 = .ok (.invokevirtual 360, 3) := by decide +kernel
theorem dX9_mean_23 : decode cX9_mean 23 = .ok (.lstore 4, 2) := by decide +kernel
theorem dX9_mean_25 : decode cX9_mean 25 = .ok (.lconst 0, 1) := by decide +kernel
theorem dX9_mean_26 : decode cX9_mean 26 = .ok (.lstore 6, 2) := by decide +kernel
theorem dX9_mean_28 : decode cX9_mean 28 = .ok (.iconst 1, 1) := by decide +kernel
theorem dX9_mean_29 : decode cX9_mean 29 = .ok (.istore 8, 2) := by decide +kernel
theorem dX9_mean_31 : decode cX9_mean 31 = .ok (.iload 8, 2) := by decide +kernel
theorem dX9_mean_33 : decode cX9_mean 33 = .ok (.bipush 10, 2) := by decide +kernel
theorem dX9_mean_35 : decode cX9_mean 35 = .ok (.if_icmp .ge 25, 3) := by decide +kernel
theorem dX9_mean_38 : decode cX9_mean 38 = .ok (.lload 6, 2) := by decide +kernel
theorem dX9_mean_40 : decode cX9_mean 40 = .ok (.iload 8, 2) := by decide +kernel
theorem dX9_mean_42 : decode cX9_mean 42 = .ok (.i2l, 1) := by decide +kernel
theorem dX9_mean_43 : decode cX9_mean 43 = .ok (.aload_n 0, 1) := by decide +kernel
theorem dX9_mean_44 : decode cX9_mean 44 = .ok (.getfield 70, 3) := by decide +kernel
theorem dX9_mean_47 : decode cX9_mean 47 = .ok (.iload 8, 2) := by decide +kernel
theorem dX9_mean_49 : decode cX9_mean 49 = .ok (.laload, 1) := by decide +kernel
theorem dX9_mean_50 : decode cX9_mean 50 = .ok (.lmul, 1) := by decide +kernel
theorem dX9_mean_51 : decode cX9_mean 51 = .ok (.ladd, 1) := by decide +kernel
theorem dX9_mean_52 : decode cX9_mean 52 = .ok (.lstore 6, 2) := by decide +kernel
theorem dX9_mean_54 : decode cX9_mean 54 = .ok (.iinc 8 1, 3) := by decide +kernel
theorem dX9_mean_57 : decode cX9_mean 57 = .ok (.goto (-26), 3) := by decide +kernel
theorem dX9_mean_60 : decode cX9_mean 60 = .ok (.lload 6, 2) := by decide +kernel
theorem dX9_mean_62 : decode cX9_mean 62 = .ok (.lload 4, 2) := by decide +kernel
theorem dX9_mean_64 : decode cX9_mean 64 = .ok (.iload_n 2, 1) := by decide +kernel
theorem dX9_mean_65 : decode cX9_mean 65 = .ok (.invokestatic 301, 3) := by decide +kernel
theorem dX9_mean_68 : decode cX9_mean 68 = .ok (.ireturn, 1) := by decide +kernel
theorem dX9_refuseChance_0 : decode cX9_refuseChance 0 = .ok (.iload_n 1, 1) := by decide +kernel
theorem dX9_refuseChance_1 : decode cX9_refuseChance 1 = .ok (.invokestatic 210, 3) := by decide +kernel
theorem dX9_refuseChance_4 : decode cX9_refuseChance 4 = .ok (.ifCond .eq 12, 3) := by decide +kernel
theorem dX9_refuseChance_7 : decode cX9_refuseChance 7 = .ok (.iload_n 2, 1) := by decide +kernel
theorem dX9_refuseChance_8 : decode cX9_refuseChance 8 = .ok (.ifCond .lt 8, 3) := by decide +kernel
theorem dX9_refuseChance_11 : decode cX9_refuseChance 11 = .ok (.iload_n 2, 1) := by decide +kernel
theorem dX9_refuseChance_12 : decode cX9_refuseChance 12 = .ok (.iconst 1, 1) := by decide +kernel
theorem dX9_refuseChance_13 : decode cX9_refuseChance 13 = .ok (.if_icmp .le 6, 3) := by decide +kernel
theorem dX9_refuseChance_16 : decode cX9_refuseChance 16 = .ok (.bipush (-2), 2) := by decide +kernel
theorem dX9_refuseChance_18 : decode cX9_refuseChance 18 = .ok (.ireturn, 1) := by decide +kernel
theorem dX9_refuseChance_19 : decode cX9_refuseChance 19 = .ok (.aload_n 0, 1) := by decide +kernel
theorem dX9_refuseChance_20 : decode cX9_refuseChance 20 = .ok (.getfield 48, 3) := by decide +kernel
theorem dX9_refuseChance_23 : decode cX9_refuseChance 23 = .ok (.iload_n 1, 1) := by decide +kernel
theorem dX9_refuseChance_24 : decode cX9_refuseChance 24 = .ok (.aaload, 1) := by decide +kernel
theorem dX9_refuseChance_25 : decode cX9_refuseChance 25 = .ok (.astore_n 3, 1) := by decide +kernel
theorem dX9_refuseChance_26 : decode cX9_refuseChance 26 = .ok (.aload_n 3, 1) := by decide +kernel
theorem dX9_refuseChance_27 : decode cX9_refuseChance 27 = .ok (.getfield 213, 3) := by decide +kernel
theorem dX9_refuseChance_30 : decode cX9_refuseChance 30 = .ok (.ifCond .eq 6, 3) := by decide +kernel
theorem dX9_refuseChance_33 : decode cX9_refuseChance 33 = .ok (.bipush (-6), 2) := by decide +kernel
theorem dX9_refuseChance_35 : decode cX9_refuseChance 35 = .ok (.ireturn, 1) := by decide +kernel
theorem dX9_refuseChance_36 : decode cX9_refuseChance 36 = .ok (.aload_n 3, 1) := by decide +kernel
theorem dX9_refuseChance_37 : decode cX9_refuseChance 37 = .ok (.getfield 217, 3) := by decide +kernel
theorem dX9_refuseChance_40 : decode cX9_refuseChance 40 = .ok (.iconst 1, 1) := by decide +kernel
theorem dX9_refuseChance_41 : decode cX9_refuseChance 41 = .ok (.if_icmp .lt 12, 3) := by decide +kernel
theorem dX9_refuseChance_44 : decode cX9_refuseChance 44 = .ok (.aload_n 3, 1) := by decide +kernel
theorem dX9_refuseChance_45 : decode cX9_refuseChance 45 = .ok (.getfield 217, 3) := by decide +kernel
theorem dX9_refuseChance_48 : decode cX9_refuseChance 48 = .ok (.bipush 6, 2) := by decide +kernel
theorem dX9_refuseChance_50 : decode cX9_refuseChance 50 = .ok (.if_icmp .le 6, 3) := by decide +kernel
theorem dX9_refuseChance_53 : decode cX9_refuseChance 53 = .ok (.bipush (-4), 2) := by decide +kernel
theorem dX9_refuseChance_55 : decode cX9_refuseChance 55 = .ok (.ireturn, 1) := by decide +kernel
theorem dX9_refuseChance_56 : decode cX9_refuseChance 56 = .ok (.iconst 0, 1) := by decide +kernel
theorem dX9_refuseChance_57 : decode cX9_refuseChance 57 = .ok (.istore 4, 2) := by decide +kernel
theorem dX9_refuseChance_59 : decode cX9_refuseChance 59 = .ok (.iload 4, 2) := by decide +kernel
theorem dX9_refuseChance_61 : decode cX9_refuseChance 61 = .ok (.aload_n 3, 1) := by decide +kernel
theorem dX9_refuseChance_62 : decode cX9_refuseChance 62 = .ok (.getfield 217, 3) := by decide +kernel
theorem dX9_refuseChance_65 : decode cX9_refuseChance 65 = .ok (.if_icmp .ge 25, 3) := by decide +kernel
theorem dX9_refuseChance_68 : decode cX9_refuseChance 68 = .ok (.aload_n 0, 1) := by decide +kernel
theorem dX9_refuseChance_69 : decode cX9_refuseChance 69 = .ok (.aload_n 3, 1) := by decide +kernel
theorem dX9_refuseChance_70 : decode cX9_refuseChance 70 = .ok (.iload 4, 2) := by decide +kernel
theorem dX9_refuseChance_72 : decode cX9_refuseChance 72 = .ok (.invokevirtual 220, 3) := by decide +kernel
theorem dX9_refuseChance_75 : decode cX9_refuseChance 75 = .ok (.invokevirtual 144, 3) := by decide +kernel
theorem dX9_refuseChance_78 : decode cX9_refuseChance 78 = .ok (.ifCond .ne 6, 3) := by decide +kernel
theorem dX9_refuseChance_81 : decode cX9_refuseChance 81 = .ok (.bipush (-3), 2) := by decide +kernel
theorem dX9_refuseChance_83 : decode cX9_refuseChance 83 = .ok (.ireturn, 1) := by decide +kernel
theorem dX9_refuseChance_84 : decode cX9_refuseChance 84 = .ok (.iinc 4 1, 3) := by decide +kernel
theorem dX9_refuseChance_87 : decode cX9_refuseChance 87 = .ok (.goto (-28), 3) := by decide +kernel
theorem dX9_refuseChance_90 : decode cX9_refuseChance 90 = .ok (.aload_n 0, 1) := by decide +kernel
theorem dX9_refuseChance_91 : decode cX9_refuseChance 91 = .ok (.getfield 28, 3) := by decide +kernel
theorem dX9_refuseChance_94 : decode cX9_refuseChance 94 = .ok (.getfield 114, 3) := by decide +kernel
theorem dX9_refuseChance_97 : decode cX9_refuseChance 97 = .ok (.istore 4, 2) := by decide +kernel
theorem dX9_refuseChance_99 : decode cX9_refuseChance 99 = .ok (.iconst 0, 1) := by decide +kernel
theorem dX9_refuseChance_100 : decode cX9_refuseChance 100 = .ok (.istore 5, 2) := by decide +kernel
theorem dX9_refuseChance_102 : decode cX9_refuseChance 102 = .ok (.iload 5, 2) := by decide +kernel
theorem dX9_refuseChance_104 : decode cX9_refuseChance 104 = .ok (.aload_n 3, 1) := by decide +kernel
theorem dX9_refuseChance_105 : decode cX9_refuseChance 105 = .ok (.getfield 217, 3) := by decide +kernel
theorem dX9_refuseChance_108 : decode cX9_refuseChance 108 = .ok (.if_icmp .ge 46, 3) := by decide +kernel
theorem dX9_refuseChance_111 : decode cX9_refuseChance 111 = .ok (.aload_n 3, 1) := by decide +kernel
theorem dX9_refuseChance_112 : decode cX9_refuseChance 112 = .ok (.iload 5, 2) := by decide +kernel
theorem dX9_refuseChance_114 : decode cX9_refuseChance 114 = .ok (.invokevirtual 220, 3) := by decide +kernel
theorem dX9_refuseChance_117 : decode cX9_refuseChance 117 = .ok (.l2i, 1) := by decide +kernel
theorem dX9_refuseChance_118 : decode cX9_refuseChance 118 = .ok (.istore 6, 2) := by decide +kernel
theorem dX9_refuseChance_120 : decode cX9_refuseChance 120 = .ok (.iload 6, 2) := by decide +kernel
theorem dX9_refuseChance_122 : decode cX9_refuseChance 122 = .ok (.aload_n 0, 1) := by decide +kernel
theorem dX9_refuseChance_123 : decode cX9_refuseChance 123 = .ok (.getfield 21, 3) := by decide +kernel
theorem dX9_refuseChance_126 : decode cX9_refuseChance 126 = .ok (.iload 4, 2) := by decide +kernel
theorem dX9_refuseChance_128 : decode cX9_refuseChance 128 = .ok (.invokevirtual 156, 3) := by decide +kernel
theorem dX9_refuseChance_131 : decode cX9_refuseChance 131 = .ok (.iand, 1) := by decide +kernel
theorem dX9_refuseChance_132 : decode cX9_refuseChance 132 = .ok (.ifCond .eq 6, 3) := by decide +kernel
theorem dX9_refuseChance_135 : decode cX9_refuseChance 135 = .ok (.bipush (-5), 2) := by decide +kernel
theorem dX9_refuseChance_137 : decode cX9_refuseChance 137 = .ok (.ireturn, 1) := by decide +kernel
theorem dX9_refuseChance_138 : decode cX9_refuseChance 138 = .ok (.iload 4, 2) := by decide +kernel
theorem dX9_refuseChance_140 : decode cX9_refuseChance 140 = .ok (.iload 6, 2) := by decide +kernel
theorem dX9_refuseChance_142 : decode cX9_refuseChance 142 = .ok (.invokestatic 160, 3) := by decide +kernel
theorem dX9_refuseChance_145 : decode cX9_refuseChance 145 = .ok (.iadd, 1) := by decide +kernel
theorem dX9_refuseChance_146 : decode cX9_refuseChance 146 = .ok (.istore 4, 2) := by decide +kernel
theorem dX9_refuseChance_148 : decode cX9_refuseChance 148 = .ok (.iinc 5 1, 3) := by decide +kernel
theorem dX9_refuseChance_151 : decode cX9_refuseChance 151 = .ok (.goto (-49), 3) := by decide +kernel
theorem dX9_refuseChance_154 : decode cX9_refuseChance 154 = .ok (.iconst 0, 1) := by decide +kernel
theorem dX9_refuseChance_155 : decode cX9_refuseChance 155 = .ok (.ireturn, 1) := by decide +kernel
theorem dX9_weighHours_0 : decode cX9_weighHours 0 = .ok (.aload_n 0, 1) := by decide +kernel
theorem dX9_weighHours_1 : decode cX9_weighHours 1 = .ok (.getfield 55, 3) := by decide +kernel
theorem dX9_weighHours_4 : decode cX9_weighHours 4 = .ok (.aload_n 0, 1) := by decide +kernel
theorem dX9_weighHours_5 : decode cX9_weighHours 5 = .ok (.getfield 21, 3) := by decide +kernel
theorem dX9_weighHours_8 : decode cX9_weighHours 8 = .ok (.aload_n 0, 1) := by decide +kernel
theorem dX9_weighHours_9 : decode cX9_weighHours 9 = .ok (.getfield 28, 3) := by decide +kernel
theorem dX9_weighHours_12 : decode cX9_weighHours 12 = .ok (.getfield 127, 3) := by decide +kernel
theorem dX9_weighHours_15 : decode cX9_weighHours 15 = .ok (.invokevirtual 130, 3) := by decide +kernel
theorem dX9_weighHours_18 : decode cX9_weighHours 18 = .ok (.aload_n 0, 1) := by decide +kernel
theorem dX9_weighHours_19 : decode cX9_weighHours 19 = .ok (.getfield 70, 3) := by decide +kernel
theorem dX9_weighHours_22 : decode cX9_weighHours 22 = .ok (.lconst 0, 1) := by decide +kernel
theorem dX9_weighHours_23 : decode cX9_weighHours 23 = .ok (.invokestatic 364, 3) := by decide +kernel
theorem dX9_weighHours_26 : decode cX9_weighHours 26 = .ok (.aload_n 0, 1) := by decide +kernel
theorem dX9_weighHours_27 : decode cX9_weighHours 27 = .ok (.getfield 70, 3) := by decide +kernel
theorem dX9_weighHours_30 : decode cX9_weighHours 30 = .ok (.aload_n 0, 1) := by decide +kernel
theorem dX9_weighHours_31 : decode cX9_weighHours 31 = .ok (.getfield 28, 3) := by decide +kernel
theorem dX9_weighHours_34 : decode cX9_weighHours 34 = .ok (.getfield 137, 3) := by decide +kernel
theorem dX9_weighHours_37 : decode cX9_weighHours 37 = .ok (.lconst 1, 1) := by decide +kernel
theorem dX9_weighHours_38 : decode cX9_weighHours 38 = .ok (.lastore, 1) := by decide +kernel
theorem dX9_weighHours_39 : decode cX9_weighHours 39 = .ok (.aload_n 0, 1) := by decide +kernel
theorem dX9_weighHours_40 : decode cX9_weighHours 40 = .ok (.getfield 28, 3) := by decide +kernel
theorem dX9_weighHours_43 : decode cX9_weighHours 43 = .ok (.getfield 114, 3) := by decide +kernel
theorem dX9_weighHours_46 : decode cX9_weighHours 46 = .ok (.istore_n 2, 1) := by decide +kernel
theorem dX9_weighHours_47 : decode cX9_weighHours 47 = .ok (.lconst 1, 1) := by decide +kernel
theorem dX9_weighHours_48 : decode cX9_weighHours 48 = .ok (.lstore_n 3, 1) := by decide +kernel
theorem dX9_weighHours_49 : decode cX9_weighHours 49 = .ok (.iconst 0, 1) := by decide +kernel
theorem dX9_weighHours_50 : decode cX9_weighHours 50 = .ok (.istore 5, 2) := by decide +kernel
theorem dX9_weighHours_52 : decode cX9_weighHours 52 = .ok (.iload 5, 2) := by decide +kernel
theorem dX9_weighHours_54 : decode cX9_weighHours 54 = .ok (.aload_n 1, 1) := by decide +kernel
theorem dX9_weighHours_55 : decode cX9_weighHours 55 = .ok (.getfield 217, 3) := by decide +kernel
theorem dX9_weighHours_58 : decode cX9_weighHours 58 = .ok (.if_icmp .ge 39, 3) := by decide +kernel
theorem dX9_weighHours_61 : decode cX9_weighHours 61 = .ok (.aload_n 1, 1) := by decide +kernel
theorem dX9_weighHours_62 : decode cX9_weighHours 62 = .ok (.iload 5, 2) := by decide +kernel
theorem dX9_weighHours_64 : decode cX9_weighHours 64 = .ok (.invokevirtual 220, 3) := by decide +kernel
theorem dX9_weighHours_67 : decode cX9_weighHours 67 = .ok (.l2i, 1) := by decide +kernel
theorem dX9_weighHours_68 : decode cX9_weighHours 68 = .ok (.istore 6, 2) := by decide +kernel
theorem dX9_weighHours_70 : decode cX9_weighHours 70 = .ok (.aload_n 0, 1) := by decide +kernel
theorem dX9_weighHours_71 : decode cX9_weighHours 71 = .ok (.iload_n 2, 1) := by decide +kernel
theorem dX9_weighHours_72 : decode cX9_weighHours 72 = .ok (.iload 6, 2) := by decide +kernel
theorem dX9_weighHours_74 : decode cX9_weighHours 74 = .ok (.invokevirtual 367, 3) := by decide +kernel
theorem dX9_weighHours_77 : decode cX9_weighHours 77 = .ok (.iload_n 2, 1) := by decide +kernel
theorem dX9_weighHours_78 : decode cX9_weighHours 78 = .ok (.iload 6, 2) := by decide +kernel
theorem dX9_weighHours_80 : decode cX9_weighHours 80 = .ok (.invokestatic 160, 3) := by decide +kernel
theorem dX9_weighHours_83 : decode cX9_weighHours 83 = .ok (.iadd, 1) := by decide +kernel
theorem dX9_weighHours_84 : decode cX9_weighHours 84 = .ok (.istore_n 2, 1) := by decide +kernel
theorem dX9_weighHours_85 : decode cX9_weighHours 85 = .ok (.lload_n 3, 1) := by decide +kernel
theorem dX9_weighHours_86 : decode cX9_weighHours 86 = .ok (.ldc2_w 370, 3) := by decide +kernel
theorem dX9_weighHours_89 : decode cX9_weighHours 89 = .ok (.lmul, 1) := by decide +kernel
theorem dX9_weighHours_90 : decode cX9_weighHours 90 = .ok (.lstore_n 3, 1) := by decide +kernel
theorem dX9_weighHours_91 : decode cX9_weighHours 91 = .ok (.iinc 5 1, 3) := by decide +kernel
theorem dX9_weighHours_94 : decode cX9_weighHours 94 = .ok (.goto (-42), 3) := by decide +kernel
theorem dX9_weighHours_97 : decode cX9_weighHours 97 = .ok (.lload_n 3, 1) := by decide +kernel
theorem dX9_weighHours_98 : decode cX9_weighHours 98 = .ok (.lreturn, 1) := by decide +kernel
theorem dX9_weighHour_0 : decode cX9_weighHour 0 = .ok (.aload_n 0, 1) := by decide +kernel
theorem dX9_weighHour_1 : decode cX9_weighHour 1 = .ok (.getfield 74, 3) := by decide +kernel
theorem dX9_weighHour_4 : decode cX9_weighHour 4 = .ok (.lconst 0, 1) := by decide +kernel
theorem dX9_weighHour_5 : decode cX9_weighHour 5 = .ok (.invokestatic 364, 3) := by decide +kernel
theorem dX9_weighHour_8 : decode cX9_weighHour 8 = .ok (.aload_n 0, 1) := by decide +kernel
theorem dX9_weighHour_9 : decode cX9_weighHour 9 = .ok (.getfield 74, 3) := by decide +kernel
theorem dX9_weighHour_12 : decode cX9_weighHour 12 = .ok (.iconst 0, 1) := by decide +kernel
theorem dX9_weighHour_13 : decode cX9_weighHour 13 = .ok (.aload_n 0, 1) := by decide +kernel
theorem dX9_weighHour_14 : decode cX9_weighHour 14 = .ok (.getfield 70, 3) := by decide +kernel
theorem dX9_weighHour_17 : decode cX9_weighHour 17 = .ok (.iconst 0, 1) := by decide +kernel
theorem dX9_weighHour_18 : decode cX9_weighHour 18 = .ok (.laload, 1) := by decide +kernel
theorem dX9_weighHour_19 : decode cX9_weighHour 19 = .ok (.ldc2_w 370, 3) := by decide +kernel
theorem dX9_weighHour_22 : decode cX9_weighHour 22 = .ok (.lmul, 1) := by decide +kernel
theorem dX9_weighHour_23 : decode cX9_weighHour 23 = .ok (.lastore, 1) := by decide +kernel
theorem dX9_weighHour_24 : decode cX9_weighHour 24 = .ok (.iconst 1, 1) := by decide +kernel
theorem dX9_weighHour_25 : decode cX9_weighHour 25 = .ok (.istore_n 3, 1) := by decide +kernel
theorem dX9_weighHour_26 : decode cX9_weighHour 26 = .ok (.iload_n 3, 1) := by decide +kernel
theorem dX9_weighHour_27 : decode cX9_weighHour 27 = .ok (.bipush 10, 2) := by decide +kernel
theorem dX9_weighHour_29 : decode cX9_weighHour 29 = .ok (.if_icmp .ge 105, 3) := by decide +kernel
theorem dX9_weighHour_32 : decode cX9_weighHour 32 = .ok (.aload_n 0, 1) := by decide +kernel
theorem dX9_weighHour_33 : decode cX9_weighHour 33 = .ok (.getfield 70, 3) := by decide +kernel
theorem dX9_weighHour_36 : decode cX9_weighHour 36 = .ok (.iload_n 3, 1) := by decide +kernel
theorem dX9_weighHour_37 : decode cX9_weighHour 37 = .ok (.laload, 1) := by decide +kernel
theorem dX9_weighHour_38 : decode cX9_weighHour 38 = .ok (.lconst 0, 1) := by decide +kernel
theorem dX9_weighHour_39 : decode cX9_weighHour 39 = .ok (.lcmp, 1) := by decide +kernel
theorem dX9_weighHour_40 : decode cX9_weighHour 40 = .ok (.ifCond .le 88, 3) := by decide +kernel
theorem dX9_weighHour_43 : decode cX9_weighHour 43 = .ok (.aload_n 0, 1) := by decide +kernel
theorem dX9_weighHour_44 : decode cX9_weighHour 44 = .ok (.getfield 55, 3) := by decide +kernel
theorem dX9_weighHour_47 : decode cX9_weighHour 47 = .ok (.iload_n 1, 1) := by decide +kernel
theorem dX9_weighHour_48 : decode cX9_weighHour 48 = .ok (.iload_n 3, 1) := by decide +kernel
theorem dX9_weighHour_49 : decode cX9_weighHour 49 = .ok (.iload_n 2, 1) := by decide +kernel
theorem dX9_weighHour_50 : decode cX9_weighHour 50 = .ok (.iconst 0, 1) := by decide +kernel
theorem dX9_weighHour_51 : decode cX9_weighHour 51 = .ok (.invokevirtual 152, 3) := by decide +kernel
theorem dX9_weighHour_54 : decode cX9_weighHour 54 = .ok (.istore 4, 2) := by decide +kernel
theorem dX9_weighHour_56 : decode cX9_weighHour 56 = .ok (.aload_n 0, 1) := by decide +kernel
theorem dX9_weighHour_57 : decode cX9_weighHour 57 = .ok (.getfield 55, 3) := by decide +kernel
theorem dX9_weighHour_60 : decode cX9_weighHour 60 = .ok (.iload_n 1, 1) := by decide +kernel
theorem dX9_weighHour_61 : decode cX9_weighHour 61 = .ok (.iload_n 3, 1) := by decide +kernel
theorem dX9_weighHour_62 : decode cX9_weighHour 62 = .ok (.iload_n 2, 1) := by decide +kernel
theorem dX9_weighHour_63 : decode cX9_weighHour 63 = .ok (.aload_n 0, 1) := by decide +kernel
theorem dX9_weighHour_64 : decode cX9_weighHour 64 = .ok (.getfield 21, 3) := by decide +kernel
theorem dX9_weighHour_67 : decode cX9_weighHour 67 = .ok (.getfield 372, 3) := by decide +kernel
theorem dX9_weighHour_70 : decode cX9_weighHour 70 = .ok (.invokevirtual 152, 3) := by decide +kernel
theorem dX9_weighHour_73 : decode cX9_weighHour 73 = .ok (.istore 5, 2) := by decide +kernel
theorem dX9_weighHour_75 : decode cX9_weighHour 75 = .ok (.aload_n 0, 1) := by decide +kernel
theorem dX9_weighHour_76 : decode cX9_weighHour 76 = .ok (.getfield 74, 3) := by decide +kernel
theorem dX9_weighHour_79 : decode cX9_weighHour 79 = .ok (.iload 4, 2) := by decide +kernel
theorem dX9_weighHour_81 : decode cX9_weighHour 81 = .ok (.dup2, 1) := by decide +kernel
theorem dX9_weighHour_82 : decode cX9_weighHour 82 = .ok (.laload, 1) := by decide +kernel
theorem dX9_weighHour_83 : decode cX9_weighHour 83 = .ok (.aload_n 0, 1) := by decide +kernel
theorem dX9_weighHour_84 : decode cX9_weighHour 84 = .ok (.getfield 70, 3) := by decide +kernel
theorem dX9_weighHour_87 : decode cX9_weighHour 87 = .ok (.iload_n 3, 1) := by decide +kernel
theorem dX9_weighHour_88 : decode cX9_weighHour 88 = .ok (.laload, 1) := by decide +kernel
theorem dX9_weighHour_89 : decode cX9_weighHour 89 = .ok (.bipush 10, 2) := by decide +kernel
theorem dX9_weighHour_91 : decode cX9_weighHour 91 = .ok (.aload_n 0, 1) := by decide +kernel
theorem dX9_weighHour_92 : decode cX9_weighHour 92 = .ok (.getfield 21, 3) := by decide +kernel
theorem dX9_weighHour_95 : decode cX9_weighHour 95 = .ok (.getfield 375, 3) := by decide +kernel
theorem dX9_weighHour_98 : decode cX9_weighHour 98 = .ok (.isub, 1) := by decide +kernel
theorem dX9_weighHour_99 : decode cX9_weighHour 99 = .ok (.i2l, 1) := by decide +kernel
theorem dX9_weighHour_100 : decode cX9_weighHour 100 = .ok (.lmul, 1) := by decide +kernel
theorem dX9_weighHour_101 : decode cX9_weighHour 101 = .ok (.ladd, 1) := by decide +kernel
theorem dX9_weighHour_102 : decode cX9_weighHour 102 = .ok (.lastore, 1) := by decide +kernel
theorem dX9_weighHour_103 : decode cX9_weighHour 103 = .ok (.aload_n 0, 1) := by decide +kernel
theorem dX9_weighHour_104 : decode cX9_weighHour 104 = .ok (.getfield 74, 3) := by decide +kernel
theorem dX9_weighHour_107 : decode cX9_weighHour 107 = .ok (.iload 5, 2) := by decide +kernel
theorem dX9_weighHour_109 : decode cX9_weighHour 109 = .ok (.dup2, 1) := by decide +kernel
theorem dX9_weighHour_110 : decode cX9_weighHour 110 = .ok (.laload, 1) := by decide +kernel
theorem dX9_weighHour_111 : decode cX9_weighHour 111 = .ok (.aload_n 0, 1) := by decide +kernel
theorem dX9_weighHour_112 : decode cX9_weighHour 112 = .ok (.getfield 70, 3) := by decide +kernel
theorem dX9_weighHour_115 : decode cX9_weighHour 115 = .ok (.iload_n 3, 1) := by decide +kernel
theorem dX9_weighHour_116 : decode cX9_weighHour 116 = .ok (.laload, 1) := by decide +kernel
theorem dX9_weighHour_117 : decode cX9_weighHour 117 = .ok (.aload_n 0, 1) := by decide +kernel
theorem dX9_weighHour_118 : decode cX9_weighHour 118 = .ok (.getfield 21, 3) := by decide +kernel
theorem dX9_weighHour_121 : decode cX9_weighHour 121 = .ok (.getfield 375, 3) := by decide +kernel
theorem dX9_weighHour_124 : decode cX9_weighHour 124 = .ok (.i2l, 1) := by decide +kernel
theorem dX9_weighHour_125 : decode cX9_weighHour 125 = .ok (.lmul, 1) := by decide +kernel
theorem dX9_weighHour_126 : decode cX9_weighHour 126 = .ok (.ladd, 1) := by decide +kernel
theorem dX9_weighHour_127 : decode cX9_weighHour 127 = .ok (.lastore, 1) := by decide +kernel
theorem dX9_weighHour_128 : decode cX9_weighHour 128 = .ok (.iinc 3 1, 3) := by decide +kernel
theorem dX9_weighHour_131 : decode cX9_weighHour 131 = .ok (.goto (-105), 3) := by decide +kernel
theorem dX9_weighHour_134 : decode cX9_weighHour 134 = .ok (.aload_n 0, 1) := by decide +kernel
theorem dX9_weighHour_135 : decode cX9_weighHour 135 = .ok (.getfield 70, 3) := by decide +kernel
theorem dX9_weighHour_138 : decode cX9_weighHour 138 = .ok (.astore_n 3, 1) := by decide +kernel
theorem dX9_weighHour_139 : decode cX9_weighHour 139 = .ok (.aload_n 0, 1) := by decide +kernel
theorem dX9_weighHour_140 : decode cX9_weighHour 140 = .ok (.aload_n 0, 1) := by decide +kernel
theorem dX9_weighHour_141 : decode cX9_weighHour 141 = .ok (.getfield 74, 3) := by decide +kernel
theorem dX9_weighHour_144 : decode cX9_weighHour 144 = .ok (.putfield 70, 3) := by decide +kernel
theorem dX9_weighHour_147 : decode cX9_weighHour 147 = .ok (.aload_n 0, 1) := by decide +kernel
theorem dX9_weighHour_148 : decode cX9_weighHour 148 = .ok (.aload_n 3, 1) := by decide +kernel
theorem dX9_weighHour_149 : decode cX9_weighHour 149 = .ok (.putfield 74, 3) := by decide +kernel
theorem dX9_weighHour_152 : decode cX9_weighHour 152 = .ok (.return_, 1) := by decide +kernel
theorem dX9_isTray_0 : decode cX9_isTray 0 = .ok (.iload_n 0, 1) := by decide +kernel
theorem dX9_isTray_1 : decode cX9_isTray 1 = .ok (.ifCond .lt 12, 3) := by decide +kernel
theorem dX9_isTray_4 : decode cX9_isTray 4 = .ok (.iload_n 0, 1) := by decide +kernel
theorem dX9_isTray_5 : decode cX9_isTray 5 = .ok (.iconst 4, 1) := by decide +kernel
theorem dX9_isTray_6 : decode cX9_isTray 6 = .ok (.if_icmp .ge 7, 3) := by decide +kernel
theorem dX9_isTray_9 : decode cX9_isTray 9 = .ok (.iconst 1, 1) := by decide +kernel
theorem dX9_isTray_10 : decode cX9_isTray 10 = .ok (.goto 4, 3) := by decide +kernel
theorem dX9_isTray_13 : decode cX9_isTray 13 = .ok (.iconst 0, 1) := by decide +kernel
theorem dX9_isTray_14 : decode cX9_isTray 14 = .ok (.ireturn, 1) := by decide +kernel
theorem dX9_numbers_0 : decode cX9_numbers 0 = .ok (.iload_n 1, 1) := by decide +kernel
theorem dX9_numbers_1 : decode cX9_numbers 1 = .ok (.invokestatic 210, 3) := by decide +kernel
theorem dX9_numbers_4 : decode cX9_numbers 4 = .ok (.ifCond .eq 12, 3) := by decide +kernel
theorem dX9_numbers_7 : decode cX9_numbers 7 = .ok (.iload_n 2, 1) := by decide +kernel
theorem dX9_numbers_8 : decode cX9_numbers 8 = .ok (.ifCond .lt 8, 3) := by decide +kernel
theorem dX9_numbers_11 : decode cX9_numbers 11 = .ok (.iload_n 2, 1) := by decide +kernel
theorem dX9_numbers_12 : decode cX9_numbers 12 = .ok (.iconst 3, 1) := by decide +kernel
theorem dX9_numbers_13 : decode cX9_numbers 13 = .ok (.if_icmp .le 6, 3) := by decide +kernel
theorem dX9_numbers_16 : decode cX9_numbers 16 = .ok (.bipush (-2), 2) := by decide +kernel
theorem dX9_numbers_18 : decode cX9_numbers 18 = .ok (.ireturn, 1) := by decide +kernel
theorem dX9_numbers_19 : decode cX9_numbers 19 = .ok (.iload_n 3, 1) := by decide +kernel
theorem dX9_numbers_20 : decode cX9_numbers 20 = .ok (.ifCond .lt 9, 3) := by decide +kernel
theorem dX9_numbers_23 : decode cX9_numbers 23 = .ok (.iload_n 3, 1) := by decide +kernel
theorem dX9_numbers_24 : decode cX9_numbers 24 = .ok (.bipush 40, 2) := by decide +kernel
theorem dX9_numbers_26 : decode cX9_numbers 26 = .ok (.if_icmp .le 6, 3) := by decide +kernel
theorem dX9_numbers_29 : decode cX9_numbers 29 = .ok (.bipush (-3), 2) := by decide +kernel
theorem dX9_numbers_31 : decode cX9_numbers 31 = .ok (.ireturn, 1) := by decide +kernel
theorem dX9_numbers_32 : decode cX9_numbers 32 = .ok (.aload_n 0, 1) := by decide +kernel
theorem dX9_numbers_33 : decode cX9_numbers 33 = .ok (.getfield 48, 3) := by decide +kernel
theorem dX9_numbers_36 : decode cX9_numbers 36 = .ok (.iload_n 1, 1) := by decide +kernel
theorem dX9_numbers_37 : decode cX9_numbers 37 = .ok (.aaload, 1) := by decide +kernel
theorem dX9_numbers_38 : decode cX9_numbers 38 = .ok (.iload_n 2, 1) := by decide +kernel
theorem dX9_numbers_39 : decode cX9_numbers 39 = .ok (.iload_n 3, 1) := by decide +kernel
theorem dX9_numbers_40 : decode cX9_numbers 40 = .ok (.invokevirtual 378, 3) := by decide +kernel
theorem dX9_numbers_43 : decode cX9_numbers 43 = .ok (.iconst 0, 1) := by decide +kernel
theorem dX9_numbers_44 : decode cX9_numbers 44 = .ok (.ireturn, 1) := by decide +kernel
theorem dX9_write_0 : decode cX9_write 0 = .ok (.iload_n 1, 1) := by decide +kernel
theorem dX9_write_1 : decode cX9_write 1 = .ok (.invokestatic 210, 3) := by decide +kernel
theorem dX9_write_4 : decode cX9_write 4 = .ok (.ifCond .ne 7, 3) := by decide +kernel
theorem dX9_write_7 : decode cX9_write 7 = .ok (.ldc2_w 381, 3) := by decide +kernel
theorem dX9_write_10 : decode cX9_write 10 = .ok (.lreturn, 1) := by decide +kernel
theorem dX9_write_11 : decode cX9_write 11 = .ok (.aload_n 0, 1) := by decide +kernel
theorem dX9_write_12 : decode cX9_write 12 = .ok (.getfield 48, 3) := by decide +kernel
theorem dX9_write_15 : decode cX9_write 15 = .ok (.iload_n 1, 1) := by decide +kernel
theorem dX9_write_16 : decode cX9_write 16 = .ok (.aaload, 1) := by decide +kernel
theorem dX9_write_17 : decode cX9_write 17 = .ok (.astore 5, 2) := by decide +kernel
theorem dX9_write_19 : decode cX9_write 19 = .ok (.aload 5, 2) := by decide +kernel
theorem dX9_write_21 : decode cX9_write 21 = .ok (.getfield 213, 3) := by decide +kernel
theorem dX9_write_24 : decode cX9_write 24 = .ok (.ifCond .eq 7, 3) := by decide +kernel
theorem dX9_write_27 : decode cX9_write 27 = .ok (.ldc2_w 383, 3) := by decide +kernel
theorem dX9_write_30 : decode cX9_write 30 = .ok (.lreturn, 1) := by decide +kernel
theorem dX9_write_31 : decode cX9_write 31 = .ok (.iload_n 2, 1) := by decide +kernel
theorem dX9_write_32 : decode cX9_write 32 = .ok (.ifCond .lt 12, 3) := by decide +kernel
theorem dX9_write_35 : decode cX9_write 35 = .ok (.iload_n 2, 1) := by decide +kernel
theorem dX9_write_36 : decode cX9_write 36 = .ok (.aload 5, 2) := by decide +kernel
theorem dX9_write_38 : decode cX9_write 38 = .ok (.getfield 217, 3) := by decide +kernel
theorem dX9_write_41 : decode cX9_write 41 = .ok (.if_icmp .lt 7, 3) := by decide +kernel
theorem dX9_write_44 : decode cX9_write 44 = .ok (.ldc2_w 385, 3) := by decide +kernel
theorem dX9_write_47 : decode cX9_write 47 = .ok (.lreturn, 1) := by decide +kernel
theorem dX9_write_48 : decode cX9_write 48 = .ok (.aload 5, 2) := by decide +kernel
theorem dX9_write_50 : decode cX9_write 50 = .ok (.iload_n 2, 1) := by decide +kernel
theorem dX9_write_51 : decode cX9_write 51 = .ok (.lload_n 3, 1) := by decide +kernel
theorem dX9_write_52 : decode cX9_write 52 = .ok (.invokevirtual 387, 3) := by decide +kernel
theorem dX9_write_55 : decode cX9_write 55 = .ok (.aload 5, 2) := by decide +kernel
theorem dX9_write_57 : decode cX9_write 57 = .ok (.iload_n 2, 1) := by decide +kernel
theorem dX9_write_58 : decode cX9_write 58 = .ok (.invokevirtual 220, 3) := by decide +kernel
theorem dX9_write_61 : decode cX9_write 61 = .ok (.lreturn, 1) := by decide +kernel
theorem dX9_lists_0 : decode cX9_lists 0 = .ok (.iload_n 1, 1) := by decide +kernel
theorem dX9_lists_1 : decode cX9_lists 1 = .ok (.invokestatic 210, 3) := by decide +kernel
theorem dX9_lists_4 : decode cX9_lists 4 = .ok (.ifCond .ne 6, 3) := by decide +kernel
theorem dX9_lists_7 : decode cX9_lists 7 = .ok (.bipush (-2), 2) := by decide +kernel
theorem dX9_lists_9 : decode cX9_lists 9 = .ok (.ireturn, 1) := by decide +kernel
theorem dX9_lists_10 : decode cX9_lists 10 = .ok (.aload_n 0, 1) := by decide +kernel
theorem dX9_lists_11 : decode cX9_lists 11 = .ok (.getfield 48, 3) := by decide +kernel
theorem dX9_lists_14 : decode cX9_lists 14 = .ok (.iload_n 1, 1) := by decide +kernel
theorem dX9_lists_15 : decode cX9_lists 15 = .ok (.aaload, 1) := by decide +kernel
theorem dX9_lists_16 : decode cX9_lists 16 = .ok (.astore_n 3, 1) := by decide +kernel
theorem dX9_lists_17 : decode cX9_lists 17 = .ok (.aload_n 3, 1) := by decide +kernel
theorem dX9_lists_18 : decode cX9_lists 18 = .ok (.getfield 213, 3) := by decide +kernel
theorem dX9_lists_21 : decode cX9_lists 21 = .ok (.ifCond .eq 6, 3) := by decide +kernel
theorem dX9_lists_24 : decode cX9_lists 24 = .ok (.bipush (-6), 2) := by decide +kernel
theorem dX9_lists_26 : decode cX9_lists 26 = .ok (.ireturn, 1) := by decide +kernel
theorem dX9_lists_27 : decode cX9_lists 27 = .ok (.aload_n 0, 1) := by decide +kernel
theorem dX9_lists_28 : decode cX9_lists 28 = .ok (.iload_n 2, 1) := by decide +kernel
theorem dX9_lists_29 : decode cX9_lists 29 = .ok (.i2l, 1) := by decide +kernel
theorem dX9_lists_30 : decode cX9_lists 30 = .ok (.invokevirtual 144, 3) := by decide +kernel
theorem dX9_lists_33 : decode cX9_lists 33 = .ok (.ifCond .ne 6, 3) := by decide +kernel
theorem dX9_lists_36 : decode cX9_lists 36 = .ok (.bipush (-3), 2) := by decide +kernel
theorem dX9_lists_38 : decode cX9_lists 38 = .ok (.ireturn, 1) := by decide +kernel
theorem dX9_lists_39 : decode cX9_lists 39 = .ok (.aload_n 0, 1) := by decide +kernel
theorem dX9_lists_40 : decode cX9_lists 40 = .ok (.invokevirtual 248, 3) := by decide +kernel
theorem dX9_lists_43 : decode cX9_lists 43 = .ok (.astore 4, 2) := by decide +kernel
theorem dX9_lists_45 : decode cX9_lists 45 = .ok (.aload 4, 2) := by decide +kernel
theorem dX9_lists_47 : decode cX9_lists 47 = .ok (.iload_n 2, 1) := by decide +kernel
theorem dX9_lists_48 : decode cX9_lists 48 = .ok (.invokevirtual 252, 3) := by decide +kernel
theorem dX9_lists_51 : decode cX9_lists 51 = .ok (.istore 5, 2) := by decide +kernel
theorem dX9_lists_53 : decode cX9_lists 53 = .ok (.iload 5, 2) := by decide +kernel
theorem dX9_lists_55 : decode cX9_lists 55 = .ok (.iconst (-1), 1) := by decide +kernel
theorem dX9_lists_56 : decode cX9_lists 56 = .ok (.if_icmp .ne 6, 3) := by decide +kernel
theorem dX9_lists_59 : decode cX9_lists 59 = .ok (.bipush (-5), 2) := by decide +kernel
theorem dX9_lists_61 : decode cX9_lists 61 = .ok (.ireturn, 1) := by decide +kernel
theorem dX9_lists_62 : decode cX9_lists 62 = .ok (.iload 5, 2) := by decide +kernel
theorem dX9_lists_64 : decode cX9_lists 64 = .ok (.aload_n 3, 1) := by decide +kernel
theorem dX9_lists_65 : decode cX9_lists 65 = .ok (.getfield 217, 3) := by decide +kernel
theorem dX9_lists_68 : decode cX9_lists 68 = .ok (.invokestatic 391, 3) := by decide +kernel
theorem dX9_lists_71 : decode cX9_lists 71 = .ok (.istore 6, 2) := by decide +kernel
theorem dX9_lists_73 : decode cX9_lists 73 = .ok (.iconst 0, 1) := by decide +kernel
theorem dX9_lists_74 : decode cX9_lists 74 = .ok (.istore 7, 2) := by decide +kernel
theorem dX9_lists_76 : decode cX9_lists 76 = .ok (.iload 7, 2) := by decide +kernel
theorem dX9_lists_78 : decode cX9_lists 78 = .ok (.iload 6, 2) := by decide +kernel
theorem dX9_lists_80 : decode cX9_lists 80 = .ok (.if_icmp .ge 23, 3) := by decide +kernel
theorem dX9_lists_83 : decode cX9_lists 83 = .ok (.aload_n 3, 1) := by decide +kernel
theorem dX9_lists_84 : decode cX9_lists 84 = .ok (.iload 7, 2) := by decide +kernel
theorem dX9_lists_86 : decode cX9_lists 86 = .ok (.aload 4, 2) := by decide +kernel
theorem dX9_lists_88 : decode cX9_lists 88 = .ok (.iload 7, 2) := by decide +kernel
theorem dX9_lists_90 : decode cX9_lists 90 = .ok (.invokevirtual 255, 3) := by decide +kernel
theorem dX9_lists_93 : decode cX9_lists 93 = .ok (.i2l, 1) := by decide +kernel
theorem dX9_lists_94 : decode cX9_lists 94 = .ok (.invokevirtual 387, 3) := by decide +kernel
theorem dX9_lists_97 : decode cX9_lists 97 = .ok (.iinc 7 1, 3) := by decide +kernel
theorem dX9_lists_100 : decode cX9_lists 100 = .ok (.goto (-24), 3) := by decide +kernel
theorem dX9_lists_103 : decode cX9_lists 103 = .ok (.iload 6, 2) := by decide +kernel
theorem dX9_lists_105 : decode cX9_lists 105 = .ok (.ireturn, 1) := by decide +kernel
theorem dX9_isImage_0 : decode cX9_isImage 0 = .ok (.iload_n 0, 1) := by decide +kernel
theorem dX9_isImage_1 : decode cX9_isImage 1 = .ok (.ifCond .lt 12, 3) := by decide +kernel
theorem dX9_isImage_4 : decode cX9_isImage 4 = .ok (.iload_n 0, 1) := by decide +kernel
theorem dX9_isImage_5 : decode cX9_isImage 5 = .ok (.iconst 2, 1) := by decide +kernel
theorem dX9_isImage_6 : decode cX9_isImage 6 = .ok (.if_icmp .ge 7, 3) := by decide +kernel
theorem dX9_isImage_9 : decode cX9_isImage 9 = .ok (.iconst 1, 1) := by decide +kernel
theorem dX9_isImage_10 : decode cX9_isImage 10 = .ok (.goto 4, 3) := by decide +kernel
theorem dX9_isImage_13 : decode cX9_isImage 13 = .ok (.iconst 0, 1) := by decide +kernel
theorem dX9_isImage_14 : decode cX9_isImage 14 = .ok (.ireturn, 1) := by decide +kernel
theorem dX9_image_0 : decode cX9_image 0 = .ok (.iload_n 1, 1) := by decide +kernel
theorem dX9_image_1 : decode cX9_image 1 = .ok (.invokestatic 394, 3) := by decide +kernel
theorem dX9_image_4 : decode cX9_image 4 = .ok (.ifCond .ne 6, 3) := by decide +kernel
theorem dX9_image_7 : decode cX9_image 7 = .ok (.bipush (-2), 2) := by decide +kernel
theorem dX9_image_9 : decode cX9_image 9 = .ok (.ireturn, 1) := by decide +kernel
theorem dX9_image_10 : decode cX9_image 10 = .ok (.aload_n 0, 1) := by decide +kernel
theorem dX9_image_11 : decode cX9_image 11 = .ok (.getfield 39, 3) := by decide +kernel
theorem dX9_image_14 : decode cX9_image 14 = .ok (.iload_n 1, 1) := by decide +kernel
theorem dX9_image_15 : decode cX9_image 15 = .ok (.aload_n 0, 1) := by decide +kernel
theorem dX9_image_16 : decode cX9_image 16 = .ok (.getfield 21, 3) := by decide +kernel
theorem dX9_image_19 : decode cX9_image 19 = .ok (.aastore, 1) := by decide +kernel
theorem dX9_image_20 : decode cX9_image 20 = .ok (.aload_n 0, 1) := by decide +kernel
theorem dX9_image_21 : decode cX9_image 21 = .ok (.getfield 43, 3) := by decide +kernel
theorem dX9_image_24 : decode cX9_image 24 = .ok (.iload_n 1, 1) := by decide +kernel
theorem dX9_image_25 : decode cX9_image 25 = .ok (.aaload, 1) := by decide +kernel
theorem dX9_image_26 : decode cX9_image 26 = .ok (.aload_n 0, 1) := by decide +kernel
theorem dX9_image_27 : decode cX9_image 27 = .ok (.getfield 28, 3) := by decide +kernel
theorem dX9_image_30 : decode cX9_image 30 = .ok (.invokevirtual 81, 3) := by decide +kernel
theorem dX9_image_33 : decode cX9_image 33 = .ok (.iconst 0, 1) := by decide +kernel
theorem dX9_image_34 : decode cX9_image 34 = .ok (.ireturn, 1) := by decide +kernel
theorem dX9_restore_0 : decode cX9_restore 0 = .ok (.iload_n 1, 1) := by decide +kernel
theorem dX9_restore_1 : decode cX9_restore 1 = .ok (.invokestatic 394, 3) := by decide +kernel
theorem dX9_restore_4 : decode cX9_restore 4 = .ok (.ifCond .ne 6, 3) := by decide +kernel
theorem dX9_restore_7 : decode cX9_restore 7 = .ok (.bipush (-2), 2) := by decide +kernel
theorem dX9_restore_9 : decode cX9_restore 9 = .ok (.ireturn, 1) := by decide +kernel
theorem dX9_restore_10 : decode cX9_restore 10 = .ok (.aload_n 0, 1) := by decide +kernel
theorem dX9_restore_11 : decode cX9_restore 11 = .ok (.getfield 39, 3) := by decide +kernel
theorem dX9_restore_14 : decode cX9_restore 14 = .ok (.iload_n 1, 1) := by decide +kernel
theorem dX9_restore_15 : decode cX9_restore 15 = .ok (.aaload, 1) := by decide +kernel
theorem dX9_restore_16 : decode cX9_restore 16 = .ok (.ifnonnull 6, 3) := by decide +kernel
theorem dX9_restore_19 : decode cX9_restore 19 = .ok (.bipush (-5), 2) := by decide +kernel
theorem dX9_restore_21 : decode cX9_restore 21 = .ok (.ireturn, 1) := by decide +kernel
theorem dX9_restore_22 : decode cX9_restore 22 = .ok (.aload_n 0, 1) := by decide +kernel
theorem dX9_restore_23 : decode cX9_restore 23 = .ok (.aload_n 0, 1) := by decide +kernel
theorem dX9_restore_24 : decode cX9_restore 24 = .ok (.getfield 39, 3) := by decide +kernel
theorem dX9_restore_27 : decode cX9_restore 27 = .ok (.iload_n 1, 1) := by decide +kernel
theorem dX9_restore_28 : decode cX9_restore 28 = .ok (.aaload, 1) := by decide +kernel
theorem dX9_restore_29 : decode cX9_restore 29 = .ok (.putfield 21, 3) := by decide +kernel
theorem dX9_restore_32 : decode cX9_restore 32 = .ok (.aload_n 0, 1) := by decide +kernel
theorem dX9_restore_33 : decode cX9_restore 33 = .ok (.getfield 28, 3) := by decide +kernel
theorem dX9_restore_36 : decode cX9_restore 36 = .ok (.aload_n 0, 1) := by decide +kernel
theorem dX9_restore_37 : decode cX9_restore 37 = .ok (.getfield 43, 3) := by decide +kernel
theorem dX9_restore_40 : decode cX9_restore 40 = .ok (.iload_n 1, 1) := by decide +kernel
theorem dX9_restore_41 : decode cX9_restore 41 = .ok (.aaload, 1) := by decide +kernel
theorem dX9_restore_42 : decode cX9_restore 42 = .ok (.invokevirtual 81, 3) := by decide +kernel
theorem dX9_restore_45 : decode cX9_restore 45 = .ok (.aload_n 0, 1) := by decide +kernel
theorem dX9_restore_46 : decode cX9_restore 46 = .ok (.iconst 0, 1) := by decide +kernel
theorem dX9_restore_47 : decode cX9_restore 47 = .ok (.putfield 102, 3) := by decide +kernel
theorem dX9_restore_50 : decode cX9_restore 50 = .ok (.iconst 0, 1) := by decide +kernel
theorem dX9_restore_51 : decode cX9_restore 51 = .ok (.ireturn, 1) := by decide +kernel
theorem dX9_count_0 : decode cX9_count 0 = .ok (.iload_n 1, 1) := by decide +kernel
theorem dX9_count_1 : decode cX9_count 1 = .ok (.tableswitch 139 0 9 #[55, 63, 71, 79, 87, 102, 110, 118, 123, 131], 55) := by decide +kernel
theorem dX9_count_56 : decode cX9_count 56 = .ok (.aload_n 0, 1) := by decide +kernel
theorem dX9_count_57 : decode cX9_count 57 = .ok (.getfield 21, 3) := by decide +kernel
theorem dX9_count_60 : decode cX9_count 60 = .ok (.getfield 134, 3) := by decide +kernel
theorem dX9_count_63 : decode cX9_count 63 = .ok (.ireturn, 1) := by decide +kernel
theorem dX9_count_64 : decode cX9_count 64 = .ok (.aload_n 0, 1) := by decide +kernel
theorem dX9_count_65 : decode cX9_count 65 = .ok (.getfield 21, 3) := by decide +kernel
theorem dX9_count_68 : decode cX9_count 68 = .ok (.getfield 111, 3) := by decide +kernel
theorem dX9_count_71 : decode cX9_count 71 = .ok (.ireturn, 1) := by decide +kernel
theorem dX9_count_72 : decode cX9_count 72 = .ok (.aload_n 0, 1) := by decide +kernel
theorem dX9_count_73 : decode cX9_count 73 = .ok (.getfield 21, 3) := by decide +kernel
theorem dX9_count_76 : decode cX9_count 76 = .ok (.getfield 177, 3) := by decide +kernel
theorem dX9_count_79 : decode cX9_count 79 = .ok (.ireturn, 1) := by decide +kernel
theorem dX9_count_80 : decode cX9_count 80 = .ok (.aload_n 0, 1) := by decide +kernel
theorem dX9_count_81 : decode cX9_count 81 = .ok (.getfield 28, 3) := by decide +kernel
theorem dX9_count_84 : decode cX9_count 84 = .ok (.getfield 137, 3) := by decide +kernel
theorem dX9_count_87 : decode cX9_count 87 = .ok (.ireturn, 1) := by decide +kernel
theorem dX9_count_88 : decode cX9_count 88 = .ok (.aload_n 0, 1) := by decide +kernel
theorem dX9_count_89 : decode cX9_count 89 = .ok (.getfield 21, 3) := by decide +kernel
theorem dX9_count_92 : decode cX9_count 92 = .ok (.aload_n 0, 1) := by decide +kernel
theorem dX9_count_93 : decode cX9_count 93 = .ok (.getfield 28, 3) := by decide +kernel
theorem dX9_count_96 : decode cX9_count 96 = .ok (.getfield 114, 3) := by decide +kernel
theorem dX9_count_99 : decode cX9_count 99 = .ok (.invokevirtual 156, 3) := by decide +kernel
theorem dX9_count_102 : decode cX9_count 102 = .ok (.ireturn, 1) := by decide +kernel
theorem dX9_count_103 : decode cX9_count 103 = .ok (.aload_n 0, 1) := by decide +kernel
theorem dX9_count_104 : decode cX9_count 104 = .ok (.getfield 28, 3) := by decide +kernel
theorem dX9_count_107 : decode cX9_count 107 = .ok (.getfield 127, 3) := by decide +kernel
theorem dX9_count_110 : decode cX9_count 110 = .ok (.ireturn, 1) := by decide +kernel
theorem dX9_count_111 : decode cX9_count 111 = .ok (.aload_n 0, 1) := by decide +kernel
theorem dX9_count_112 : decode cX9_count 112 = .ok (.getfield 28, 3) := by decide +kernel
theorem dX9_count_115 : decode cX9_count 115 = .ok (.getfield 163, 3) := by decide +kernel
theorem dX9_count_118 : decode cX9_count 118 = .ok (.ireturn, 1) := by decide +kernel
theorem dX9_count_119 : decode cX9_count 119 = .ok (.aload_n 0, 1) := by decide +kernel
theorem dX9_count_120 : decode cX9_count 120 = .ok (.getfield 102, 3) := by decide +kernel
theorem dX9_count_123 : decode cX9_count 123 = .ok (.ireturn, 1) := by decide +kernel
theorem dX9_count_124 : decode cX9_count 124 = .ok (.aload_n 0, 1) := by decide +kernel
theorem dX9_count_125 : decode cX9_count 125 = .ok (.getfield 10, 3) := by decide +kernel
theorem dX9_count_128 : decode cX9_count 128 = .ok (.getfield 85, 3) := by decide +kernel
theorem dX9_count_131 : decode cX9_count 131 = .ok (.ireturn, 1) := by decide +kernel
theorem dX9_count_132 : decode cX9_count 132 = .ok (.aload_n 0, 1) := by decide +kernel
theorem dX9_count_133 : decode cX9_count 133 = .ok (.getfield 21, 3) := by decide +kernel
theorem dX9_count_136 : decode cX9_count 136 = .ok (.getfield 105, 3) := by decide +kernel
theorem dX9_count_139 : decode cX9_count 139 = .ok (.ireturn, 1) := by decide +kernel
theorem dX9_count_140 : decode cX9_count 140 = .ok (.iconst (-1), 1) := by decide +kernel
theorem dX9_count_141 : decode cX9_count 141 = .ok (.ireturn, 1) := by decide +kernel
theorem dX10_within_0 : decode cX10_within 0 = .ok (.lload_n 0, 1) := by decide +kernel
theorem dX10_within_1 : decode cX10_within 1 = .ok (.lload_n 2, 1) := by decide +kernel
theorem dX10_within_2 : decode cX10_within 2 = .ok (.lcmp, 1) := by decide +kernel
theorem dX10_within_3 : decode cX10_within 3 = .ok (.ifCond .lt 14, 3) := by decide +kernel
theorem dX10_within_6 : decode cX10_within 6 = .ok (.lload_n 0, 1) := by decide +kernel
theorem dX10_within_7 : decode cX10_within 7 = .ok (.lload 4, 2) := by decide +kernel
theorem dX10_within_9 : decode cX10_within 9 = .ok (.lcmp, 1) := by decide +kernel
theorem dX10_within_10 : decode cX10_within 10 = .ok (.ifCond .gt 7, 3) := by decide +kernel
theorem dX10_within_13 : decode cX10_within 13 = .ok (.iconst 1, 1) := by decide +kernel
theorem dX10_within_14 : decode cX10_within 14 = .ok (.goto 4, 3) := by decide +kernel
theorem dX10_within_17 : decode cX10_within 17 = .ok (.iconst 0, 1) := by decide +kernel
theorem dX10_within_18 : decode cX10_within 18 = .ok (.ireturn, 1) := by decide +kernel
theorem dX10_init_0 : decode cX10_init 0 = .ok (.aload_n 0, 1) := by decide +kernel
theorem dX10_init_1 : decode cX10_init 1 = .ok (.invokespecial 7, 3) := by decide +kernel
theorem dX10_init_4 : decode cX10_init 4 = .ok (.aload_n 0, 1) := by decide +kernel
theorem dX10_init_5 : decode cX10_init 5 = .ok (.sipush 3531, 3) := by decide +kernel
theorem dX10_init_8 : decode cX10_init 8 = .ok (.newarray .int, 2) := by decide +kernel
theorem dX10_init_10 : decode cX10_init 10 = .ok (.putfield 13, 3) := by decide +kernel
theorem dX10_init_13 : decode cX10_init 13 = .ok (.aload_n 0, 1) := by decide +kernel
theorem dX10_init_14 : decode cX10_init 14 = .ok (.iconst 2, 1) := by decide +kernel
theorem dX10_init_15 : decode cX10_init 15 = .ok (.newarray .boolean, 2) := by decide +kernel
theorem dX10_init_17 : decode cX10_init 17 = .ok (.putfield 17, 3) := by decide +kernel
theorem dX10_init_20 : decode cX10_init 20 = .ok (.aload_n 0, 1) := by decide +kernel
theorem dX10_init_21 : decode cX10_init 21 = .ok (.sipush 900, 3) := by decide +kernel
theorem dX10_init_24 : decode cX10_init 24 = .ok (.newarray .int, 2) := by decide +kernel
theorem dX10_init_26 : decode cX10_init 26 = .ok (.putfield 21, 3) := by decide +kernel
theorem dX10_init_29 : decode cX10_init 29 = .ok (.aload_n 0, 1) := by decide +kernel
theorem dX10_init_30 : decode cX10_init 30 = .ok (.sipush 1177, 3) := by decide +kernel
theorem dX10_init_33 : decode cX10_init 33 = .ok (.newarray .int, 2) := by decide +kernel
theorem dX10_init_35 : decode cX10_init 35 = .ok (.putfield 24, 3) := by decide +kernel
theorem dX10_init_38 : decode cX10_init 38 = .ok (.aload_n 0, 1) := by decide +kernel
theorem dX10_init_39 : decode cX10_init 39 = .ok (.iconst (-1), 1) := by decide +kernel
theorem dX10_init_40 : decode cX10_init 40 = .ok (.putfield 27, 3) := by decide +kernel
theorem dX10_init_43 : decode cX10_init 43 = .ok (.aload_n 0, 1) := by decide +kernel
theorem dX10_init_44 : decode cX10_init 44 = .ok (.sipush 900, 3) := by decide +kernel
theorem dX10_init_47 : decode cX10_init 47 = .ok (.newarray .int, 2) := by decide +kernel
theorem dX10_init_49 : decode cX10_init 49 = .ok (.putfield 30, 3) := by decide +kernel
theorem dX10_init_52 : decode cX10_init 52 = .ok (.aload_n 0, 1) := by decide +kernel
theorem dX10_init_53 : decode cX10_init 53 = .ok (.bipush 9, 2) := by decide +kernel
theorem dX10_init_55 : decode cX10_init 55 = .ok (.newarray .int, 2) := by decide +kernel
theorem dX10_init_57 : decode cX10_init 57 = .ok (.putfield 33, 3) := by decide +kernel
theorem dX10_init_60 : decode cX10_init 60 = .ok (.aload_n 0, 1) := by decide +kernel
theorem dX10_init_61 : decode cX10_init 61 = .ok (.bipush 23, 2) := by decide +kernel
theorem dX10_init_63 : decode cX10_init 63 = .ok (.newarray .int, 2) := by decide +kernel
theorem dX10_init_65 : decode cX10_init 65 = .ok (.putfield 36, 3) := by decide +kernel
theorem dX10_init_68 : decode cX10_init 68 = .ok (.aload_n 0, 1) := by decide +kernel
theorem dX10_init_69 : decode cX10_init 69 = .ok (.ldc 39, 2) := by decide +kernel
theorem dX10_init_71 : decode cX10_init 71 = .ok (.newarray .int, 2) := by decide +kernel
theorem dX10_init_73 : decode cX10_init 73 = .ok (.putfield 40, 3) := by decide +kernel
theorem dX10_init_76 : decode cX10_init 76 = .ok (.aload_n 0, 1) := by decide +kernel
theorem dX10_init_77 : decode cX10_init 77 = .ok (.ldc 43, 2) := by decide +kernel
theorem dX10_init_79 : decode cX10_init 79 = .ok (.newarray .int, 2) := by decide +kernel
theorem dX10_init_81 : decode cX10_init 81 = .ok (.putfield 44, 3) := by decide +kernel
theorem dX10_init_84 : decode cX10_init 84 = .ok (.aload_n 0, 1) := by decide +kernel
theorem dX10_init_85 : decode cX10_init 85 = .ok (.ldc 39, 2) := by decide +kernel
theorem dX10_init_87 : decode cX10_init 87 = .ok (.newarray .int, 2) := by decide +kernel
theorem dX10_init_89 : decode cX10_init 89 = .ok (.putfield 47, 3) := by decide +kernel
theorem dX10_init_92 : decode cX10_init 92 = .ok (.aload_n 0, 1) := by decide +kernel
theorem dX10_init_93 : decode cX10_init 93 = .ok (.ldc 39, 2) := by decide +kernel
theorem dX10_init_95 : decode cX10_init 95 = .ok (.newarray .boolean, 2) := by decide +kernel
theorem dX10_init_97 : decode cX10_init 97 = .ok (.putfield 50, 3) := by decide +kernel
theorem dX10_init_100 : decode cX10_init 100 = .ok (.aload_n 0, 1) := by decide +kernel
theorem dX10_init_101 : decode cX10_init 101 = .ok (.ldc 39, 2) := by decide +kernel
theorem dX10_init_103 : decode cX10_init 103 = .ok (.newarray .long, 2) := by decide +kernel
theorem dX10_init_105 : decode cX10_init 105 = .ok (.putfield 53, 3) := by decide +kernel
theorem dX10_init_108 : decode cX10_init 108 = .ok (.aload_n 0, 1) := by decide +kernel
theorem dX10_init_109 : decode cX10_init 109 = .ok (.ldc 39, 2) := by decide +kernel
theorem dX10_init_111 : decode cX10_init 111 = .ok (.newarray .long, 2) := by decide +kernel
theorem dX10_init_113 : decode cX10_init 113 = .ok (.putfield 57, 3) := by decide +kernel
theorem dX10_init_116 : decode cX10_init 116 = .ok (.aload_n 0, 1) := by decide +kernel
theorem dX10_init_117 : decode cX10_init 117 = .ok (.bipush 8, 2) := by decide +kernel
theorem dX10_init_119 : decode cX10_init 119 = .ok (.newarray .int, 2) := by decide +kernel
theorem dX10_init_121 : decode cX10_init 121 = .ok (.putfield 60, 3) := by decide +kernel
theorem dX10_init_124 : decode cX10_init 124 = .ok (.aload_n 0, 1) := by decide +kernel
theorem dX10_init_125 : decode cX10_init 125 = .ok (.bipush 8, 2) := by decide +kernel
theorem dX10_init_127 : decode cX10_init 127 = .ok (.newarray .int, 2) := by decide +kernel
theorem dX10_init_129 : decode cX10_init 129 = .ok (.putfield 63, 3) := by decide +kernel
theorem dX10_init_132 : decode cX10_init 132 = .ok (.aload_n 0, 1) := by decide +kernel
theorem dX10_init_133 : decode cX10_init 133 = .ok (.bipush 8, 2) := by decide +kernel
theorem dX10_init_135 : decode cX10_init 135 = .ok (.newarray .int, 2) := by decide +kernel
theorem dX10_init_137 : decode cX10_init 137 = .ok (.putfield 66, 3) := by decide +kernel
theorem dX10_init_140 : decode cX10_init 140 = .ok (.aload_n 0, 1) := by decide +kernel
theorem dX10_init_141 : decode cX10_init 141 = .ok (.bipush 10, 2) := by decide +kernel
theorem dX10_init_143 : decode cX10_init 143 = .ok (.newarray .int, 2) := by decide +kernel
theorem dX10_init_145 : decode cX10_init 145 = .ok (.putfield 69, 3) := by decide +kernel
theorem dX10_init_148 : decode cX10_init 148 = .ok (.aload_n 0, 1) := by decide +kernel
theorem dX10_init_149 : decode cX10_init 149 = .ok (.ldc 72, 2) := by decide +kernel
theorem dX10_init_151 : decode cX10_init 151 = .ok (.newarray .byte, 2) := by decide +kernel
theorem dX10_init_153 : decode cX10_init 153 = .ok (.putfield 73, 3) := by decide +kernel
theorem dX10_init_156 : decode cX10_init 156 = .ok (.aload_n 0, 1) := by decide +kernel
theorem dX10_init_157 : decode cX10_init 157 = .ok (.iconst 4, 1) := by decide +kernel
theorem dX10_init_158 : decode cX10_init 158 = .ok (.newarray .int, 2) := by decide +kernel
theorem dX10_init_160 : decode cX10_init 160 = .ok (.dup, 1) := by decide +kernel
theorem dX10_init_161 : decode cX10_init 161 = .ok (.iconst 0, 1) := by decide +kernel
theorem dX10_init_162 : decode cX10_init 162 = .ok (.iconst (-1), 1) := by decide +kernel
theorem dX10_init_163 : decode cX10_init 163 = .ok (.iastore, 1) := by decide +kernel
theorem dX10_init_164 : decode cX10_init 164 = .ok (.dup, 1) := by decide +kernel
theorem dX10_init_165 : decode cX10_init 165 = .ok (.iconst 1, 1) := by decide +kernel
theorem dX10_init_166 : decode cX10_init 166 = .ok (.iconst (-1), 1) := by decide +kernel
theorem dX10_init_167 : decode cX10_init 167 = .ok (.iastore, 1) := by decide +kernel
theorem dX10_init_168 : decode cX10_init 168 = .ok (.dup, 1) := by decide +kernel
theorem dX10_init_169 : decode cX10_init 169 = .ok (.iconst 2, 1) := by decide +kernel
theorem dX10_init_170 : decode cX10_init 170 = .ok (.iconst (-1), 1) := by decide +kernel
theorem dX10_init_171 : decode cX10_init 171 = .ok (.iastore, 1) := by decide +kernel
theorem dX10_init_172 : decode cX10_init 172 = .ok (.dup, 1) := by decide +kernel
theorem dX10_init_173 : decode cX10_init 173 = .ok (.iconst 3, 1) := by decide +kernel
theorem dX10_init_174 : decode cX10_init 174 = .ok (.iconst (-1), 1) := by decide +kernel
theorem dX10_init_175 : decode cX10_init 175 = .ok (.iastore, 1) := by decide +kernel
theorem dX10_init_176 : decode cX10_init 176 = .ok (.putfield 77, 3) := by decide +kernel
theorem dX10_init_179 : decode cX10_init 179 = .ok (.aload_n 0, 1) := by decide +kernel
theorem dX10_init_180 : decode cX10_init 180 = .ok (.iconst 4, 1) := by decide +kernel
theorem dX10_init_181 : decode cX10_init 181 = .ok (.newarray .int, 2) := by decide +kernel
theorem dX10_init_183 : decode cX10_init 183 = .ok (.putfield 80, 3) := by decide +kernel
theorem dX10_init_186 : decode cX10_init 186 = .ok (.aload_n 0, 1) := by decide +kernel
theorem dX10_init_187 : decode cX10_init 187 = .ok (.sipush 160, 3) := by decide +kernel
theorem dX10_init_190 : decode cX10_init 190 = .ok (.newarray .long, 2) := by decide +kernel
theorem dX10_init_192 : decode cX10_init 192 = .ok (.putfield 83, 3) := by decide +kernel
theorem dX10_init_195 : decode cX10_init 195 = .ok (.aload_n 0, 1) := by decide +kernel
theorem dX10_init_196 : decode cX10_init 196 = .ok (.getfield 13, 3) := by decide +kernel
theorem dX10_init_199 : decode cX10_init 199 = .ok (.invokestatic 86, 3) := by decide +kernel
theorem dX10_init_202 : decode cX10_init 202 = .ok (.return_, 1) := by decide +kernel
theorem dX10_plain_0 : decode cX10_plain 0 = .ok (.iconst 0, 1) := by decide +kernel
theorem dX10_plain_1 : decode cX10_plain 1 = .ok (.istore_n 1, 1) := by decide +kernel
theorem dX10_plain_2 : decode cX10_plain 2 = .ok (.iload_n 1, 1) := by decide +kernel
theorem dX10_plain_3 : decode cX10_plain 3 = .ok (.sipush 1177, 3) := by decide +kernel
theorem dX10_plain_6 : decode cX10_plain 6 = .ok (.if_icmp .ge 13, 3) := by decide +kernel
theorem dX10_plain_9 : decode cX10_plain 9 = .ok (.aload_n 0, 1) := by decide +kernel
theorem dX10_plain_10 : decode cX10_plain 10 = .ok (.iload_n 1, 1) := by decide +kernel
theorem dX10_plain_11 : decode cX10_plain 11 = .ok (.iconst 0, 1) := by decide +kernel
theorem dX10_plain_12 : decode cX10_plain 12 = .ok (.iastore, 1) := by decide +kernel
theorem dX10_plain_13 : decode cX10_plain 13 = .ok (.iinc 1 1, 3) := by decide +kernel
theorem dX10_plain_16 : decode cX10_plain 16 = .ok (.goto (-14), 3) := by decide +kernel
theorem dX10_plain_19 : decode cX10_plain 19 = .ok (.aload_n 0, 1) := by decide +kernel
theorem dX10_plain_20 : decode cX10_plain 20 = .ok (.iconst 1, 1) := by decide +kernel
theorem dX10_plain_21 : decode cX10_plain 21 = .ok (.iconst 1, 1) := by decide +kernel
theorem dX10_plain_22 : decode cX10_plain 22 = .ok (.iastore, 1) := by decide +kernel
theorem dX10_plain_23 : decode cX10_plain 23 = .ok (.aload_n 0, 1) := by decide +kernel
theorem dX10_plain_24 : decode cX10_plain 24 = .ok (.bipush 26, 2) := by decide +kernel
theorem dX10_plain_26 : decode cX10_plain 26 = .ok (.bipush 9, 2) := by decide +kernel
theorem dX10_plain_28 : decode cX10_plain 28 = .ok (.iastore, 1) := by decide +kernel
theorem dX10_plain_29 : decode cX10_plain 29 = .ok (.return_, 1) := by decide +kernel
theorem dX10_feed_0 : decode cX10_feed 0 = .ok (.aload_n 0, 1) := by decide +kernel
theorem dX10_feed_1 : decode cX10_feed 1 = .ok (.iconst 0, 1) := by decide +kernel
theorem dX10_feed_2 : decode cX10_feed 2 = .ok (.putfield 1, 3) := by decide +kernel
theorem dX10_feed_5 : decode cX10_feed 5 = .ok (.aload_n 0, 1) := by decide +kernel
theorem dX10_feed_6 : decode cX10_feed 6 = .ok (.getfield 90, 3) := by decide +kernel
theorem dX10_feed_9 : decode cX10_feed 9 = .ok (.bipush 20, 2) := by decide +kernel
theorem dX10_feed_11 : decode cX10_feed 11 = .ok (.iadd, 1) := by decide +kernel
theorem dX10_feed_12 : decode cX10_feed 12 = .ok (.sipush 900, 3) := by decide +kernel
theorem dX10_feed_15 : decode cX10_feed 15 = .ok (.if_icmp .le 6, 3) := by decide +kernel
theorem dX10_feed_18 : decode cX10_feed 18 = .ok (.bipush (-5), 2) := by decide +kernel
theorem dX10_feed_20 : decode cX10_feed 20 = .ok (.ireturn, 1) := by decide +kernel
theorem dX10_feed_21 : decode cX10_feed 21 = .ok (.iconst 0, 1) := by decide +kernel
theorem dX10_feed_22 : decode cX10_feed 22 = .ok (.istore 6, 2) := by decide +kernel
theorem dX10_feed_24 : decode cX10_feed 24 = .ok (.iload 6, 2) := by decide +kernel

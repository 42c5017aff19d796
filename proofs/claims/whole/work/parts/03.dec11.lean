theorem dX10_goesHour_8 : decode cX10_goesHour 8 = .ok (.aload_n 0, 1) := by decide +kernel
theorem dX10_goesHour_9 : decode cX10_goesHour 9 = .ok (.getfield 13, 3) := by decide +kernel
theorem dX10_goesHour_12 : decode cX10_goesHour 12 = .ok (.bipush 27, 2) := by decide +kernel
theorem dX10_goesHour_14 : decode cX10_goesHour 14 = .ok (.iaload, 1) := by decide +kernel
theorem dX10_goesHour_15 : decode cX10_goesHour 15 = .ok (.invokevirtual 273, 3) := by decide +kernel
theorem dX10_goesHour_18 : decode cX10_goesHour 18 = .ok (.invokevirtual 276, 3) := by decide +kernel
theorem dX10_goesHour_21 : decode cX10_goesHour 21 = .ok (.aload_n 0, 1) := by decide +kernel
theorem dX10_goesHour_22 : decode cX10_goesHour 22 = .ok (.getfield 13, 3) := by decide +kernel
theorem dX10_goesHour_25 : decode cX10_goesHour 25 = .ok (.bipush 28, 2) := by decide +kernel
theorem dX10_goesHour_27 : decode cX10_goesHour 27 = .ok (.dup2, 1) := by decide +kernel
theorem dX10_goesHour_28 : decode cX10_goesHour 28 = .ok (.iaload, 1) := by decide +kernel
theorem dX10_goesHour_29 : decode cX10_goesHour 29 = .ok (.iconst 1, 1) := by decide +kernel
theorem dX10_goesHour_30 : decode cX10_goesHour 30 = .ok (.iadd, 1) := by decide +kernel
theorem dX10_goesHour_31 : decode cX10_goesHour 31 = .ok (.iastore, 1) := by decide +kernel
theorem dX10_goesHour_32 : decode cX10_goesHour 32 = .ok (.return_, 1) := by decide +kernel
theorem dX10_hour_0 : decode cX10_hour 0 = .ok (.aload_n 0, 1) := by decide +kernel
theorem dX10_hour_1 : decode cX10_hour 1 = .ok (.iconst 0, 1) := by decide +kernel
theorem dX10_hour_2 : decode cX10_hour 2 = .ok (.putfield 1, 3) := by decide +kernel
theorem dX10_hour_5 : decode cX10_hour 5 = .ok (.aload_n 0, 1) := by decide +kernel
theorem dX10_hour_6 : decode cX10_hour 6 = .ok (.aload_n 0, 1) := by decide +kernel
theorem dX10_hour_7 : decode cX10_hour 7 = .ok (.invokevirtual 266, 3) := by decide +kernel
theorem dX10_hour_10 : decode cX10_hour 10 = .ok (.iload_n 1, 1) := by decide +kernel
theorem dX10_hour_11 : decode cX10_hour 11 = .ok (.i2l, 1) := by decide +kernel
theorem dX10_hour_12 : decode cX10_hour 12 = .ok (.invokevirtual 269, 3) := by decide +kernel
theorem dX10_hour_15 : decode cX10_hour 15 = .ok (.istore_n 2, 1) := by decide +kernel
theorem dX10_hour_16 : decode cX10_hour 16 = .ok (.iload_n 2, 1) := by decide +kernel
theorem dX10_hour_17 : decode cX10_hour 17 = .ok (.ifCond .eq 8, 3) := by decide +kernel
theorem dX10_hour_20 : decode cX10_hour 20 = .ok (.bipush (-10), 2) := by decide +kernel
theorem dX10_hour_22 : decode cX10_hour 22 = .ok (.iload_n 2, 1) := by decide +kernel
theorem dX10_hour_23 : decode cX10_hour 23 = .ok (.isub, 1) := by decide +kernel
theorem dX10_hour_24 : decode cX10_hour 24 = .ok (.ireturn, 1) := by decide +kernel
theorem dX10_hour_25 : decode cX10_hour 25 = .ok (.aload_n 0, 1) := by decide +kernel
theorem dX10_hour_26 : decode cX10_hour 26 = .ok (.invokevirtual 279, 3) := by decide +kernel
theorem dX10_hour_29 : decode cX10_hour 29 = .ok (.aload_n 0, 1) := by decide +kernel
theorem dX10_hour_30 : decode cX10_hour 30 = .ok (.iload_n 1, 1) := by decide +kernel
theorem dX10_hour_31 : decode cX10_hour 31 = .ok (.invokevirtual 282, 3) := by decide +kernel
theorem dX10_hour_34 : decode cX10_hour 34 = .ok (.aload_n 0, 1) := by decide +kernel
theorem dX10_hour_35 : decode cX10_hour 35 = .ok (.invokevirtual 285, 3) := by decide +kernel
theorem dX10_hour_38 : decode cX10_hour 38 = .ok (.aload_n 0, 1) := by decide +kernel
theorem dX10_hour_39 : decode cX10_hour 39 = .ok (.getfield 13, 3) := by decide +kernel
theorem dX10_hour_42 : decode cX10_hour 42 = .ok (.bipush 26, 2) := by decide +kernel
theorem dX10_hour_44 : decode cX10_hour 44 = .ok (.iaload, 1) := by decide +kernel
theorem dX10_hour_45 : decode cX10_hour 45 = .ok (.ireturn, 1) := by decide +kernel
theorem dX10_hours_0 : decode cX10_hours 0 = .ok (.aload_n 0, 1) := by decide +kernel
theorem dX10_hours_1 : decode cX10_hours 1 = .ok (.iconst 0, 1) := by decide +kernel
theorem dX10_hours_2 : decode cX10_hours 2 = .ok (.putfield 1, 3) := by decide +kernel
theorem dX10_hours_5 : decode cX10_hours 5 = .ok (.iload_n 1, 1) := by decide +kernel
theorem dX10_hours_6 : decode cX10_hours 6 = .ok (.i2l, 1) := by decide +kernel
theorem dX10_hours_7 : decode cX10_hours 7 = .ok (.lconst 1, 1) := by decide +kernel
theorem dX10_hours_8 : decode cX10_hours 8 = .ok (.ldc2_w 288, 3) := by decide +kernel
theorem dX10_hours_11 : decode cX10_hours 11 = .ok (.invokestatic 152, 3) := by decide +kernel
theorem dX10_hours_14 : decode cX10_hours 14 = .ok (.ifCond .ne 6, 3) := by decide +kernel
theorem dX10_hours_17 : decode cX10_hours 17 = .ok (.bipush (-11), 2) := by decide +kernel
theorem dX10_hours_19 : decode cX10_hours 19 = .ok (.ireturn, 1) := by decide +kernel
theorem dX10_hours_20 : decode cX10_hours 20 = .ok (.aload_n 0, 1) := by decide +kernel
theorem dX10_hours_21 : decode cX10_hours 21 = .ok (.getfield 13, 3) := by decide +kernel
theorem dX10_hours_24 : decode cX10_hours 24 = .ok (.bipush 26, 2) := by decide +kernel
theorem dX10_hours_26 : decode cX10_hours 26 = .ok (.iaload, 1) := by decide +kernel
theorem dX10_hours_27 : decode cX10_hours 27 = .ok (.ifCond .ne 6, 3) := by decide +kernel
theorem dX10_hours_30 : decode cX10_hours 30 = .ok (.bipush (-13), 2) := by decide +kernel
theorem dX10_hours_32 : decode cX10_hours 32 = .ok (.ireturn, 1) := by decide +kernel
theorem dX10_hours_33 : decode cX10_hours 33 = .ok (.aload_n 0, 1) := by decide +kernel
theorem dX10_hours_34 : decode cX10_hours 34 = .ok (.invokevirtual 279, 3) := by decide +kernel
theorem dX10_hours_37 : decode cX10_hours 37 = .ok (.iconst 0, 1) := by decide +kernel
theorem dX10_hours_38 : decode cX10_hours 38 = .ok (.istore_n 2, 1) := by decide +kernel
theorem dX10_hours_39 : decode cX10_hours 39 = .ok (.iload_n 2, 1) := by decide +kernel
theorem dX10_hours_40 : decode cX10_hours 40 = .ok (.iload_n 1, 1) := by decide +kernel
theorem dX10_hours_41 : decode cX10_hours 41 = .ok (.if_icmp .ge 24, 3) := by decide +kernel
theorem dX10_hours_44 : decode cX10_hours 44 = .ok (.aload_n 0, 1) := by decide +kernel
theorem dX10_hours_45 : decode cX10_hours 45 = .ok (.getfield 13, 3) := by decide +kernel
theorem dX10_hours_48 : decode cX10_hours 48 = .ok (.bipush 26, 2) := by decide +kernel
theorem dX10_hours_50 : decode cX10_hours 50 = .ok (.iaload, 1) := by decide +kernel
theorem dX10_hours_51 : decode cX10_hours 51 = .ok (.ifCond .le 14, 3) := by decide +kernel
theorem dX10_hours_54 : decode cX10_hours 54 = .ok (.aload_n 0, 1) := by decide +kernel
theorem dX10_hours_55 : decode cX10_hours 55 = .ok (.iconst 0, 1) := by decide +kernel
theorem dX10_hours_56 : decode cX10_hours 56 = .ok (.invokevirtual 282, 3) := by decide +kernel
theorem dX10_hours_59 : decode cX10_hours 59 = .ok (.iinc 2 1, 3) := by decide +kernel
theorem dX10_hours_62 : decode cX10_hours 62 = .ok (.goto (-23), 3) := by decide +kernel
theorem dX10_hours_65 : decode cX10_hours 65 = .ok (.aload_n 0, 1) := by decide +kernel
theorem dX10_hours_66 : decode cX10_hours 66 = .ok (.invokevirtual 285, 3) := by decide +kernel
theorem dX10_hours_69 : decode cX10_hours 69 = .ok (.aload_n 0, 1) := by decide +kernel
theorem dX10_hours_70 : decode cX10_hours 70 = .ok (.getfield 13, 3) := by decide +kernel
theorem dX10_hours_73 : decode cX10_hours 73 = .ok (.bipush 26, 2) := by decide +kernel
theorem dX10_hours_75 : decode cX10_hours 75 = .ok (.iaload, 1) := by decide +kernel
theorem dX10_hours_76 : decode cX10_hours 76 = .ok (.ireturn, 1) := by decide +kernel
theorem dX10_hint_0 : decode cX10_hint 0 = .ok (.aload_n 0, 1) := by decide +kernel
theorem dX10_hint_1 : decode cX10_hint 1 = .ok (.iconst 0, 1) := by decide +kernel
theorem dX10_hint_2 : decode cX10_hint 2 = .ok (.putfield 1, 3) := by decide +kernel
theorem dX10_hint_5 : decode cX10_hint 5 = .ok (.aload_n 0, 1) := by decide +kernel
theorem dX10_hint_6 : decode cX10_hint 6 = .ok (.iload_n 1, 1) := by decide +kernel
theorem dX10_hint_7 : decode cX10_hint 7 = .ok (.i2l, 1) := by decide +kernel
theorem dX10_hint_8 : decode cX10_hint 8 = .ok (.iload_n 2, 1) := by decide +kernel
theorem dX10_hint_9 : decode cX10_hint 9 = .ok (.i2l, 1) := by decide +kernel
theorem dX10_hint_10 : decode cX10_hint 10 = .ok (.invokevirtual 290, 3) := by decide +kernel
theorem dX10_hint_13 : decode cX10_hint 13 = .ok (.ifCond .eq 13, 3) := by decide +kernel
theorem dX10_hint_16 : decode cX10_hint 16 = .ok (.iload_n 3, 1) := by decide +kernel
theorem dX10_hint_17 : decode cX10_hint 17 = .ok (.i2l, 1) := by decide +kernel
theorem dX10_hint_18 : decode cX10_hint 18 = .ok (.lconst 0, 1) := by decide +kernel
theorem dX10_hint_19 : decode cX10_hint 19 = .ok (.lconst 1, 1) := by decide +kernel
theorem dX10_hint_20 : decode cX10_hint 20 = .ok (.invokestatic 152, 3) := by decide +kernel
theorem dX10_hint_23 : decode cX10_hint 23 = .ok (.ifCond .ne 6, 3) := by decide +kernel
theorem dX10_hint_26 : decode cX10_hint 26 = .ok (.bipush (-11), 2) := by decide +kernel
theorem dX10_hint_28 : decode cX10_hint 28 = .ok (.ireturn, 1) := by decide +kernel
theorem dX10_hint_29 : decode cX10_hint 29 = .ok (.aload_n 0, 1) := by decide +kernel
theorem dX10_hint_30 : decode cX10_hint 30 = .ok (.invokevirtual 279, 3) := by decide +kernel
theorem dX10_hint_33 : decode cX10_hint 33 = .ok (.aload_n 0, 1) := by decide +kernel
theorem dX10_hint_34 : decode cX10_hint 34 = .ok (.getfield 13, 3) := by decide +kernel
theorem dX10_hint_37 : decode cX10_hint 37 = .ok (.iload_n 1, 1) := by decide +kernel
theorem dX10_hint_38 : decode cX10_hint 38 = .ok (.iload_n 2, 1) := by decide +kernel
theorem dX10_hint_39 : decode cX10_hint 39 = .ok (.iload_n 3, 1) := by decide +kernel
theorem dX10_hint_40 : decode cX10_hint 40 = .ok (.iconst 1, 1) := by decide +kernel
theorem dX10_hint_41 : decode cX10_hint 41 = .ok (.if_icmp .ne 7, 3) := by decide +kernel
theorem dX10_hint_44 : decode cX10_hint 44 = .ok (.iconst 1, 1) := by decide +kernel
theorem dX10_hint_45 : decode cX10_hint 45 = .ok (.goto 4, 3) := by decide +kernel
theorem dX10_hint_48 : decode cX10_hint 48 = .ok (.iconst 0, 1) := by decide +kernel
theorem dX10_hint_49 : decode cX10_hint 49 = .ok (.invokestatic 199, 3) := by decide +kernel
theorem dX10_hint_52 : decode cX10_hint 52 = .ok (.aload_n 0, 1) := by decide +kernel
theorem dX10_hint_53 : decode cX10_hint 53 = .ok (.invokevirtual 285, 3) := by decide +kernel
theorem dX10_hint_56 : decode cX10_hint 56 = .ok (.aload_n 0, 1) := by decide +kernel
theorem dX10_hint_57 : decode cX10_hint 57 = .ok (.iconst (-1), 1) := by decide +kernel
theorem dX10_hint_58 : decode cX10_hint 58 = .ok (.iconst (-1), 1) := by decide +kernel
theorem dX10_hint_59 : decode cX10_hint 59 = .ok (.invokevirtual 294, 3) := by decide +kernel
theorem dX10_hint_62 : decode cX10_hint 62 = .ok (.ireturn, 1) := by decide +kernel
theorem dX10_draught_0 : decode cX10_draught 0 = .ok (.aload_n 0, 1) := by decide +kernel
theorem dX10_draught_1 : decode cX10_draught 1 = .ok (.iconst 0, 1) := by decide +kernel
theorem dX10_draught_2 : decode cX10_draught 2 = .ok (.putfield 1, 3) := by decide +kernel
theorem dX10_draught_5 : decode cX10_draught 5 = .ok (.iload_n 1, 1) := by decide +kernel
theorem dX10_draught_6 : decode cX10_draught 6 = .ok (.i2l, 1) := by decide +kernel
theorem dX10_draught_7 : decode cX10_draught 7 = .ok (.lconst 0, 1) := by decide +kernel
theorem dX10_draught_8 : decode cX10_draught 8 = .ok (.ldc2_w 297, 3) := by decide +kernel
theorem dX10_draught_11 : decode cX10_draught 11 = .ok (.invokestatic 152, 3) := by decide +kernel
theorem dX10_draught_14 : decode cX10_draught 14 = .ok (.ifCond .ne 6, 3) := by decide +kernel
theorem dX10_draught_17 : decode cX10_draught 17 = .ok (.bipush (-11), 2) := by decide +kernel
theorem dX10_draught_19 : decode cX10_draught 19 = .ok (.ireturn, 1) := by decide +kernel
theorem dX10_draught_20 : decode cX10_draught 20 = .ok (.aload_n 0, 1) := by decide +kernel
theorem dX10_draught_21 : decode cX10_draught 21 = .ok (.invokevirtual 279, 3) := by decide +kernel
theorem dX10_draught_24 : decode cX10_draught 24 = .ok (.aload_n 0, 1) := by decide +kernel
theorem dX10_draught_25 : decode cX10_draught 25 = .ok (.getfield 13, 3) := by decide +kernel
theorem dX10_draught_28 : decode cX10_draught 28 = .ok (.bipush 27, 2) := by decide +kernel
theorem dX10_draught_30 : decode cX10_draught 30 = .ok (.iload_n 1, 1) := by decide +kernel
theorem dX10_draught_31 : decode cX10_draught 31 = .ok (.iastore, 1) := by decide +kernel
theorem dX10_draught_32 : decode cX10_draught 32 = .ok (.aload_n 0, 1) := by decide +kernel
theorem dX10_draught_33 : decode cX10_draught 33 = .ok (.invokevirtual 285, 3) := by decide +kernel
theorem dX10_draught_36 : decode cX10_draught 36 = .ok (.aload_n 0, 1) := by decide +kernel
theorem dX10_draught_37 : decode cX10_draught 37 = .ok (.getfield 36, 3) := by decide +kernel
theorem dX10_draught_40 : decode cX10_draught 40 = .ok (.iconst 5, 1) := by decide +kernel
theorem dX10_draught_41 : decode cX10_draught 41 = .ok (.iaload, 1) := by decide +kernel
theorem dX10_draught_42 : decode cX10_draught 42 = .ok (.ireturn, 1) := by decide +kernel
theorem dX10_undo_0 : decode cX10_undo 0 = .ok (.aload_n 0, 1) := by decide +kernel
theorem dX10_undo_1 : decode cX10_undo 1 = .ok (.iconst 0, 1) := by decide +kernel
theorem dX10_undo_2 : decode cX10_undo 2 = .ok (.putfield 1, 3) := by decide +kernel
theorem dX10_undo_5 : decode cX10_undo 5 = .ok (.iload_n 1, 1) := by decide +kernel
theorem dX10_undo_6 : decode cX10_undo 6 = .ok (.i2l, 1) := by decide +kernel
theorem dX10_undo_7 : decode cX10_undo 7 = .ok (.lconst 1, 1) := by decide +kernel
theorem dX10_undo_8 : decode cX10_undo 8 = .ok (.ldc2_w 299, 3) := by decide +kernel
theorem dX10_undo_11 : decode cX10_undo 11 = .ok (.invokestatic 152, 3) := by decide +kernel
theorem dX10_undo_14 : decode cX10_undo 14 = .ok (.ifCond .eq 14, 3) := by decide +kernel
theorem dX10_undo_17 : decode cX10_undo 17 = .ok (.iload_n 1, 1) := by decide +kernel
theorem dX10_undo_18 : decode cX10_undo 18 = .ok (.aload_n 0, 1) := by decide +kernel
theorem dX10_undo_19 : decode cX10_undo 19 = .ok (.getfield 13, 3) := by decide +kernel
theorem dX10_undo_22 : decode cX10_undo 22 = .ok (.bipush 45, 2) := by decide +kernel
theorem dX10_undo_24 : decode cX10_undo 24 = .ok (.iaload, 1) := by decide +kernel
theorem dX10_undo_25 : decode cX10_undo 25 = .ok (.if_icmp .le 6, 3) := by decide +kernel
theorem dX10_undo_28 : decode cX10_undo 28 = .ok (.bipush (-3), 2) := by decide +kernel
theorem dX10_undo_30 : decode cX10_undo 30 = .ok (.ireturn, 1) := by decide +kernel
theorem dX10_undo_31 : decode cX10_undo 31 = .ok (.aload_n 0, 1) := by decide +kernel
theorem dX10_undo_32 : decode cX10_undo 32 = .ok (.getfield 13, 3) := by decide +kernel
theorem dX10_undo_35 : decode cX10_undo 35 = .ok (.bipush 45, 2) := by decide +kernel
theorem dX10_undo_37 : decode cX10_undo 37 = .ok (.dup2, 1) := by decide +kernel
theorem dX10_undo_38 : decode cX10_undo 38 = .ok (.iaload, 1) := by decide +kernel
theorem dX10_undo_39 : decode cX10_undo 39 = .ok (.iload_n 1, 1) := by decide +kernel
theorem dX10_undo_40 : decode cX10_undo 40 = .ok (.isub, 1) := by decide +kernel
theorem dX10_undo_41 : decode cX10_undo 41 = .ok (.iastore, 1) := by decide +kernel
theorem dX10_undo_42 : decode cX10_undo 42 = .ok (.iconst 0, 1) := by decide +kernel
theorem dX10_undo_43 : decode cX10_undo 43 = .ok (.istore_n 2, 1) := by decide +kernel
theorem dX10_undo_44 : decode cX10_undo 44 = .ok (.iload_n 2, 1) := by decide +kernel
theorem dX10_undo_45 : decode cX10_undo 45 = .ok (.bipush 23, 2) := by decide +kernel
theorem dX10_undo_47 : decode cX10_undo 47 = .ok (.if_icmp .ge 38, 3) := by decide +kernel
theorem dX10_undo_50 : decode cX10_undo 50 = .ok (.aload_n 0, 1) := by decide +kernel
theorem dX10_undo_51 : decode cX10_undo 51 = .ok (.getfield 13, 3) := by decide +kernel
theorem dX10_undo_54 : decode cX10_undo 54 = .ok (.bipush 22, 2) := by decide +kernel
theorem dX10_undo_56 : decode cX10_undo 56 = .ok (.iload_n 2, 1) := by decide +kernel
theorem dX10_undo_57 : decode cX10_undo 57 = .ok (.iadd, 1) := by decide +kernel
theorem dX10_undo_58 : decode cX10_undo 58 = .ok (.aload_n 0, 1) := by decide +kernel
theorem dX10_undo_59 : decode cX10_undo 59 = .ok (.getfield 13, 3) := by decide +kernel
theorem dX10_undo_62 : decode cX10_undo 62 = .ok (.bipush 46, 2) := by decide +kernel
theorem dX10_undo_64 : decode cX10_undo 64 = .ok (.bipush 23, 2) := by decide +kernel
theorem dX10_undo_66 : decode cX10_undo 66 = .ok (.aload_n 0, 1) := by decide +kernel
theorem dX10_undo_67 : decode cX10_undo 67 = .ok (.getfield 13, 3) := by decide +kernel
theorem dX10_undo_70 : decode cX10_undo 70 = .ok (.bipush 45, 2) := by decide +kernel
theorem dX10_undo_72 : decode cX10_undo 72 = .ok (.iaload, 1) := by decide +kernel
theorem dX10_undo_73 : decode cX10_undo 73 = .ok (.imul, 1) := by decide +kernel
theorem dX10_undo_74 : decode cX10_undo 74 = .ok (.iadd, 1) := by decide +kernel
theorem dX10_undo_75 : decode cX10_undo 75 = .ok (.iload_n 2, 1) := by decide +kernel
theorem dX10_undo_76 : decode cX10_undo 76 = .ok (.iadd, 1) := by decide +kernel
theorem dX10_undo_77 : decode cX10_undo 77 = .ok (.iaload, 1) := by decide +kernel
theorem dX10_undo_78 : decode cX10_undo 78 = .ok (.iastore, 1) := by decide +kernel
theorem dX10_undo_79 : decode cX10_undo 79 = .ok (.iinc 2 1, 3) := by decide +kernel
theorem dX10_undo_82 : decode cX10_undo 82 = .ok (.goto (-38), 3) := by decide +kernel
theorem dX10_undo_85 : decode cX10_undo 85 = .ok (.aload_n 0, 1) := by decide +kernel
theorem dX10_undo_86 : decode cX10_undo 86 = .ok (.getfield 13, 3) := by decide +kernel
theorem dX10_undo_89 : decode cX10_undo 89 = .ok (.bipush 45, 2) := by decide +kernel
theorem dX10_undo_91 : decode cX10_undo 91 = .ok (.iaload, 1) := by decide +kernel
theorem dX10_undo_92 : decode cX10_undo 92 = .ok (.ireturn, 1) := by decide +kernel
theorem dX10_whyNot_0 : decode cX10_whyNot 0 = .ok (.lload_n 1, 1) := by decide +kernel
theorem dX10_whyNot_1 : decode cX10_whyNot 1 = .ok (.lconst 0, 1) := by decide +kernel
theorem dX10_whyNot_2 : decode cX10_whyNot 2 = .ok (.ldc2_w 301, 3) := by decide +kernel
theorem dX10_whyNot_5 : decode cX10_whyNot 5 = .ok (.invokestatic 152, 3) := by decide +kernel
theorem dX10_whyNot_8 : decode cX10_whyNot 8 = .ok (.ifCond .eq 13, 3) := by decide +kernel
theorem dX10_whyNot_11 : decode cX10_whyNot 11 = .ok (.aload_n 0, 1) := by decide +kernel
theorem dX10_whyNot_12 : decode cX10_whyNot 12 = .ok (.aload_n 0, 1) := by decide +kernel
theorem dX10_whyNot_13 : decode cX10_whyNot 13 = .ok (.invokevirtual 266, 3) := by decide +kernel
theorem dX10_whyNot_16 : decode cX10_whyNot 16 = .ok (.lload_n 1, 1) := by decide +kernel
theorem dX10_whyNot_17 : decode cX10_whyNot 17 = .ok (.invokevirtual 269, 3) := by decide +kernel
theorem dX10_whyNot_20 : decode cX10_whyNot 20 = .ok (.ireturn, 1) := by decide +kernel
theorem dX10_whyNot_21 : decode cX10_whyNot 21 = .ok (.lload_n 1, 1) := by decide +kernel
theorem dX10_whyNot_22 : decode cX10_whyNot 22 = .ok (.ldc2_w 303, 3) := by decide +kernel
theorem dX10_whyNot_25 : decode cX10_whyNot 25 = .ok (.ldc2_w 305, 3) := by decide +kernel
theorem dX10_whyNot_28 : decode cX10_whyNot 28 = .ok (.invokestatic 152, 3) := by decide +kernel
theorem dX10_whyNot_31 : decode cX10_whyNot 31 = .ok (.ifCond .eq 5, 3) := by decide +kernel
theorem dX10_whyNot_34 : decode cX10_whyNot 34 = .ok (.iconst 0, 1) := by decide +kernel
theorem dX10_whyNot_35 : decode cX10_whyNot 35 = .ok (.ireturn, 1) := by decide +kernel
theorem dX10_whyNot_36 : decode cX10_whyNot 36 = .ok (.lload_n 1, 1) := by decide +kernel
theorem dX10_whyNot_37 : decode cX10_whyNot 37 = .ok (.ldc2_w 307, 3) := by decide +kernel
theorem dX10_whyNot_40 : decode cX10_whyNot 40 = .ok (.ldc2_w 309, 3) := by decide +kernel
theorem dX10_whyNot_43 : decode cX10_whyNot 43 = .ok (.invokestatic 152, 3) := by decide +kernel
theorem dX10_whyNot_46 : decode cX10_whyNot 46 = .ok (.ifCond .eq 28, 3) := by decide +kernel
theorem dX10_whyNot_49 : decode cX10_whyNot 49 = .ok (.aload_n 0, 1) := by decide +kernel
theorem dX10_whyNot_50 : decode cX10_whyNot 50 = .ok (.lload_n 1, 1) := by decide +kernel
theorem dX10_whyNot_51 : decode cX10_whyNot 51 = .ok (.ldc2_w 303, 3) := by decide +kernel
theorem dX10_whyNot_54 : decode cX10_whyNot 54 = .ok (.lrem, 1) := by decide +kernel
theorem dX10_whyNot_55 : decode cX10_whyNot 55 = .ok (.ldc2_w 299, 3) := by decide +kernel
theorem dX10_whyNot_58 : decode cX10_whyNot 58 = .ok (.ldiv, 1) := by decide +kernel
theorem dX10_whyNot_59 : decode cX10_whyNot 59 = .ok (.lload_n 1, 1) := by decide +kernel
theorem dX10_whyNot_60 : decode cX10_whyNot 60 = .ok (.ldc2_w 299, 3) := by decide +kernel
theorem dX10_whyNot_63 : decode cX10_whyNot 63 = .ok (.lrem, 1) := by decide +kernel
theorem dX10_whyNot_64 : decode cX10_whyNot 64 = .ok (.invokevirtual 290, 3) := by decide +kernel
theorem dX10_whyNot_67 : decode cX10_whyNot 67 = .ok (.ifCond .eq 7, 3) := by decide +kernel
theorem dX10_whyNot_70 : decode cX10_whyNot 70 = .ok (.iconst 0, 1) := by decide +kernel
theorem dX10_whyNot_71 : decode cX10_whyNot 71 = .ok (.goto 4, 3) := by decide +kernel
theorem dX10_whyNot_74 : decode cX10_whyNot 74 = .ok (.iconst 1, 1) := by decide +kernel
theorem dX10_whyNot_75 : decode cX10_whyNot 75 = .ok (.ireturn, 1) := by decide +kernel
theorem dX10_does_0 : decode cX10_does 0 = .ok (.iload_n 1, 1) := by decide +kernel
theorem dX10_does_1 : decode cX10_does 1 = .ok (.bipush 16, 2) := by decide +kernel
theorem dX10_does_3 : decode cX10_does 3 = .ok (.if_icmp .ge 11, 3) := by decide +kernel
theorem dX10_does_6 : decode cX10_does 6 = .ok (.aload_n 0, 1) := by decide +kernel
theorem dX10_does_7 : decode cX10_does 7 = .ok (.iload_n 1, 1) := by decide +kernel
theorem dX10_does_8 : decode cX10_does 8 = .ok (.invokevirtual 282, 3) := by decide +kernel
theorem dX10_does_11 : decode cX10_does 11 = .ok (.goto 54, 3) := by decide +kernel
theorem dX10_does_14 : decode cX10_does 14 = .ok (.iload_n 1, 1) := by decide +kernel
theorem dX10_does_15 : decode cX10_does 15 = .ok (.sipush 200, 3) := by decide +kernel
theorem dX10_does_18 : decode cX10_does 18 = .ok (.if_icmp .ge 17, 3) := by decide +kernel
theorem dX10_does_21 : decode cX10_does 21 = .ok (.aload_n 0, 1) := by decide +kernel
theorem dX10_does_22 : decode cX10_does 22 = .ok (.getfield 13, 3) := by decide +kernel
theorem dX10_does_25 : decode cX10_does 25 = .ok (.bipush 27, 2) := by decide +kernel
theorem dX10_does_27 : decode cX10_does 27 = .ok (.iload_n 1, 1) := by decide +kernel
theorem dX10_does_28 : decode cX10_does 28 = .ok (.bipush 100, 2) := by decide +kernel
theorem dX10_does_30 : decode cX10_does 30 = .ok (.isub, 1) := by decide +kernel
theorem dX10_does_31 : decode cX10_does 31 = .ok (.iastore, 1) := by decide +kernel
theorem dX10_does_32 : decode cX10_does 32 = .ok (.goto 33, 3) := by decide +kernel
theorem dX10_does_35 : decode cX10_does 35 = .ok (.aload_n 0, 1) := by decide +kernel
theorem dX10_does_36 : decode cX10_does 36 = .ok (.getfield 13, 3) := by decide +kernel
theorem dX10_does_39 : decode cX10_does 39 = .ok (.iload_n 1, 1) := by decide +kernel
theorem dX10_does_40 : decode cX10_does 40 = .ok (.bipush 100, 2) := by decide +kernel
theorem dX10_does_42 : decode cX10_does 42 = .ok (.irem, 1) := by decide +kernel
theorem dX10_does_43 : decode cX10_does 43 = .ok (.bipush 10, 2) := by decide +kernel
theorem dX10_does_45 : decode cX10_does 45 = .ok (.idiv, 1) := by decide +kernel
theorem dX10_does_46 : decode cX10_does 46 = .ok (.iload_n 1, 1) := by decide +kernel
theorem dX10_does_47 : decode cX10_does 47 = .ok (.bipush 10, 2) := by decide +kernel
theorem dX10_does_49 : decode cX10_does 49 = .ok (.irem, 1) := by decide +kernel
theorem dX10_does_50 : decode cX10_does 50 = .ok (.iload_n 1, 1) := by decide +kernel
theorem dX10_does_51 : decode cX10_does 51 = .ok (.sipush 300, 3) := by decide +kernel
theorem dX10_does_54 : decode cX10_does 54 = .ok (.if_icmp .ge 7, 3) := by decide +kernel
theorem dX10_does_57 : decode cX10_does 57 = .ok (.iconst 1, 1) := by decide +kernel
theorem dX10_does_58 : decode cX10_does 58 = .ok (.goto 4, 3) := by decide +kernel
theorem dX10_does_61 : decode cX10_does 61 = .ok (.iconst 0, 1) := by decide +kernel
theorem dX10_does_62 : decode cX10_does 62 = .ok (.invokestatic 199, 3) := by decide +kernel
theorem dX10_does_65 : decode cX10_does 65 = .ok (.return_, 1) := by decide +kernel
theorem dX10_tells_0 : decode cX10_tells 0 = .ok (.aload_n 0, 1) := by decide +kernel
theorem dX10_tells_1 : decode cX10_tells 1 = .ok (.iconst 0, 1) := by decide +kernel
theorem dX10_tells_2 : decode cX10_tells 2 = .ok (.putfield 311, 3) := by decide +kernel
theorem dX10_tells_5 : decode cX10_tells 5 = .ok (.iconst 0, 1) := by decide +kernel
theorem dX10_tells_6 : decode cX10_tells 6 = .ok (.istore_n 2, 1) := by decide +kernel
theorem dX10_tells_7 : decode cX10_tells 7 = .ok (.iload_n 2, 1) := by decide +kernel
theorem dX10_tells_8 : decode cX10_tells 8 = .ok (.aload_n 0, 1) := by decide +kernel
theorem dX10_tells_9 : decode cX10_tells 9 = .ok (.getfield 80, 3) := by decide +kernel
theorem dX10_tells_12 : decode cX10_tells 12 = .ok (.iload_n 1, 1) := by decide +kernel
theorem dX10_tells_13 : decode cX10_tells 13 = .ok (.iaload, 1) := by decide +kernel
theorem dX10_tells_14 : decode cX10_tells 14 = .ok (.if_icmp .ge 53, 3) := by decide +kernel
theorem dX10_tells_17 : decode cX10_tells 17 = .ok (.aload_n 0, 1) := by decide +kernel
theorem dX10_tells_18 : decode cX10_tells 18 = .ok (.aload_n 0, 1) := by decide +kernel
theorem dX10_tells_19 : decode cX10_tells 19 = .ok (.aload_n 0, 1) := by decide +kernel
theorem dX10_tells_20 : decode cX10_tells 20 = .ok (.getfield 83, 3) := by decide +kernel
theorem dX10_tells_23 : decode cX10_tells 23 = .ok (.bipush 40, 2) := by decide +kernel
theorem dX10_tells_25 : decode cX10_tells 25 = .ok (.iload_n 1, 1) := by decide +kernel
theorem dX10_tells_26 : decode cX10_tells 26 = .ok (.imul, 1) := by decide +kernel
theorem dX10_tells_27 : decode cX10_tells 27 = .ok (.iload_n 2, 1) := by decide +kernel
theorem dX10_tells_28 : decode cX10_tells 28 = .ok (.iadd, 1) := by decide +kernel
theorem dX10_tells_29 : decode cX10_tells 29 = .ok (.laload, 1) := by decide +kernel
theorem dX10_tells_30 : decode cX10_tells 30 = .ok (.invokevirtual 314, 3) := by decide +kernel
theorem dX10_tells_33 : decode cX10_tells 33 = .ok (.putfield 311, 3) := by decide +kernel
theorem dX10_tells_36 : decode cX10_tells 36 = .ok (.aload_n 0, 1) := by decide +kernel
theorem dX10_tells_37 : decode cX10_tells 37 = .ok (.getfield 311, 3) := by decide +kernel
theorem dX10_tells_40 : decode cX10_tells 40 = .ok (.ifCond .eq 5, 3) := by decide +kernel
theorem dX10_tells_43 : decode cX10_tells 43 = .ok (.iload_n 2, 1) := by decide +kernel
theorem dX10_tells_44 : decode cX10_tells 44 = .ok (.ireturn, 1) := by decide +kernel
theorem dX10_tells_45 : decode cX10_tells 45 = .ok (.aload_n 0, 1) := by decide +kernel
theorem dX10_tells_46 : decode cX10_tells 46 = .ok (.aload_n 0, 1) := by decide +kernel
theorem dX10_tells_47 : decode cX10_tells 47 = .ok (.getfield 83, 3) := by decide +kernel
theorem dX10_tells_50 : decode cX10_tells 50 = .ok (.bipush 40, 2) := by decide +kernel
theorem dX10_tells_52 : decode cX10_tells 52 = .ok (.iload_n 1, 1) := by decide +kernel
theorem dX10_tells_53 : decode cX10_tells 53 = .ok (.imul, 1) := by decide +kernel
theorem dX10_tells_54 : decode cX10_tells 54 = .ok (.iload_n 2, 1) := by decide +kernel
theorem dX10_tells_55 : decode cX10_tells 55 = .ok (.iadd, 1) := by decide +kernel
theorem dX10_tells_56 : decode cX10_tells 56 = .ok (.laload, 1) := by decide +kernel
theorem dX10_tells_57 : decode cX10_tells 57 = .ok (.l2i, 1) := by decide +kernel
theorem dX10_tells_58 : decode cX10_tells 58 = .ok (.invokevirtual 318, 3) := by decide +kernel
theorem dX10_tells_61 : decode cX10_tells 61 = .ok (.iinc 2 1, 3) := by decide +kernel
theorem dX10_tells_64 : decode cX10_tells 64 = .ok (.goto (-57), 3) := by decide +kernel
theorem dX10_tells_67 : decode cX10_tells 67 = .ok (.aload_n 0, 1) := by decide +kernel
theorem dX10_tells_68 : decode cX10_tells 68 = .ok (.getfield 80, 3) := by decide +kernel
theorem dX10_tells_71 : decode cX10_tells 71 = .ok (.iload_n 1, 1) := by decide +kernel
theorem dX10_tells_72 : decode cX10_tells 72 = .ok (.iaload, 1) := by decide +kernel
theorem dX10_tells_73 : decode cX10_tells 73 = .ok (.ireturn, 1) := by decide +kernel
theorem dX10_noTray_0 : decode cX10_noTray 0 = .ok (.iload_n 1, 1) := by decide +kernel
theorem dX10_noTray_1 : decode cX10_noTray 1 = .ok (.i2l, 1) := by decide +kernel
theorem dX10_noTray_2 : decode cX10_noTray 2 = .ok (.lconst 0, 1) := by decide +kernel
theorem dX10_noTray_3 : decode cX10_noTray 3 = .ok (.ldc2_w 321, 3) := by decide +kernel
theorem dX10_noTray_6 : decode cX10_noTray 6 = .ok (.invokestatic 152, 3) := by decide +kernel
theorem dX10_noTray_9 : decode cX10_noTray 9 = .ok (.ifCond .ne 8, 3) := by decide +kernel
theorem dX10_noTray_12 : decode cX10_noTray 12 = .ok (.bipush (-2), 2) := by decide +kernel
theorem dX10_noTray_14 : decode cX10_noTray 14 = .ok (.goto 19, 3) := by decide +kernel
theorem dX10_noTray_17 : decode cX10_noTray 17 = .ok (.aload_n 0, 1) := by decide +kernel
theorem dX10_noTray_18 : decode cX10_noTray 18 = .ok (.getfield 77, 3) := by decide +kernel
theorem dX10_noTray_21 : decode cX10_noTray 21 = .ok (.iload_n 1, 1) := by decide +kernel
theorem dX10_noTray_22 : decode cX10_noTray 22 = .ok (.iaload, 1) := by decide +kernel
theorem dX10_noTray_23 : decode cX10_noTray 23 = .ok (.iconst (-1), 1) := by decide +kernel
theorem dX10_noTray_24 : decode cX10_noTray 24 = .ok (.if_icmp .ne 8, 3) := by decide +kernel
theorem dX10_noTray_27 : decode cX10_noTray 27 = .ok (.bipush (-6), 2) := by decide +kernel
theorem dX10_noTray_29 : decode cX10_noTray 29 = .ok (.goto 4, 3) := by decide +kernel
theorem dX10_noTray_32 : decode cX10_noTray 32 = .ok (.iconst 0, 1) := by decide +kernel
theorem dX10_noTray_33 : decode cX10_noTray 33 = .ok (.ireturn, 1) := by decide +kernel
theorem dX10_judge_0 : decode cX10_judge 0 = .ok (.aload_n 0, 1) := by decide +kernel
theorem dX10_judge_1 : decode cX10_judge 1 = .ok (.iconst 0, 1) := by decide +kernel
theorem dX10_judge_2 : decode cX10_judge 2 = .ok (.putfield 1, 3) := by decide +kernel
theorem dX10_judge_5 : decode cX10_judge 5 = .ok (.iload_n 2, 1) := by decide +kernel
theorem dX10_judge_6 : decode cX10_judge 6 = .ok (.i2l, 1) := by decide +kernel
theorem dX10_judge_7 : decode cX10_judge 7 = .ok (.lconst 0, 1) := by decide +kernel
theorem dX10_judge_8 : decode cX10_judge 8 = .ok (.ldc2_w 321, 3) := by decide +kernel
theorem dX10_judge_11 : decode cX10_judge 11 = .ok (.invokestatic 152, 3) := by decide +kernel
theorem dX10_judge_14 : decode cX10_judge 14 = .ok (.ifCond .ne 6, 3) := by decide +kernel
theorem dX10_judge_17 : decode cX10_judge 17 = .ok (.bipush (-2), 2) := by decide +kernel
theorem dX10_judge_19 : decode cX10_judge 19 = .ok (.ireturn, 1) := by decide +kernel
theorem dX10_judge_20 : decode cX10_judge 20 = .ok (.aload_n 0, 1) := by decide +kernel
theorem dX10_judge_21 : decode cX10_judge 21 = .ok (.iload_n 1, 1) := by decide +kernel
theorem dX10_judge_22 : decode cX10_judge 22 = .ok (.invokevirtual 323, 3) := by decide +kernel
theorem dX10_judge_25 : decode cX10_judge 25 = .ok (.istore_n 3, 1) := by decide +kernel
theorem dX10_judge_26 : decode cX10_judge 26 = .ok (.iload_n 3, 1) := by decide +kernel
theorem dX10_judge_27 : decode cX10_judge 27 = .ok (.ifCond .eq 5, 3) := by decide +kernel
theorem dX10_judge_30 : decode cX10_judge 30 = .ok (.iload_n 3, 1) := by decide +kernel
theorem dX10_judge_31 : decode cX10_judge 31 = .ok (.ireturn, 1) := by decide +kernel
theorem dX10_judge_32 : decode cX10_judge 32 = .ok (.aload_n 0, 1) := by decide +kernel
theorem dX10_judge_33 : decode cX10_judge 33 = .ok (.invokevirtual 279, 3) := by decide +kernel
theorem dX10_judge_36 : decode cX10_judge 36 = .ok (.aload_n 0, 1) := by decide +kernel
theorem dX10_judge_37 : decode cX10_judge 37 = .ok (.iload_n 1, 1) := by decide +kernel
theorem dX10_judge_38 : decode cX10_judge 38 = .ok (.invokevirtual 326, 3) := by decide +kernel
theorem dX10_judge_41 : decode cX10_judge 41 = .ok (.istore 4, 2) := by decide +kernel
theorem dX10_judge_43 : decode cX10_judge 43 = .ok (.aload_n 0, 1) := by decide +kernel
theorem dX10_judge_44 : decode cX10_judge 44 = .ok (.invokevirtual 266, 3) := by decide +kernel
theorem dX10_judge_47 : decode cX10_judge 47 = .ok (.istore 5, 2) := by decide +kernel
theorem dX10_judge_49 : decode cX10_judge 49 = .ok (.aload_n 0, 1) := by decide +kernel
theorem dX10_judge_50 : decode cX10_judge 50 = .ok (.invokevirtual 329, 3) := by decide +kernel
theorem dX10_judge_53 : decode cX10_judge 53 = .ok (.iload_n 2, 1) := by decide +kernel
theorem dX10_judge_54 : decode cX10_judge 54 = .ok (.ifCond .ne 19, 3) := by decide +kernel
theorem dX10_judge_57 : decode cX10_judge 57 = .ok (.aload_n 0, 1) := by decide +kernel
theorem dX10_judge_58 : decode cX10_judge 58 = .ok (.getfield 311, 3) := by decide +kernel
theorem dX10_judge_61 : decode cX10_judge 61 = .ok (.ifCond .ne 7, 3) := by decide +kernel
theorem dX10_judge_64 : decode cX10_judge 64 = .ok (.iconst (-1), 1) := by decide +kernel
theorem dX10_judge_65 : decode cX10_judge 65 = .ok (.goto 39, 3) := by decide +kernel
theorem dX10_judge_68 : decode cX10_judge 68 = .ok (.iload 4, 2) := by decide +kernel
theorem dX10_judge_70 : decode cX10_judge 70 = .ok (.goto 34, 3) := by decide +kernel
theorem dX10_judge_73 : decode cX10_judge 73 = .ok (.iload_n 2, 1) := by decide +kernel
theorem dX10_judge_74 : decode cX10_judge 74 = .ok (.iconst 1, 1) := by decide +kernel
theorem dX10_judge_75 : decode cX10_judge 75 = .ok (.if_icmp .ne 10, 3) := by decide +kernel
theorem dX10_judge_78 : decode cX10_judge 78 = .ok (.aload_n 0, 1) := by decide +kernel
theorem dX10_judge_79 : decode cX10_judge 79 = .ok (.getfield 311, 3) := by decide +kernel
theorem dX10_judge_82 : decode cX10_judge 82 = .ok (.goto 22, 3) := by decide +kernel
theorem dX10_judge_85 : decode cX10_judge 85 = .ok (.iload_n 2, 1) := by decide +kernel
theorem dX10_judge_86 : decode cX10_judge 86 = .ok (.iconst 2, 1) := by decide +kernel
theorem dX10_judge_87 : decode cX10_judge 87 = .ok (.if_icmp .ne 11, 3) := by decide +kernel
theorem dX10_judge_90 : decode cX10_judge 90 = .ok (.iload 5, 2) := by decide +kernel
theorem dX10_judge_92 : decode cX10_judge 92 = .ok (.invokestatic 231, 3) := by decide +kernel
theorem dX10_judge_95 : decode cX10_judge 95 = .ok (.goto 9, 3) := by decide +kernel
theorem dX10_judge_98 : decode cX10_judge 98 = .ok (.aload_n 0, 1) := by decide +kernel
theorem dX10_judge_99 : decode cX10_judge 99 = .ok (.iload 5, 2) := by decide +kernel
theorem dX10_judge_101 : decode cX10_judge 101 = .ok (.invokevirtual 256, 3) := by decide +kernel
theorem dX10_judge_104 : decode cX10_judge 104 = .ok (.ireturn, 1) := by decide +kernel
theorem dX10_perform_0 : decode cX10_perform 0 = .ok (.aload_n 0, 1) := by decide +kernel
theorem dX10_perform_1 : decode cX10_perform 1 = .ok (.iconst 0, 1) := by decide +kernel
theorem dX10_perform_2 : decode cX10_perform 2 = .ok (.putfield 1, 3) := by decide +kernel
theorem dX10_perform_5 : decode cX10_perform 5 = .ok (.aload_n 0, 1) := by decide +kernel
theorem dX10_perform_6 : decode cX10_perform 6 = .ok (.iload_n 1, 1) := by decide +kernel
theorem dX10_perform_7 : decode cX10_perform 7 = .ok (.invokevirtual 323, 3) := by decide +kernel
theorem dX10_perform_10 : decode cX10_perform 10 = .ok (.istore_n 2, 1) := by decide +kernel
theorem dX10_perform_11 : decode cX10_perform 11 = .ok (.iload_n 2, 1) := by decide +kernel
theorem dX10_perform_12 : decode cX10_perform 12 = .ok (.ifCond .eq 5, 3) := by decide +kernel
theorem dX10_perform_15 : decode cX10_perform 15 = .ok (.iload_n 2, 1) := by decide +kernel
theorem dX10_perform_16 : decode cX10_perform 16 = .ok (.ireturn, 1) := by decide +kernel
theorem dX10_perform_17 : decode cX10_perform 17 = .ok (.aload_n 0, 1) := by decide +kernel
theorem dX10_perform_18 : decode cX10_perform 18 = .ok (.invokevirtual 279, 3) := by decide +kernel
theorem dX10_perform_21 : decode cX10_perform 21 = .ok (.aload_n 0, 1) := by decide +kernel
theorem dX10_perform_22 : decode cX10_perform 22 = .ok (.iload_n 1, 1) := by decide +kernel
theorem dX10_perform_23 : decode cX10_perform 23 = .ok (.invokevirtual 326, 3) := by decide +kernel
theorem dX10_perform_26 : decode cX10_perform 26 = .ok (.istore_n 3, 1) := by decide +kernel
theorem dX10_perform_27 : decode cX10_perform 27 = .ok (.iload_n 3, 1) := by decide +kernel
theorem dX10_perform_28 : decode cX10_perform 28 = .ok (.ifCond .le 7, 3) := by decide +kernel
theorem dX10_perform_31 : decode cX10_perform 31 = .ok (.aload_n 0, 1) := by decide +kernel
theorem dX10_perform_32 : decode cX10_perform 32 = .ok (.invokevirtual 285, 3) := by decide +kernel
theorem dX10_perform_35 : decode cX10_perform 35 = .ok (.iload_n 3, 1) := by decide +kernel
theorem dX10_perform_36 : decode cX10_perform 36 = .ok (.ireturn, 1) := by decide +kernel
theorem dX10_draw_0 : decode cX10_draw 0 = .ok (.aload_n 0, 1) := by decide +kernel
theorem dX10_draw_1 : decode cX10_draw 1 = .ok (.ldc_w 332, 3) := by decide +kernel
theorem dX10_draw_4 : decode cX10_draw 4 = .ok (.aload_n 0, 1) := by decide +kernel
theorem dX10_draw_5 : decode cX10_draw 5 = .ok (.getfield 333, 3) := by decide +kernel
theorem dX10_draw_8 : decode cX10_draw 8 = .ok (.imul, 1) := by decide +kernel
theorem dX10_draw_9 : decode cX10_draw 9 = .ok (.sipush 12345, 3) := by decide +kernel
theorem dX10_draw_12 : decode cX10_draw 12 = .ok (.iadd, 1) := by decide +kernel
theorem dX10_draw_13 : decode cX10_draw 13 = .ok (.putfield 333, 3) := by decide +kernel
theorem dX10_draw_16 : decode cX10_draw 16 = .ok (.aload_n 0, 1) := by decide +kernel
theorem dX10_draw_17 : decode cX10_draw 17 = .ok (.getfield 333, 3) := by decide +kernel
theorem dX10_draw_20 : decode cX10_draw 20 = .ok (.bipush 16, 2) := by decide +kernel
theorem dX10_draw_22 : decode cX10_draw 22 = .ok (.iushr, 1) := by decide +kernel
theorem dX10_draw_23 : decode cX10_draw 23 = .ok (.iload_n 1, 1) := by decide +kernel
theorem dX10_draw_24 : decode cX10_draw 24 = .ok (.irem, 1) := by decide +kernel
theorem dX10_draw_25 : decode cX10_draw 25 = .ok (.ireturn, 1) := by decide +kernel
theorem dX10_drawn_0 : decode cX10_drawn 0 = .ok (.aload_n 0, 1) := by decide +kernel
theorem dX10_drawn_1 : decode cX10_drawn 1 = .ok (.bipush 6, 2) := by decide +kernel
theorem dX10_drawn_3 : decode cX10_drawn 3 = .ok (.invokevirtual 336, 3) := by decide +kernel
theorem dX10_drawn_6 : decode cX10_drawn 6 = .ok (.istore_n 1, 1) := by decide +kernel
theorem dX10_drawn_7 : decode cX10_drawn 7 = .ok (.iload_n 1, 1) := by decide +kernel
theorem dX10_drawn_8 : decode cX10_drawn 8 = .ok (.iconst 2, 1) := by decide +kernel
theorem dX10_drawn_9 : decode cX10_drawn 9 = .ok (.if_icmp .ge 5, 3) := by decide +kernel
theorem dX10_drawn_12 : decode cX10_drawn 12 = .ok (.iconst 0, 1) := by decide +kernel
theorem dX10_drawn_13 : decode cX10_drawn 13 = .ok (.ireturn, 1) := by decide +kernel
theorem dX10_drawn_14 : decode cX10_drawn 14 = .ok (.iload_n 1, 1) := by decide +kernel
theorem dX10_drawn_15 : decode cX10_drawn 15 = .ok (.iconst 4, 1) := by decide +kernel
theorem dX10_drawn_16 : decode cX10_drawn 16 = .ok (.if_icmp .ge 11, 3) := by decide +kernel
theorem dX10_drawn_19 : decode cX10_drawn 19 = .ok (.iconst 1, 1) := by decide +kernel
theorem dX10_drawn_20 : decode cX10_drawn 20 = .ok (.aload_n 0, 1) := by decide +kernel
theorem dX10_drawn_21 : decode cX10_drawn 21 = .ok (.iconst 4, 1) := by decide +kernel
theorem dX10_drawn_22 : decode cX10_drawn 22 = .ok (.invokevirtual 336, 3) := by decide +kernel
theorem dX10_drawn_25 : decode cX10_drawn 25 = .ok (.ishl, 1) := by decide +kernel
theorem dX10_drawn_26 : decode cX10_drawn 26 = .ok (.ireturn, 1) := by decide +kernel
theorem dX10_drawn_27 : decode cX10_drawn 27 = .ok (.iload_n 1, 1) := by decide +kernel
theorem dX10_drawn_28 : decode cX10_drawn 28 = .ok (.iconst 4, 1) := by decide +kernel
theorem dX10_drawn_29 : decode cX10_drawn 29 = .ok (.if_icmp .ne 13, 3) := by decide +kernel
theorem dX10_drawn_32 : decode cX10_drawn 32 = .ok (.bipush 100, 2) := by decide +kernel
theorem dX10_drawn_34 : decode cX10_drawn 34 = .ok (.aload_n 0, 1) := by decide +kernel
theorem dX10_drawn_35 : decode cX10_drawn 35 = .ok (.bipush 10, 2) := by decide +kernel
theorem dX10_drawn_37 : decode cX10_drawn 37 = .ok (.invokevirtual 336, 3) := by decide +kernel
theorem dX10_drawn_40 : decode cX10_drawn 40 = .ok (.iadd, 1) := by decide +kernel
theorem dX10_drawn_41 : decode cX10_drawn 41 = .ok (.ireturn, 1) := by decide +kernel
theorem dX10_drawn_42 : decode cX10_drawn 42 = .ok (.aload_n 0, 1) := by decide +kernel
theorem dX10_drawn_43 : decode cX10_drawn 43 = .ok (.bipush 8, 2) := by decide +kernel
theorem dX10_drawn_45 : decode cX10_drawn 45 = .ok (.invokevirtual 336, 3) := by decide +kernel
theorem dX10_drawn_48 : decode cX10_drawn 48 = .ok (.istore_n 2, 1) := by decide +kernel
theorem dX10_drawn_49 : decode cX10_drawn 49 = .ok (.sipush 300, 3) := by decide +kernel
theorem dX10_drawn_52 : decode cX10_drawn 52 = .ok (.bipush 10, 2) := by decide +kernel
theorem dX10_drawn_54 : decode cX10_drawn 54 = .ok (.iload_n 2, 1) := by decide +kernel
theorem dX10_drawn_55 : decode cX10_drawn 55 = .ok (.imul, 1) := by decide +kernel
theorem dX10_drawn_56 : decode cX10_drawn 56 = .ok (.iadd, 1) := by decide +kernel
theorem dX10_drawn_57 : decode cX10_drawn 57 = .ok (.aload_n 0, 1) := by decide +kernel
theorem dX10_drawn_58 : decode cX10_drawn 58 = .ok (.bipush 8, 2) := by decide +kernel
theorem dX10_drawn_60 : decode cX10_drawn 60 = .ok (.invokevirtual 336, 3) := by decide +kernel
theorem dX10_drawn_63 : decode cX10_drawn 63 = .ok (.iadd, 1) := by decide +kernel
theorem dX10_drawn_64 : decode cX10_drawn 64 = .ok (.ireturn, 1) := by decide +kernel
theorem dX10_night_0 : decode cX10_night 0 = .ok (.aload_n 0, 1) := by decide +kernel
theorem dX10_night_1 : decode cX10_night 1 = .ok (.iconst 0, 1) := by decide +kernel
theorem dX10_night_2 : decode cX10_night 2 = .ok (.putfield 1, 3) := by decide +kernel
theorem dX10_night_5 : decode cX10_night 5 = .ok (.iload_n 2, 1) := by decide +kernel
theorem dX10_night_6 : decode cX10_night 6 = .ok (.i2l, 1) := by decide +kernel
theorem dX10_night_7 : decode cX10_night 7 = .ok (.lconst 1, 1) := by decide +kernel
theorem dX10_night_8 : decode cX10_night 8 = .ok (.ldc2_w 339, 3) := by decide +kernel
theorem dX10_night_11 : decode cX10_night 11 = .ok (.invokestatic 152, 3) := by decide +kernel
theorem dX10_night_14 : decode cX10_night 14 = .ok (.ifCond .ne 6, 3) := by decide +kernel
theorem dX10_night_17 : decode cX10_night 17 = .ok (.bipush (-3), 2) := by decide +kernel
theorem dX10_night_19 : decode cX10_night 19 = .ok (.ireturn, 1) := by decide +kernel
theorem dX10_night_20 : decode cX10_night 20 = .ok (.aload_n 0, 1) := by decide +kernel
theorem dX10_night_21 : decode cX10_night 21 = .ok (.invokevirtual 279, 3) := by decide +kernel
theorem dX10_night_24 : decode cX10_night 24 = .ok (.aload_n 0, 1) := by decide +kernel
theorem dX10_night_25 : decode cX10_night 25 = .ok (.iload_n 1, 1) := by decide +kernel
theorem dX10_night_26 : decode cX10_night 26 = .ok (.putfield 333, 3) := by decide +kernel
theorem dX10_night_29 : decode cX10_night 29 = .ok (.iconst 0, 1) := by decide +kernel
theorem dX10_night_30 : decode cX10_night 30 = .ok (.istore_n 3, 1) := by decide +kernel
theorem dX10_night_31 : decode cX10_night 31 = .ok (.iconst 0, 1) := by decide +kernel
theorem dX10_night_32 : decode cX10_night 32 = .ok (.istore 4, 2) := by decide +kernel
theorem dX10_night_34 : decode cX10_night 34 = .ok (.iload 4, 2) := by decide +kernel
theorem dX10_night_36 : decode cX10_night 36 = .ok (.iload_n 2, 1) := by decide +kernel
theorem dX10_night_37 : decode cX10_night 37 = .ok (.if_icmp .ge 37, 3) := by decide +kernel
theorem dX10_night_40 : decode cX10_night 40 = .ok (.aload_n 0, 1) := by decide +kernel
theorem dX10_night_41 : decode cX10_night 41 = .ok (.invokevirtual 341, 3) := by decide +kernel
theorem dX10_night_44 : decode cX10_night 44 = .ok (.istore 5, 2) := by decide +kernel
theorem dX10_night_46 : decode cX10_night 46 = .ok (.aload_n 0, 1) := by decide +kernel
theorem dX10_night_47 : decode cX10_night 47 = .ok (.iload 5, 2) := by decide +kernel
theorem dX10_night_49 : decode cX10_night 49 = .ok (.i2l, 1) := by decide +kernel
theorem dX10_night_50 : decode cX10_night 50 = .ok (.invokevirtual 314, 3) := by decide +kernel
theorem dX10_night_53 : decode cX10_night 53 = .ok (.ifCond .eq 6, 3) := by decide +kernel
theorem dX10_night_56 : decode cX10_night 56 = .ok (.goto 12, 3) := by decide +kernel
theorem dX10_night_59 : decode cX10_night 59 = .ok (.aload_n 0, 1) := by decide +kernel
theorem dX10_night_60 : decode cX10_night 60 = .ok (.iload 5, 2) := by decide +kernel
theorem dX10_night_62 : decode cX10_night 62 = .ok (.invokevirtual 318, 3) := by decide +kernel
theorem dX10_night_65 : decode cX10_night 65 = .ok (.iinc 3 1, 3) := by decide +kernel
theorem dX10_night_68 : decode cX10_night 68 = .ok (.iinc 4 1, 3) := by decide +kernel
theorem dX10_night_71 : decode cX10_night 71 = .ok (.goto (-37), 3) := by decide +kernel
theorem dX10_night_74 : decode cX10_night 74 = .ok (.iload_n 3, 1) := by decide +kernel
theorem dX10_night_75 : decode cX10_night 75 = .ok (.ifCond .le 7, 3) := by decide +kernel
theorem dX10_night_78 : decode cX10_night 78 = .ok (.aload_n 0, 1) := by decide +kernel
theorem dX10_night_79 : decode cX10_night 79 = .ok (.invokevirtual 285, 3) := by decide +kernel
theorem dX10_night_82 : decode cX10_night 82 = .ok (.iload_n 3, 1) := by decide +kernel
theorem dX10_night_83 : decode cX10_night 83 = .ok (.ireturn, 1) := by decide +kernel
theorem dX10_adds_0 : decode cX10_adds 0 = .ok (.aload_n 0, 1) := by decide +kernel
theorem dX10_adds_1 : decode cX10_adds 1 = .ok (.getfield 50, 3) := by decide +kernel
theorem dX10_adds_4 : decode cX10_adds 4 = .ok (.iload_n 1, 1) := by decide +kernel
theorem dX10_adds_5 : decode cX10_adds 5 = .ok (.baload, 1) := by decide +kernel
theorem dX10_adds_6 : decode cX10_adds 6 = .ok (.ifCond .eq 4, 3) := by decide +kernel
theorem dX10_adds_9 : decode cX10_adds 9 = .ok (.return_, 1) := by decide +kernel
theorem dX10_adds_10 : decode cX10_adds 10 = .ok (.aload_n 0, 1) := by decide +kernel
theorem dX10_adds_11 : decode cX10_adds 11 = .ok (.getfield 50, 3) := by decide +kernel
theorem dX10_adds_14 : decode cX10_adds 14 = .ok (.iload_n 1, 1) := by decide +kernel
theorem dX10_adds_15 : decode cX10_adds 15 = .ok (.iconst 1, 1) := by decide +kernel
theorem dX10_adds_16 : decode cX10_adds 16 = .ok (.bastore, 1) := by decide +kernel
theorem dX10_adds_17 : decode cX10_adds 17 = .ok (.aload_n 0, 1) := by decide +kernel
theorem dX10_adds_18 : decode cX10_adds 18 = .ok (.getfield 40, 3) := by decide +kernel
theorem dX10_adds_21 : decode cX10_adds 21 = .ok (.aload_n 0, 1) := by decide +kernel
theorem dX10_adds_22 : decode cX10_adds 22 = .ok (.getfield 344, 3) := by decide +kernel
theorem dX10_adds_25 : decode cX10_adds 25 = .ok (.iload_n 1, 1) := by decide +kernel
theorem dX10_adds_26 : decode cX10_adds 26 = .ok (.iastore, 1) := by decide +kernel
theorem dX10_adds_27 : decode cX10_adds 27 = .ok (.aload_n 0, 1) := by decide +kernel
theorem dX10_adds_28 : decode cX10_adds 28 = .ok (.dup, 1) := by decide +kernel
theorem dX10_adds_29 : decode cX10_adds 29 = .ok (.getfield 344, 3) := by decide +kernel
theorem dX10_adds_32 : decode cX10_adds 32 = .ok (.iconst 1, 1) := by decide +kernel
theorem dX10_adds_33 : decode cX10_adds 33 = .ok (.iadd, 1) := by decide +kernel
theorem dX10_adds_34 : decode cX10_adds 34 = .ok (.putfield 344, 3) := by decide +kernel
theorem dX10_adds_37 : decode cX10_adds 37 = .ok (.return_, 1) := by decide +kernel
theorem dX10_laysStands_0 : decode cX10_laysStands 0 = .ok (.iconst 0, 1) := by decide +kernel
theorem dX10_laysStands_1 : decode cX10_laysStands 1 = .ok (.istore_n 1, 1) := by decide +kernel
theorem dX10_laysStands_2 : decode cX10_laysStands 2 = .ok (.iload_n 1, 1) := by decide +kernel
theorem dX10_laysStands_3 : decode cX10_laysStands 3 = .ok (.ldc 39, 2) := by decide +kernel
theorem dX10_laysStands_5 : decode cX10_laysStands 5 = .ok (.if_icmp .ge 16, 3) := by decide +kernel
theorem dX10_laysStands_8 : decode cX10_laysStands 8 = .ok (.aload_n 0, 1) := by decide +kernel
theorem dX10_laysStands_9 : decode cX10_laysStands 9 = .ok (.getfield 50, 3) := by decide +kernel
theorem dX10_laysStands_12 : decode cX10_laysStands 12 = .ok (.iload_n 1, 1) := by decide +kernel
theorem dX10_laysStands_13 : decode cX10_laysStands 13 = .ok (.iconst 0, 1) := by decide +kernel
theorem dX10_laysStands_14 : decode cX10_laysStands 14 = .ok (.bastore, 1) := by decide +kernel
theorem dX10_laysStands_15 : decode cX10_laysStands 15 = .ok (.iinc 1 1, 3) := by decide +kernel
theorem dX10_laysStands_18 : decode cX10_laysStands 18 = .ok (.goto (-16), 3) := by decide +kernel
theorem dX10_laysStands_21 : decode cX10_laysStands 21 = .ok (.aload_n 0, 1) := by decide +kernel
theorem dX10_laysStands_22 : decode cX10_laysStands 22 = .ok (.iconst 0, 1) := by decide +kernel
theorem dX10_laysStands_23 : decode cX10_laysStands 23 = .ok (.putfield 344, 3) := by decide +kernel
theorem dX10_laysStands_26 : decode cX10_laysStands 26 = .ok (.aload_n 0, 1) := by decide +kernel
theorem dX10_laysStands_27 : decode cX10_laysStands 27 = .ok (.aload_n 0, 1) := by decide +kernel
theorem dX10_laysStands_28 : decode cX10_laysStands 28 = .ok (.invokevirtual 266, 3) := by decide +kernel
theorem dX10_laysStands_31 : decode cX10_laysStands 31 = .ok (.invokevirtual 347, 3) := by decide +kernel
theorem dX10_laysStands_34 : decode cX10_laysStands 34 = .ok (.iconst 0, 1) := by decide +kernel
theorem dX10_laysStands_35 : decode cX10_laysStands 35 = .ok (.istore_n 1, 1) := by decide +kernel
theorem dX10_laysStands_36 : decode cX10_laysStands 36 = .ok (.iload_n 1, 1) := by decide +kernel
theorem dX10_laysStands_37 : decode cX10_laysStands 37 = .ok (.aload_n 0, 1) := by decide +kernel
theorem dX10_laysStands_38 : decode cX10_laysStands 38 = .ok (.getfield 344, 3) := by decide +kernel
theorem dX10_laysStands_41 : decode cX10_laysStands 41 = .ok (.if_icmp .ge 89, 3) := by decide +kernel
theorem dX10_laysStands_44 : decode cX10_laysStands 44 = .ok (.iconst 0, 1) := by decide +kernel
theorem dX10_laysStands_45 : decode cX10_laysStands 45 = .ok (.istore_n 2, 1) := by decide +kernel
theorem dX10_laysStands_46 : decode cX10_laysStands 46 = .ok (.iload_n 2, 1) := by decide +kernel
theorem dX10_laysStands_47 : decode cX10_laysStands 47 = .ok (.bipush 16, 2) := by decide +kernel
theorem dX10_laysStands_49 : decode cX10_laysStands 49 = .ok (.if_icmp .ge 75, 3) := by decide +kernel
theorem dX10_laysStands_52 : decode cX10_laysStands 52 = .ok (.aload_n 0, 1) := by decide +kernel
theorem dX10_laysStands_53 : decode cX10_laysStands 53 = .ok (.aload_n 0, 1) := by decide +kernel
theorem dX10_laysStands_54 : decode cX10_laysStands 54 = .ok (.getfield 40, 3) := by decide +kernel
theorem dX10_laysStands_57 : decode cX10_laysStands 57 = .ok (.iload_n 1, 1) := by decide +kernel
theorem dX10_laysStands_58 : decode cX10_laysStands 58 = .ok (.iaload, 1) := by decide +kernel
theorem dX10_laysStands_59 : decode cX10_laysStands 59 = .ok (.iload_n 2, 1) := by decide +kernel
theorem dX10_laysStands_60 : decode cX10_laysStands 60 = .ok (.i2l, 1) := by decide +kernel
theorem dX10_laysStands_61 : decode cX10_laysStands 61 = .ok (.invokevirtual 269, 3) := by decide +kernel
theorem dX10_laysStands_64 : decode cX10_laysStands 64 = .ok (.ifCond .ne 25, 3) := by decide +kernel
theorem dX10_laysStands_67 : decode cX10_laysStands 67 = .ok (.aload_n 0, 1) := by decide +kernel
theorem dX10_laysStands_68 : decode cX10_laysStands 68 = .ok (.aload_n 0, 1) := by decide +kernel
theorem dX10_laysStands_69 : decode cX10_laysStands 69 = .ok (.getfield 40, 3) := by decide +kernel
theorem dX10_laysStands_72 : decode cX10_laysStands 72 = .ok (.iload_n 1, 1) := by decide +kernel
theorem dX10_laysStands_73 : decode cX10_laysStands 73 = .ok (.iaload, 1) := by decide +kernel
theorem dX10_laysStands_74 : decode cX10_laysStands 74 = .ok (.iload_n 2, 1) := by decide +kernel
theorem dX10_laysStands_75 : decode cX10_laysStands 75 = .ok (.iconst 0, 1) := by decide +kernel
theorem dX10_laysStands_76 : decode cX10_laysStands 76 = .ok (.aload_n 0, 1) := by decide +kernel
theorem dX10_laysStands_77 : decode cX10_laysStands 77 = .ok (.getfield 13, 3) := by decide +kernel
theorem dX10_laysStands_80 : decode cX10_laysStands 80 = .ok (.bipush 27, 2) := by decide +kernel
theorem dX10_laysStands_82 : decode cX10_laysStands 82 = .ok (.iaload, 1) := by decide +kernel
theorem dX10_laysStands_83 : decode cX10_laysStands 83 = .ok (.invokevirtual 273, 3) := by decide +kernel
theorem dX10_laysStands_86 : decode cX10_laysStands 86 = .ok (.goto 4, 3) := by decide +kernel
theorem dX10_laysStands_89 : decode cX10_laysStands 89 = .ok (.iconst (-1), 1) := by decide +kernel
theorem dX10_laysStands_90 : decode cX10_laysStands 90 = .ok (.istore_n 3, 1) := by decide +kernel
theorem dX10_laysStands_91 : decode cX10_laysStands 91 = .ok (.aload_n 0, 1) := by decide +kernel
theorem dX10_laysStands_92 : decode cX10_laysStands 92 = .ok (.getfield 44, 3) := by decide +kernel
theorem dX10_laysStands_95 : decode cX10_laysStands 95 = .ok (.bipush 16, 2) := by decide +kernel
theorem dX10_laysStands_97 : decode cX10_laysStands 97 = .ok (.aload_n 0, 1) := by decide +kernel
theorem dX10_laysStands_98 : decode cX10_laysStands 98 = .ok (.getfield 40, 3) := by decide +kernel
theorem dX10_laysStands_101 : decode cX10_laysStands 101 = .ok (.iload_n 1, 1) := by decide +kernel
theorem dX10_laysStands_102 : decode cX10_laysStands 102 = .ok (.iaload, 1) := by decide +kernel
theorem dX10_laysStands_103 : decode cX10_laysStands 103 = .ok (.imul, 1) := by decide +kernel
theorem dX10_laysStands_104 : decode cX10_laysStands 104 = .ok (.iload_n 2, 1) := by decide +kernel
theorem dX10_laysStands_105 : decode cX10_laysStands 105 = .ok (.iadd, 1) := by decide +kernel
theorem dX10_laysStands_106 : decode cX10_laysStands 106 = .ok (.iload_n 3, 1) := by decide +kernel
theorem dX10_laysStands_107 : decode cX10_laysStands 107 = .ok (.iastore, 1) := by decide +kernel
theorem dX10_laysStands_108 : decode cX10_laysStands 108 = .ok (.iload_n 3, 1) := by decide +kernel
theorem dX10_laysStands_109 : decode cX10_laysStands 109 = .ok (.iconst (-1), 1) := by decide +kernel
theorem dX10_laysStands_110 : decode cX10_laysStands 110 = .ok (.if_icmp .eq 8, 3) := by decide +kernel
theorem dX10_laysStands_113 : decode cX10_laysStands 113 = .ok (.aload_n 0, 1) := by decide +kernel
theorem dX10_laysStands_114 : decode cX10_laysStands 114 = .ok (.iload_n 3, 1) := by decide +kernel
theorem dX10_laysStands_115 : decode cX10_laysStands 115 = .ok (.invokevirtual 347, 3) := by decide +kernel
theorem dX10_laysStands_118 : decode cX10_laysStands 118 = .ok (.iinc 2 1, 3) := by decide +kernel
theorem dX10_laysStands_121 : decode cX10_laysStands 121 = .ok (.goto (-75), 3) := by decide +kernel
theorem dX10_laysStands_124 : decode cX10_laysStands 124 = .ok (.iinc 1 1, 3) := by decide +kernel
theorem dX10_laysStands_127 : decode cX10_laysStands 127 = .ok (.goto (-91), 3) := by decide +kernel
theorem dX10_laysStands_130 : decode cX10_laysStands 130 = .ok (.return_, 1) := by decide +kernel
theorem dX10_isBy_0 : decode cX10_isBy 0 = .ok (.iload_n 1, 1) := by decide +kernel
theorem dX10_isBy_1 : decode cX10_isBy 1 = .ok (.invokestatic 231, 3) := by decide +kernel
theorem dX10_isBy_4 : decode cX10_isBy 4 = .ok (.ifCond .le 18, 3) := by decide +kernel
theorem dX10_isBy_7 : decode cX10_isBy 7 = .ok (.aload_n 0, 1) := by decide +kernel
theorem dX10_isBy_8 : decode cX10_isBy 8 = .ok (.iload_n 1, 1) := by decide +kernel
theorem dX10_isBy_9 : decode cX10_isBy 9 = .ok (.invokevirtual 256, 3) := by decide +kernel
theorem dX10_isBy_12 : decode cX10_isBy 12 = .ok (.iload_n 2, 1) := by decide +kernel
theorem dX10_isBy_13 : decode cX10_isBy 13 = .ok (.iand, 1) := by decide +kernel
theorem dX10_isBy_14 : decode cX10_isBy 14 = .ok (.iload_n 2, 1) := by decide +kernel
theorem dX10_isBy_15 : decode cX10_isBy 15 = .ok (.if_icmp .ne 7, 3) := by decide +kernel
theorem dX10_isBy_18 : decode cX10_isBy 18 = .ok (.iconst 1, 1) := by decide +kernel
theorem dX10_isBy_19 : decode cX10_isBy 19 = .ok (.goto 4, 3) := by decide +kernel
theorem dX10_isBy_22 : decode cX10_isBy 22 = .ok (.iconst 0, 1) := by decide +kernel
theorem dX10_isBy_23 : decode cX10_isBy 23 = .ok (.ireturn, 1) := by decide +kernel
theorem dX10_farBy_0 : decode cX10_farBy 0 = .ok (.aload_n 0, 1) := by decide +kernel
theorem dX10_farBy_1 : decode cX10_farBy 1 = .ok (.getfield 44, 3) := by decide +kernel
theorem dX10_farBy_4 : decode cX10_farBy 4 = .ok (.bipush 16, 2) := by decide +kernel
theorem dX10_farBy_6 : decode cX10_farBy 6 = .ok (.iload_n 1, 1) := by decide +kernel
theorem dX10_farBy_7 : decode cX10_farBy 7 = .ok (.imul, 1) := by decide +kernel
theorem dX10_farBy_8 : decode cX10_farBy 8 = .ok (.iload_n 2, 1) := by decide +kernel
theorem dX10_farBy_9 : decode cX10_farBy 9 = .ok (.iadd, 1) := by decide +kernel
theorem dX10_farBy_10 : decode cX10_farBy 10 = .ok (.iaload, 1) := by decide +kernel
theorem dX10_farBy_11 : decode cX10_farBy 11 = .ok (.istore_n 3, 1) := by decide +kernel
theorem dX10_farBy_12 : decode cX10_farBy 12 = .ok (.iload_n 3, 1) := by decide +kernel
theorem dX10_farBy_13 : decode cX10_farBy 13 = .ok (.iconst (-1), 1) := by decide +kernel
theorem dX10_farBy_14 : decode cX10_farBy 14 = .ok (.if_icmp .eq 15, 3) := by decide +kernel
theorem dX10_farBy_17 : decode cX10_farBy 17 = .ok (.aload_n 0, 1) := by decide +kernel
theorem dX10_farBy_18 : decode cX10_farBy 18 = .ok (.getfield 47, 3) := by decide +kernel
theorem dX10_farBy_21 : decode cX10_farBy 21 = .ok (.iload_n 3, 1) := by decide +kernel
theorem dX10_farBy_22 : decode cX10_farBy 22 = .ok (.iaload, 1) := by decide +kernel
theorem dX10_farBy_23 : decode cX10_farBy 23 = .ok (.ldc_w 350, 3) := by decide +kernel
theorem dX10_farBy_26 : decode cX10_farBy 26 = .ok (.if_icmp .ne 9, 3) := by decide +kernel
theorem dX10_farBy_29 : decode cX10_farBy 29 = .ok (.ldc_w 350, 3) := by decide +kernel
theorem dX10_farBy_32 : decode cX10_farBy 32 = .ok (.goto 11, 3) := by decide +kernel
theorem dX10_farBy_35 : decode cX10_farBy 35 = .ok (.aload_n 0, 1) := by decide +kernel
theorem dX10_farBy_36 : decode cX10_farBy 36 = .ok (.getfield 47, 3) := by decide +kernel
theorem dX10_farBy_39 : decode cX10_farBy 39 = .ok (.iload_n 3, 1) := by decide +kernel
theorem dX10_farBy_40 : decode cX10_farBy 40 = .ok (.iaload, 1) := by decide +kernel
theorem dX10_farBy_41 : decode cX10_farBy 41 = .ok (.iconst 1, 1) := by decide +kernel
theorem dX10_farBy_42 : decode cX10_farBy 42 = .ok (.iadd, 1) := by decide +kernel
theorem dX10_farBy_43 : decode cX10_farBy 43 = .ok (.ireturn, 1) := by decide +kernel
theorem dX10_laysFar_0 : decode cX10_laysFar 0 = .ok (.aload_n 0, 1) := by decide +kernel
theorem dX10_laysFar_1 : decode cX10_laysFar 1 = .ok (.invokevirtual 351, 3) := by decide +kernel
theorem dX10_laysFar_4 : decode cX10_laysFar 4 = .ok (.iconst 0, 1) := by decide +kernel
theorem dX10_laysFar_5 : decode cX10_laysFar 5 = .ok (.istore_n 2, 1) := by decide +kernel
theorem dX10_laysFar_6 : decode cX10_laysFar 6 = .ok (.iload_n 2, 1) := by decide +kernel
theorem dX10_laysFar_7 : decode cX10_laysFar 7 = .ok (.aload_n 0, 1) := by decide +kernel
theorem dX10_laysFar_8 : decode cX10_laysFar 8 = .ok (.getfield 344, 3) := by decide +kernel
theorem dX10_laysFar_11 : decode cX10_laysFar 11 = .ok (.if_icmp .ge 41, 3) := by decide +kernel
theorem dX10_laysFar_14 : decode cX10_laysFar 14 = .ok (.aload_n 0, 1) := by decide +kernel
theorem dX10_laysFar_15 : decode cX10_laysFar 15 = .ok (.getfield 47, 3) := by decide +kernel
theorem dX10_laysFar_18 : decode cX10_laysFar 18 = .ok (.aload_n 0, 1) := by decide +kernel
theorem dX10_laysFar_19 : decode cX10_laysFar 19 = .ok (.getfield 40, 3) := by decide +kernel
theorem dX10_laysFar_22 : decode cX10_laysFar 22 = .ok (.iload_n 2, 1) := by decide +kernel
theorem dX10_laysFar_23 : decode cX10_laysFar 23 = .ok (.iaload, 1) := by decide +kernel
theorem dX10_laysFar_24 : decode cX10_laysFar 24 = .ok (.aload_n 0, 1) := by decide +kernel
theorem dX10_laysFar_25 : decode cX10_laysFar 25 = .ok (.aload_n 0, 1) := by decide +kernel
theorem dX10_laysFar_26 : decode cX10_laysFar 26 = .ok (.getfield 40, 3) := by decide +kernel
theorem dX10_laysFar_29 : decode cX10_laysFar 29 = .ok (.iload_n 2, 1) := by decide +kernel
theorem dX10_laysFar_30 : decode cX10_laysFar 30 = .ok (.iaload, 1) := by decide +kernel
theorem dX10_laysFar_31 : decode cX10_laysFar 31 = .ok (.iload_n 1, 1) := by decide +kernel
theorem dX10_laysFar_32 : decode cX10_laysFar 32 = .ok (.invokevirtual 354, 3) := by decide +kernel
theorem dX10_laysFar_35 : decode cX10_laysFar 35 = .ok (.ifCond .eq 7, 3) := by decide +kernel
theorem dX10_laysFar_38 : decode cX10_laysFar 38 = .ok (.iconst 0, 1) := by decide +kernel
theorem dX10_laysFar_39 : decode cX10_laysFar 39 = .ok (.goto 6, 3) := by decide +kernel
theorem dX10_laysFar_42 : decode cX10_laysFar 42 = .ok (.ldc_w 350, 3) := by decide +kernel
theorem dX10_laysFar_45 : decode cX10_laysFar 45 = .ok (.iastore, 1) := by decide +kernel
theorem dX10_laysFar_46 : decode cX10_laysFar 46 = .ok (.iinc 2 1, 3) := by decide +kernel
theorem dX10_laysFar_49 : decode cX10_laysFar 49 = .ok (.goto (-43), 3) := by decide +kernel
theorem dX10_laysFar_52 : decode cX10_laysFar 52 = .ok (.iconst 1, 1) := by decide +kernel
theorem dX10_laysFar_53 : decode cX10_laysFar 53 = .ok (.istore_n 2, 1) := by decide +kernel
theorem dX10_laysFar_54 : decode cX10_laysFar 54 = .ok (.iload_n 2, 1) := by decide +kernel
theorem dX10_laysFar_55 : decode cX10_laysFar 55 = .ok (.ifCond .eq 109, 3) := by decide +kernel
theorem dX10_laysFar_58 : decode cX10_laysFar 58 = .ok (.iconst 0, 1) := by decide +kernel
theorem dX10_laysFar_59 : decode cX10_laysFar 59 = .ok (.istore_n 2, 1) := by decide +kernel
theorem dX10_laysFar_60 : decode cX10_laysFar 60 = .ok (.aload_n 0, 1) := by decide +kernel
theorem dX10_laysFar_61 : decode cX10_laysFar 61 = .ok (.getfield 344, 3) := by decide +kernel
theorem dX10_laysFar_64 : decode cX10_laysFar 64 = .ok (.iconst 1, 1) := by decide +kernel
theorem dX10_laysFar_65 : decode cX10_laysFar 65 = .ok (.isub, 1) := by decide +kernel

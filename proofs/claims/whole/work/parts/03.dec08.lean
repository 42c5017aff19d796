theorem dX10_feed_26 : decode cX10_feed 26 = .ok (.bipush 20, 2) := by decide +kernel
theorem dX10_feed_28 : decode cX10_feed 28 = .ok (.if_icmp .ge 93, 3) := by decide +kernel
theorem dX10_feed_31 : decode cX10_feed 31 = .ok (.iload 6, 2) := by decide +kernel
theorem dX10_feed_33 : decode cX10_feed 33 = .ok (.iconst 4, 1) := by decide +kernel
theorem dX10_feed_34 : decode cX10_feed 34 = .ok (.if_icmp .ge 7, 3) := by decide +kernel
theorem dX10_feed_37 : decode cX10_feed 37 = .ok (.iload_n 1, 1) := by decide +kernel
theorem dX10_feed_38 : decode cX10_feed 38 = .ok (.goto 39, 3) := by decide +kernel
theorem dX10_feed_41 : decode cX10_feed 41 = .ok (.iload 6, 2) := by decide +kernel
theorem dX10_feed_43 : decode cX10_feed 43 = .ok (.bipush 8, 2) := by decide +kernel
theorem dX10_feed_45 : decode cX10_feed 45 = .ok (.if_icmp .ge 7, 3) := by decide +kernel
theorem dX10_feed_48 : decode cX10_feed 48 = .ok (.iload_n 2, 1) := by decide +kernel
theorem dX10_feed_49 : decode cX10_feed 49 = .ok (.goto 28, 3) := by decide +kernel
theorem dX10_feed_52 : decode cX10_feed 52 = .ok (.iload 6, 2) := by decide +kernel
theorem dX10_feed_54 : decode cX10_feed 54 = .ok (.bipush 12, 2) := by decide +kernel
theorem dX10_feed_56 : decode cX10_feed 56 = .ok (.if_icmp .ge 7, 3) := by decide +kernel
theorem dX10_feed_59 : decode cX10_feed 59 = .ok (.iload_n 3, 1) := by decide +kernel
theorem dX10_feed_60 : decode cX10_feed 60 = .ok (.goto 17, 3) := by decide +kernel
theorem dX10_feed_63 : decode cX10_feed 63 = .ok (.iload 6, 2) := by decide +kernel
theorem dX10_feed_65 : decode cX10_feed 65 = .ok (.bipush 16, 2) := by decide +kernel
theorem dX10_feed_67 : decode cX10_feed 67 = .ok (.if_icmp .ge 8, 3) := by decide +kernel
theorem dX10_feed_70 : decode cX10_feed 70 = .ok (.iload 4, 2) := by decide +kernel
theorem dX10_feed_72 : decode cX10_feed 72 = .ok (.goto 5, 3) := by decide +kernel
theorem dX10_feed_75 : decode cX10_feed 75 = .ok (.iload 5, 2) := by decide +kernel
theorem dX10_feed_77 : decode cX10_feed 77 = .ok (.istore 7, 2) := by decide +kernel
theorem dX10_feed_79 : decode cX10_feed 79 = .ok (.aload_n 0, 1) := by decide +kernel
theorem dX10_feed_80 : decode cX10_feed 80 = .ok (.getfield 21, 3) := by decide +kernel
theorem dX10_feed_83 : decode cX10_feed 83 = .ok (.aload_n 0, 1) := by decide +kernel
theorem dX10_feed_84 : decode cX10_feed 84 = .ok (.getfield 90, 3) := by decide +kernel
theorem dX10_feed_87 : decode cX10_feed 87 = .ok (.iload 7, 2) := by decide +kernel
theorem dX10_feed_89 : decode cX10_feed 89 = .ok (.bipush 24, 2) := by decide +kernel
theorem dX10_feed_91 : decode cX10_feed 91 = .ok (.bipush 8, 2) := by decide +kernel
theorem dX10_feed_93 : decode cX10_feed 93 = .ok (.iload 6, 2) := by decide +kernel
theorem dX10_feed_95 : decode cX10_feed 95 = .ok (.iconst 4, 1) := by decide +kernel
theorem dX10_feed_96 : decode cX10_feed 96 = .ok (.irem, 1) := by decide +kernel
theorem dX10_feed_97 : decode cX10_feed 97 = .ok (.imul, 1) := by decide +kernel
theorem dX10_feed_98 : decode cX10_feed 98 = .ok (.isub, 1) := by decide +kernel
theorem dX10_feed_99 : decode cX10_feed 99 = .ok (.ishr, 1) := by decide +kernel
theorem dX10_feed_100 : decode cX10_feed 100 = .ok (.sipush 255, 3) := by decide +kernel
theorem dX10_feed_103 : decode cX10_feed 103 = .ok (.iand, 1) := by decide +kernel
theorem dX10_feed_104 : decode cX10_feed 104 = .ok (.iastore, 1) := by decide +kernel
theorem dX10_feed_105 : decode cX10_feed 105 = .ok (.aload_n 0, 1) := by decide +kernel
theorem dX10_feed_106 : decode cX10_feed 106 = .ok (.dup, 1) := by decide +kernel
theorem dX10_feed_107 : decode cX10_feed 107 = .ok (.getfield 90, 3) := by decide +kernel
theorem dX10_feed_110 : decode cX10_feed 110 = .ok (.iconst 1, 1) := by decide +kernel
theorem dX10_feed_111 : decode cX10_feed 111 = .ok (.iadd, 1) := by decide +kernel
theorem dX10_feed_112 : decode cX10_feed 112 = .ok (.putfield 90, 3) := by decide +kernel
theorem dX10_feed_115 : decode cX10_feed 115 = .ok (.iinc 6 1, 3) := by decide +kernel
theorem dX10_feed_118 : decode cX10_feed 118 = .ok (.goto (-94), 3) := by decide +kernel
theorem dX10_feed_121 : decode cX10_feed 121 = .ok (.aload_n 0, 1) := by decide +kernel
theorem dX10_feed_122 : decode cX10_feed 122 = .ok (.getfield 90, 3) := by decide +kernel
theorem dX10_feed_125 : decode cX10_feed 125 = .ok (.ireturn, 1) := by decide +kernel
theorem dX10_see_0 : decode cX10_see 0 = .ok (.iload_n 1, 1) := by decide +kernel
theorem dX10_see_1 : decode cX10_see 1 = .ok (.aload_n 0, 1) := by decide +kernel
theorem dX10_see_2 : decode cX10_see 2 = .ok (.getfield 93, 3) := by decide +kernel
theorem dX10_see_5 : decode cX10_see 5 = .ok (.if_icmp .ge 12, 3) := by decide +kernel
theorem dX10_see_8 : decode cX10_see 8 = .ok (.aload_n 0, 1) := by decide +kernel
theorem dX10_see_9 : decode cX10_see 9 = .ok (.getfield 21, 3) := by decide +kernel
theorem dX10_see_12 : decode cX10_see 12 = .ok (.iload_n 1, 1) := by decide +kernel
theorem dX10_see_13 : decode cX10_see 13 = .ok (.iaload, 1) := by decide +kernel
theorem dX10_see_14 : decode cX10_see 14 = .ok (.goto 4, 3) := by decide +kernel
theorem dX10_see_17 : decode cX10_see 17 = .ok (.iconst (-1), 1) := by decide +kernel
theorem dX10_see_18 : decode cX10_see 18 = .ok (.ireturn, 1) := by decide +kernel
theorem dX10_isSmall_0 : decode cX10_isSmall 0 = .ok (.iload_n 0, 1) := by decide +kernel
theorem dX10_isSmall_1 : decode cX10_isSmall 1 = .ok (.bipush 97, 2) := by decide +kernel
theorem dX10_isSmall_3 : decode cX10_isSmall 3 = .ok (.if_icmp .lt 13, 3) := by decide +kernel
theorem dX10_isSmall_6 : decode cX10_isSmall 6 = .ok (.iload_n 0, 1) := by decide +kernel
theorem dX10_isSmall_7 : decode cX10_isSmall 7 = .ok (.bipush 122, 2) := by decide +kernel
theorem dX10_isSmall_9 : decode cX10_isSmall 9 = .ok (.if_icmp .gt 7, 3) := by decide +kernel
theorem dX10_isSmall_12 : decode cX10_isSmall 12 = .ok (.iconst 1, 1) := by decide +kernel
theorem dX10_isSmall_13 : decode cX10_isSmall 13 = .ok (.goto 4, 3) := by decide +kernel
theorem dX10_isSmall_16 : decode cX10_isSmall 16 = .ok (.iconst 0, 1) := by decide +kernel
theorem dX10_isSmall_17 : decode cX10_isSmall 17 = .ok (.ireturn, 1) := by decide +kernel
theorem dX10_isDigit_0 : decode cX10_isDigit 0 = .ok (.iload_n 0, 1) := by decide +kernel
theorem dX10_isDigit_1 : decode cX10_isDigit 1 = .ok (.bipush 48, 2) := by decide +kernel
theorem dX10_isDigit_3 : decode cX10_isDigit 3 = .ok (.if_icmp .lt 13, 3) := by decide +kernel
theorem dX10_isDigit_6 : decode cX10_isDigit 6 = .ok (.iload_n 0, 1) := by decide +kernel
theorem dX10_isDigit_7 : decode cX10_isDigit 7 = .ok (.bipush 57, 2) := by decide +kernel
theorem dX10_isDigit_9 : decode cX10_isDigit 9 = .ok (.if_icmp .gt 7, 3) := by decide +kernel
theorem dX10_isDigit_12 : decode cX10_isDigit 12 = .ok (.iconst 1, 1) := by decide +kernel
theorem dX10_isDigit_13 : decode cX10_isDigit 13 = .ok (.goto 4, 3) := by decide +kernel
theorem dX10_isDigit_16 : decode cX10_isDigit 16 = .ok (.iconst 0, 1) := by decide +kernel
theorem dX10_isDigit_17 : decode cX10_isDigit 17 = .ok (.ireturn, 1) := by decide +kernel
theorem dX10_keyAt_0 : decode cX10_keyAt 0 = .ok (.iconst 0, 1) := by decide +kernel
theorem dX10_keyAt_1 : decode cX10_keyAt 1 = .ok (.istore_n 1, 1) := by decide +kernel
theorem dX10_keyAt_2 : decode cX10_keyAt 2 = .ok (.iconst 1, 1) := by decide +kernel
theorem dX10_keyAt_3 : decode cX10_keyAt 3 = .ok (.istore_n 2, 1) := by decide +kernel
theorem dX10_keyAt_4 : decode cX10_keyAt 4 = .ok (.iload_n 2, 1) := by decide +kernel
theorem dX10_keyAt_5 : decode cX10_keyAt 5 = .ok (.ldc 96, 2) := by decide +kernel
theorem dX10_keyAt_7 : decode cX10_keyAt 7 = .ok (.invokevirtual 98, 3) := by decide +kernel
theorem dX10_keyAt_10 : decode cX10_keyAt 10 = .ok (.if_icmp .ge 113, 3) := by decide +kernel
theorem dX10_keyAt_13 : decode cX10_keyAt 13 = .ok (.iconst 0, 1) := by decide +kernel
theorem dX10_keyAt_14 : decode cX10_keyAt 14 = .ok (.istore_n 3, 1) := by decide +kernel
theorem dX10_keyAt_15 : decode cX10_keyAt 15 = .ok (.ldc 96, 2) := by decide +kernel
theorem dX10_keyAt_17 : decode cX10_keyAt 17 = .ok (.iload_n 2, 1) := by decide +kernel
theorem dX10_keyAt_18 : decode cX10_keyAt 18 = .ok (.iload_n 3, 1) := by decide +kernel
theorem dX10_keyAt_19 : decode cX10_keyAt 19 = .ok (.iadd, 1) := by decide +kernel
theorem dX10_keyAt_20 : decode cX10_keyAt 20 = .ok (.invokevirtual 104, 3) := by decide +kernel
theorem dX10_keyAt_23 : decode cX10_keyAt 23 = .ok (.bipush 32, 2) := by decide +kernel
theorem dX10_keyAt_25 : decode cX10_keyAt 25 = .ok (.if_icmp .eq 44, 3) := by decide +kernel
theorem dX10_keyAt_28 : decode cX10_keyAt 28 = .ok (.aload_n 0, 1) := by decide +kernel
theorem dX10_keyAt_29 : decode cX10_keyAt 29 = .ok (.getfield 108, 3) := by decide +kernel
theorem dX10_keyAt_32 : decode cX10_keyAt 32 = .ok (.iload_n 3, 1) := by decide +kernel
theorem dX10_keyAt_33 : decode cX10_keyAt 33 = .ok (.iadd, 1) := by decide +kernel
theorem dX10_keyAt_34 : decode cX10_keyAt 34 = .ok (.aload_n 0, 1) := by decide +kernel
theorem dX10_keyAt_35 : decode cX10_keyAt 35 = .ok (.getfield 111, 3) := by decide +kernel
theorem dX10_keyAt_38 : decode cX10_keyAt 38 = .ok (.if_icmp .ge 31, 3) := by decide +kernel
theorem dX10_keyAt_41 : decode cX10_keyAt 41 = .ok (.aload_n 0, 1) := by decide +kernel
theorem dX10_keyAt_42 : decode cX10_keyAt 42 = .ok (.getfield 21, 3) := by decide +kernel
theorem dX10_keyAt_45 : decode cX10_keyAt 45 = .ok (.aload_n 0, 1) := by decide +kernel
theorem dX10_keyAt_46 : decode cX10_keyAt 46 = .ok (.getfield 108, 3) := by decide +kernel
theorem dX10_keyAt_49 : decode cX10_keyAt 49 = .ok (.iload_n 3, 1) := by decide +kernel
theorem dX10_keyAt_50 : decode cX10_keyAt 50 = .ok (.iadd, 1) := by decide +kernel
theorem dX10_keyAt_51 : decode cX10_keyAt 51 = .ok (.iaload, 1) := by decide +kernel
theorem dX10_keyAt_52 : decode cX10_keyAt 52 = .ok (.ldc 96, 2) := by decide +kernel
theorem dX10_keyAt_54 : decode cX10_keyAt 54 = .ok (.iload_n 2, 1) := by decide +kernel
theorem dX10_keyAt_55 : decode cX10_keyAt 55 = .ok (.iload_n 3, 1) := by decide +kernel
theorem dX10_keyAt_56 : decode cX10_keyAt 56 = .ok (.iadd, 1) := by decide +kernel
theorem dX10_keyAt_57 : decode cX10_keyAt 57 = .ok (.invokevirtual 104, 3) := by decide +kernel
theorem dX10_keyAt_60 : decode cX10_keyAt 60 = .ok (.if_icmp .ne 9, 3) := by decide +kernel
theorem dX10_keyAt_63 : decode cX10_keyAt 63 = .ok (.iinc 3 1, 3) := by decide +kernel
theorem dX10_keyAt_66 : decode cX10_keyAt 66 = .ok (.goto (-51), 3) := by decide +kernel
theorem dX10_keyAt_69 : decode cX10_keyAt 69 = .ok (.ldc 96, 2) := by decide +kernel
theorem dX10_keyAt_71 : decode cX10_keyAt 71 = .ok (.iload_n 2, 1) := by decide +kernel
theorem dX10_keyAt_72 : decode cX10_keyAt 72 = .ok (.iload_n 3, 1) := by decide +kernel
theorem dX10_keyAt_73 : decode cX10_keyAt 73 = .ok (.iadd, 1) := by decide +kernel
theorem dX10_keyAt_74 : decode cX10_keyAt 74 = .ok (.invokevirtual 104, 3) := by decide +kernel
theorem dX10_keyAt_77 : decode cX10_keyAt 77 = .ok (.bipush 32, 2) := by decide +kernel
theorem dX10_keyAt_79 : decode cX10_keyAt 79 = .ok (.if_icmp .ne 18, 3) := by decide +kernel
theorem dX10_keyAt_82 : decode cX10_keyAt 82 = .ok (.aload_n 0, 1) := by decide +kernel
theorem dX10_keyAt_83 : decode cX10_keyAt 83 = .ok (.getfield 108, 3) := by decide +kernel
theorem dX10_keyAt_86 : decode cX10_keyAt 86 = .ok (.iload_n 3, 1) := by decide +kernel
theorem dX10_keyAt_87 : decode cX10_keyAt 87 = .ok (.iadd, 1) := by decide +kernel
theorem dX10_keyAt_88 : decode cX10_keyAt 88 = .ok (.aload_n 0, 1) := by decide +kernel
theorem dX10_keyAt_89 : decode cX10_keyAt 89 = .ok (.getfield 111, 3) := by decide +kernel
theorem dX10_keyAt_92 : decode cX10_keyAt 92 = .ok (.if_icmp .ne 5, 3) := by decide +kernel
theorem dX10_keyAt_95 : decode cX10_keyAt 95 = .ok (.iload_n 1, 1) := by decide +kernel
theorem dX10_keyAt_96 : decode cX10_keyAt 96 = .ok (.ireturn, 1) := by decide +kernel
theorem dX10_keyAt_97 : decode cX10_keyAt 97 = .ok (.ldc 96, 2) := by decide +kernel
theorem dX10_keyAt_99 : decode cX10_keyAt 99 = .ok (.iload_n 2, 1) := by decide +kernel
theorem dX10_keyAt_100 : decode cX10_keyAt 100 = .ok (.invokevirtual 104, 3) := by decide +kernel
theorem dX10_keyAt_103 : decode cX10_keyAt 103 = .ok (.bipush 32, 2) := by decide +kernel
theorem dX10_keyAt_105 : decode cX10_keyAt 105 = .ok (.if_icmp .eq 9, 3) := by decide +kernel
theorem dX10_keyAt_108 : decode cX10_keyAt 108 = .ok (.iinc 2 1, 3) := by decide +kernel
theorem dX10_keyAt_111 : decode cX10_keyAt 111 = .ok (.goto (-14), 3) := by decide +kernel
theorem dX10_keyAt_114 : decode cX10_keyAt 114 = .ok (.iinc 2 1, 3) := by decide +kernel
theorem dX10_keyAt_117 : decode cX10_keyAt 117 = .ok (.iinc 1 1, 3) := by decide +kernel
theorem dX10_keyAt_120 : decode cX10_keyAt 120 = .ok (.goto (-116), 3) := by decide +kernel
theorem dX10_keyAt_123 : decode cX10_keyAt 123 = .ok (.bipush 23, 2) := by decide +kernel
theorem dX10_keyAt_125 : decode cX10_keyAt 125 = .ok (.ireturn, 1) := by decide +kernel
theorem dX10_next_0 : decode cX10_next 0 = .ok (.aload_n 0, 1) := by decide +kernel
theorem dX10_next_1 : decode cX10_next 1 = .ok (.aload_n 0, 1) := by decide +kernel
theorem dX10_next_2 : decode cX10_next 2 = .ok (.getfield 111, 3) := by decide +kernel
theorem dX10_next_5 : decode cX10_next 5 = .ok (.putfield 108, 3) := by decide +kernel
theorem dX10_next_8 : decode cX10_next 8 = .ok (.aload_n 0, 1) := by decide +kernel
theorem dX10_next_9 : decode cX10_next 9 = .ok (.aload_n 0, 1) := by decide +kernel
theorem dX10_next_10 : decode cX10_next 10 = .ok (.getfield 108, 3) := by decide +kernel
theorem dX10_next_13 : decode cX10_next 13 = .ok (.invokevirtual 114, 3) := by decide +kernel
theorem dX10_next_16 : decode cX10_next 16 = .ok (.bipush 10, 2) := by decide +kernel
theorem dX10_next_18 : decode cX10_next 18 = .ok (.if_icmp .eq 16, 3) := by decide +kernel
theorem dX10_next_21 : decode cX10_next 21 = .ok (.aload_n 0, 1) := by decide +kernel
theorem dX10_next_22 : decode cX10_next 22 = .ok (.aload_n 0, 1) := by decide +kernel
theorem dX10_next_23 : decode cX10_next 23 = .ok (.getfield 108, 3) := by decide +kernel
theorem dX10_next_26 : decode cX10_next 26 = .ok (.invokevirtual 114, 3) := by decide +kernel
theorem dX10_next_29 : decode cX10_next 29 = .ok (.bipush 32, 2) := by decide +kernel
theorem dX10_next_31 : decode cX10_next 31 = .ok (.if_icmp .ne 16, 3) := by decide +kernel
theorem dX10_next_34 : decode cX10_next 34 = .ok (.aload_n 0, 1) := by decide +kernel
theorem dX10_next_35 : decode cX10_next 35 = .ok (.dup, 1) := by decide +kernel
theorem dX10_next_36 : decode cX10_next 36 = .ok (.getfield 108, 3) := by decide +kernel
theorem dX10_next_39 : decode cX10_next 39 = .ok (.iconst 1, 1) := by decide +kernel
theorem dX10_next_40 : decode cX10_next 40 = .ok (.iadd, 1) := by decide +kernel
theorem dX10_next_41 : decode cX10_next 41 = .ok (.putfield 108, 3) := by decide +kernel
theorem dX10_next_44 : decode cX10_next 44 = .ok (.goto (-36), 3) := by decide +kernel
theorem dX10_next_47 : decode cX10_next 47 = .ok (.aload_n 0, 1) := by decide +kernel
theorem dX10_next_48 : decode cX10_next 48 = .ok (.aload_n 0, 1) := by decide +kernel
theorem dX10_next_49 : decode cX10_next 49 = .ok (.getfield 108, 3) := by decide +kernel
theorem dX10_next_52 : decode cX10_next 52 = .ok (.putfield 111, 3) := by decide +kernel
theorem dX10_next_55 : decode cX10_next 55 = .ok (.aload_n 0, 1) := by decide +kernel
theorem dX10_next_56 : decode cX10_next 56 = .ok (.getfield 108, 3) := by decide +kernel
theorem dX10_next_59 : decode cX10_next 59 = .ok (.aload_n 0, 1) := by decide +kernel
theorem dX10_next_60 : decode cX10_next 60 = .ok (.getfield 93, 3) := by decide +kernel
theorem dX10_next_63 : decode cX10_next 63 = .ok (.if_icmp .lt 12, 3) := by decide +kernel
theorem dX10_next_66 : decode cX10_next 66 = .ok (.aload_n 0, 1) := by decide +kernel
theorem dX10_next_67 : decode cX10_next 67 = .ok (.bipush 25, 2) := by decide +kernel
theorem dX10_next_69 : decode cX10_next 69 = .ok (.putfield 118, 3) := by decide +kernel
theorem dX10_next_72 : decode cX10_next 72 = .ok (.goto 222, 3) := by decide +kernel
theorem dX10_next_75 : decode cX10_next 75 = .ok (.aload_n 0, 1) := by decide +kernel
theorem dX10_next_76 : decode cX10_next 76 = .ok (.aload_n 0, 1) := by decide +kernel
theorem dX10_next_77 : decode cX10_next 77 = .ok (.getfield 108, 3) := by decide +kernel
theorem dX10_next_80 : decode cX10_next 80 = .ok (.invokevirtual 114, 3) := by decide +kernel
theorem dX10_next_83 : decode cX10_next 83 = .ok (.invokestatic 121, 3) := by decide +kernel
theorem dX10_next_86 : decode cX10_next 86 = .ok (.ifCond .eq 41, 3) := by decide +kernel
theorem dX10_next_89 : decode cX10_next 89 = .ok (.aload_n 0, 1) := by decide +kernel
theorem dX10_next_90 : decode cX10_next 90 = .ok (.aload_n 0, 1) := by decide +kernel
theorem dX10_next_91 : decode cX10_next 91 = .ok (.getfield 111, 3) := by decide +kernel
theorem dX10_next_94 : decode cX10_next 94 = .ok (.invokevirtual 114, 3) := by decide +kernel
theorem dX10_next_97 : decode cX10_next 97 = .ok (.invokestatic 121, 3) := by decide +kernel
theorem dX10_next_100 : decode cX10_next 100 = .ok (.ifCond .eq 16, 3) := by decide +kernel
theorem dX10_next_103 : decode cX10_next 103 = .ok (.aload_n 0, 1) := by decide +kernel
theorem dX10_next_104 : decode cX10_next 104 = .ok (.dup, 1) := by decide +kernel
theorem dX10_next_105 : decode cX10_next 105 = .ok (.getfield 111, 3) := by decide +kernel
theorem dX10_next_108 : decode cX10_next 108 = .ok (.iconst 1, 1) := by decide +kernel
theorem dX10_next_109 : decode cX10_next 109 = .ok (.iadd, 1) := by decide +kernel
theorem dX10_next_110 : decode cX10_next 110 = .ok (.putfield 111, 3) := by decide +kernel
theorem dX10_next_113 : decode cX10_next 113 = .ok (.goto (-24), 3) := by decide +kernel
theorem dX10_next_116 : decode cX10_next 116 = .ok (.aload_n 0, 1) := by decide +kernel
theorem dX10_next_117 : decode cX10_next 117 = .ok (.aload_n 0, 1) := by decide +kernel
theorem dX10_next_118 : decode cX10_next 118 = .ok (.invokevirtual 125, 3) := by decide +kernel
theorem dX10_next_121 : decode cX10_next 121 = .ok (.putfield 118, 3) := by decide +kernel
theorem dX10_next_124 : decode cX10_next 124 = .ok (.goto 170, 3) := by decide +kernel
theorem dX10_next_127 : decode cX10_next 127 = .ok (.aload_n 0, 1) := by decide +kernel
theorem dX10_next_128 : decode cX10_next 128 = .ok (.aload_n 0, 1) := by decide +kernel
theorem dX10_next_129 : decode cX10_next 129 = .ok (.getfield 108, 3) := by decide +kernel
theorem dX10_next_132 : decode cX10_next 132 = .ok (.invokevirtual 114, 3) := by decide +kernel
theorem dX10_next_135 : decode cX10_next 135 = .ok (.invokestatic 128, 3) := by decide +kernel
theorem dX10_next_138 : decode cX10_next 138 = .ok (.ifCond .eq 98, 3) := by decide +kernel
theorem dX10_next_141 : decode cX10_next 141 = .ok (.aload_n 0, 1) := by decide +kernel
theorem dX10_next_142 : decode cX10_next 142 = .ok (.iconst 0, 1) := by decide +kernel
theorem dX10_next_143 : decode cX10_next 143 = .ok (.putfield 131, 3) := by decide +kernel
theorem dX10_next_146 : decode cX10_next 146 = .ok (.aload_n 0, 1) := by decide +kernel
theorem dX10_next_147 : decode cX10_next 147 = .ok (.aload_n 0, 1) := by decide +kernel
theorem dX10_next_148 : decode cX10_next 148 = .ok (.getfield 111, 3) := by decide +kernel
theorem dX10_next_151 : decode cX10_next 151 = .ok (.invokevirtual 114, 3) := by decide +kernel
theorem dX10_next_154 : decode cX10_next 154 = .ok (.invokestatic 128, 3) := by decide +kernel
theorem dX10_next_157 : decode cX10_next 157 = .ok (.ifCond .eq 52, 3) := by decide +kernel
theorem dX10_next_160 : decode cX10_next 160 = .ok (.aload_n 0, 1) := by decide +kernel
theorem dX10_next_161 : decode cX10_next 161 = .ok (.getfield 111, 3) := by decide +kernel
theorem dX10_next_164 : decode cX10_next 164 = .ok (.aload_n 0, 1) := by decide +kernel
theorem dX10_next_165 : decode cX10_next 165 = .ok (.getfield 108, 3) := by decide +kernel
theorem dX10_next_168 : decode cX10_next 168 = .ok (.isub, 1) := by decide +kernel
theorem dX10_next_169 : decode cX10_next 169 = .ok (.iconst 3, 1) := by decide +kernel
theorem dX10_next_170 : decode cX10_next 170 = .ok (.if_icmp .ge 26, 3) := by decide +kernel
theorem dX10_next_173 : decode cX10_next 173 = .ok (.aload_n 0, 1) := by decide +kernel
theorem dX10_next_174 : decode cX10_next 174 = .ok (.bipush 10, 2) := by decide +kernel
theorem dX10_next_176 : decode cX10_next 176 = .ok (.aload_n 0, 1) := by decide +kernel
theorem dX10_next_177 : decode cX10_next 177 = .ok (.getfield 131, 3) := by decide +kernel
theorem dX10_next_180 : decode cX10_next 180 = .ok (.imul, 1) := by decide +kernel
theorem dX10_next_181 : decode cX10_next 181 = .ok (.aload_n 0, 1) := by decide +kernel
theorem dX10_next_182 : decode cX10_next 182 = .ok (.aload_n 0, 1) := by decide +kernel
theorem dX10_next_183 : decode cX10_next 183 = .ok (.getfield 111, 3) := by decide +kernel
theorem dX10_next_186 : decode cX10_next 186 = .ok (.invokevirtual 114, 3) := by decide +kernel
theorem dX10_next_189 : decode cX10_next 189 = .ok (.iadd, 1) := by decide +kernel
theorem dX10_next_190 : decode cX10_next 190 = .ok (.bipush 48, 2) := by decide +kernel
theorem dX10_next_192 : decode cX10_next 192 = .ok (.isub, 1) := by decide +kernel
theorem dX10_next_193 : decode cX10_next 193 = .ok (.putfield 131, 3) := by decide +kernel
theorem dX10_next_196 : decode cX10_next 196 = .ok (.aload_n 0, 1) := by decide +kernel
theorem dX10_next_197 : decode cX10_next 197 = .ok (.dup, 1) := by decide +kernel
theorem dX10_next_198 : decode cX10_next 198 = .ok (.getfield 111, 3) := by decide +kernel
theorem dX10_next_201 : decode cX10_next 201 = .ok (.iconst 1, 1) := by decide +kernel
theorem dX10_next_202 : decode cX10_next 202 = .ok (.iadd, 1) := by decide +kernel
theorem dX10_next_203 : decode cX10_next 203 = .ok (.putfield 111, 3) := by decide +kernel
theorem dX10_next_206 : decode cX10_next 206 = .ok (.goto (-60), 3) := by decide +kernel
theorem dX10_next_209 : decode cX10_next 209 = .ok (.aload_n 0, 1) := by decide +kernel
theorem dX10_next_210 : decode cX10_next 210 = .ok (.aload_n 0, 1) := by decide +kernel
theorem dX10_next_211 : decode cX10_next 211 = .ok (.getfield 111, 3) := by decide +kernel
theorem dX10_next_214 : decode cX10_next 214 = .ok (.aload_n 0, 1) := by decide +kernel
theorem dX10_next_215 : decode cX10_next 215 = .ok (.getfield 108, 3) := by decide +kernel
theorem dX10_next_218 : decode cX10_next 218 = .ok (.isub, 1) := by decide +kernel
theorem dX10_next_219 : decode cX10_next 219 = .ok (.iconst 3, 1) := by decide +kernel
theorem dX10_next_220 : decode cX10_next 220 = .ok (.if_icmp .le 8, 3) := by decide +kernel
theorem dX10_next_223 : decode cX10_next 223 = .ok (.bipush 26, 2) := by decide +kernel
theorem dX10_next_225 : decode cX10_next 225 = .ok (.goto 5, 3) := by decide +kernel
theorem dX10_next_228 : decode cX10_next 228 = .ok (.bipush 24, 2) := by decide +kernel
theorem dX10_next_230 : decode cX10_next 230 = .ok (.putfield 118, 3) := by decide +kernel
theorem dX10_next_233 : decode cX10_next 233 = .ok (.goto 61, 3) := by decide +kernel
theorem dX10_next_236 : decode cX10_next 236 = .ok (.aload_n 0, 1) := by decide +kernel
theorem dX10_next_237 : decode cX10_next 237 = .ok (.dup, 1) := by decide +kernel
theorem dX10_next_238 : decode cX10_next 238 = .ok (.getfield 111, 3) := by decide +kernel
theorem dX10_next_241 : decode cX10_next 241 = .ok (.iconst 1, 1) := by decide +kernel
theorem dX10_next_242 : decode cX10_next 242 = .ok (.iadd, 1) := by decide +kernel
theorem dX10_next_243 : decode cX10_next 243 = .ok (.putfield 111, 3) := by decide +kernel
theorem dX10_next_246 : decode cX10_next 246 = .ok (.aload_n 0, 1) := by decide +kernel
theorem dX10_next_247 : decode cX10_next 247 = .ok (.bipush 26, 2) := by decide +kernel
theorem dX10_next_249 : decode cX10_next 249 = .ok (.putfield 118, 3) := by decide +kernel
theorem dX10_next_252 : decode cX10_next 252 = .ok (.iconst 0, 1) := by decide +kernel
theorem dX10_next_253 : decode cX10_next 253 = .ok (.istore_n 1, 1) := by decide +kernel
theorem dX10_next_254 : decode cX10_next 254 = .ok (.iload_n 1, 1) := by decide +kernel
theorem dX10_next_255 : decode cX10_next 255 = .ok (.ldc 134, 2) := by decide +kernel
theorem dX10_next_257 : decode cX10_next 257 = .ok (.invokevirtual 98, 3) := by decide +kernel
theorem dX10_next_260 : decode cX10_next 260 = .ok (.if_icmp .ge 34, 3) := by decide +kernel
theorem dX10_next_263 : decode cX10_next 263 = .ok (.aload_n 0, 1) := by decide +kernel
theorem dX10_next_264 : decode cX10_next 264 = .ok (.aload_n 0, 1) := by decide +kernel
theorem dX10_next_265 : decode cX10_next 265 = .ok (.getfield 108, 3) := by decide +kernel
theorem dX10_next_268 : decode cX10_next 268 = .ok (.invokevirtual 114, 3) := by decide +kernel
theorem dX10_next_271 : decode cX10_next 271 = .ok (.ldc 134, 2) := by decide +kernel
theorem dX10_next_273 : decode cX10_next 273 = .ok (.iload_n 1, 1) := by decide +kernel
theorem dX10_next_274 : decode cX10_next 274 = .ok (.invokevirtual 104, 3) := by decide +kernel
theorem dX10_next_277 : decode cX10_next 277 = .ok (.if_icmp .ne 11, 3) := by decide +kernel
theorem dX10_next_280 : decode cX10_next 280 = .ok (.aload_n 0, 1) := by decide +kernel
theorem dX10_next_281 : decode cX10_next 281 = .ok (.bipush 30, 2) := by decide +kernel
theorem dX10_next_283 : decode cX10_next 283 = .ok (.iload_n 1, 1) := by decide +kernel
theorem dX10_next_284 : decode cX10_next 284 = .ok (.iadd, 1) := by decide +kernel
theorem dX10_next_285 : decode cX10_next 285 = .ok (.putfield 118, 3) := by decide +kernel
theorem dX10_next_288 : decode cX10_next 288 = .ok (.iinc 1 1, 3) := by decide +kernel
theorem dX10_next_291 : decode cX10_next 291 = .ok (.goto (-37), 3) := by decide +kernel
theorem dX10_next_294 : decode cX10_next 294 = .ok (.return_, 1) := by decide +kernel
theorem dX10_fails_0 : decode cX10_fails 0 = .ok (.aload_n 0, 1) := by decide +kernel
theorem dX10_fails_1 : decode cX10_fails 1 = .ok (.getfield 136, 3) := by decide +kernel
theorem dX10_fails_4 : decode cX10_fails 4 = .ok (.ifCond .eq 4, 3) := by decide +kernel
theorem dX10_fails_7 : decode cX10_fails 7 = .ok (.return_, 1) := by decide +kernel
theorem dX10_fails_8 : decode cX10_fails 8 = .ok (.aload_n 0, 1) := by decide +kernel
theorem dX10_fails_9 : decode cX10_fails 9 = .ok (.aload_n 0, 1) := by decide +kernel
theorem dX10_fails_10 : decode cX10_fails 10 = .ok (.getfield 118, 3) := by decide +kernel
theorem dX10_fails_13 : decode cX10_fails 13 = .ok (.bipush 26, 2) := by decide +kernel
theorem dX10_fails_15 : decode cX10_fails 15 = .ok (.if_icmp .ne 7, 3) := by decide +kernel
theorem dX10_fails_18 : decode cX10_fails 18 = .ok (.iconst 1, 1) := by decide +kernel
theorem dX10_fails_19 : decode cX10_fails 19 = .ok (.goto 4, 3) := by decide +kernel
theorem dX10_fails_22 : decode cX10_fails 22 = .ok (.iload_n 1, 1) := by decide +kernel
theorem dX10_fails_23 : decode cX10_fails 23 = .ok (.putfield 136, 3) := by decide +kernel
theorem dX10_fails_26 : decode cX10_fails 26 = .ok (.aload_n 0, 1) := by decide +kernel
theorem dX10_fails_27 : decode cX10_fails 27 = .ok (.aload_n 0, 1) := by decide +kernel
theorem dX10_fails_28 : decode cX10_fails 28 = .ok (.getfield 108, 3) := by decide +kernel
theorem dX10_fails_31 : decode cX10_fails 31 = .ok (.putfield 139, 3) := by decide +kernel
theorem dX10_fails_34 : decode cX10_fails 34 = .ok (.return_, 1) := by decide +kernel
theorem dX10_is_0 : decode cX10_is 0 = .ok (.aload_n 0, 1) := by decide +kernel
theorem dX10_is_1 : decode cX10_is 1 = .ok (.getfield 136, 3) := by decide +kernel
theorem dX10_is_4 : decode cX10_is 4 = .ok (.ifCond .ne 15, 3) := by decide +kernel
theorem dX10_is_7 : decode cX10_is 7 = .ok (.aload_n 0, 1) := by decide +kernel
theorem dX10_is_8 : decode cX10_is 8 = .ok (.getfield 118, 3) := by decide +kernel
theorem dX10_is_11 : decode cX10_is 11 = .ok (.iload_n 1, 1) := by decide +kernel
theorem dX10_is_12 : decode cX10_is 12 = .ok (.if_icmp .ne 7, 3) := by decide +kernel
theorem dX10_is_15 : decode cX10_is 15 = .ok (.iconst 1, 1) := by decide +kernel
theorem dX10_is_16 : decode cX10_is 16 = .ok (.goto 4, 3) := by decide +kernel
theorem dX10_is_19 : decode cX10_is 19 = .ok (.iconst 0, 1) := by decide +kernel
theorem dX10_is_20 : decode cX10_is 20 = .ok (.ireturn, 1) := by decide +kernel
theorem dX10_eats_0 : decode cX10_eats 0 = .ok (.aload_n 0, 1) := by decide +kernel
theorem dX10_eats_1 : decode cX10_eats 1 = .ok (.iload_n 1, 1) := by decide +kernel
theorem dX10_eats_2 : decode cX10_eats 2 = .ok (.invokevirtual 142, 3) := by decide +kernel
theorem dX10_eats_5 : decode cX10_eats 5 = .ok (.ifCond .ne 5, 3) := by decide +kernel
theorem dX10_eats_8 : decode cX10_eats 8 = .ok (.iconst 0, 1) := by decide +kernel
theorem dX10_eats_9 : decode cX10_eats 9 = .ok (.ireturn, 1) := by decide +kernel
theorem dX10_eats_10 : decode cX10_eats 10 = .ok (.aload_n 0, 1) := by decide +kernel
theorem dX10_eats_11 : decode cX10_eats 11 = .ok (.invokevirtual 145, 3) := by decide +kernel
theorem dX10_eats_14 : decode cX10_eats 14 = .ok (.iconst 1, 1) := by decide +kernel
theorem dX10_eats_15 : decode cX10_eats 15 = .ok (.ireturn, 1) := by decide +kernel
theorem dX10_takes_0 : decode cX10_takes 0 = .ok (.aload_n 0, 1) := by decide +kernel
theorem dX10_takes_1 : decode cX10_takes 1 = .ok (.bipush 24, 2) := by decide +kernel
theorem dX10_takes_3 : decode cX10_takes 3 = .ok (.invokevirtual 142, 3) := by decide +kernel
theorem dX10_takes_6 : decode cX10_takes 6 = .ok (.ifCond .ne 11, 3) := by decide +kernel
theorem dX10_takes_9 : decode cX10_takes 9 = .ok (.aload_n 0, 1) := by decide +kernel
theorem dX10_takes_10 : decode cX10_takes 10 = .ok (.iconst 2, 1) := by decide +kernel
theorem dX10_takes_11 : decode cX10_takes 11 = .ok (.invokevirtual 148, 3) := by decide +kernel
theorem dX10_takes_14 : decode cX10_takes 14 = .ok (.goto 23, 3) := by decide +kernel
theorem dX10_takes_17 : decode cX10_takes 17 = .ok (.aload_n 0, 1) := by decide +kernel
theorem dX10_takes_18 : decode cX10_takes 18 = .ok (.getfield 131, 3) := by decide +kernel
theorem dX10_takes_21 : decode cX10_takes 21 = .ok (.i2l, 1) := by decide +kernel
theorem dX10_takes_22 : decode cX10_takes 22 = .ok (.iload_n 1, 1) := by decide +kernel
theorem dX10_takes_23 : decode cX10_takes 23 = .ok (.i2l, 1) := by decide +kernel
theorem dX10_takes_24 : decode cX10_takes 24 = .ok (.iload_n 2, 1) := by decide +kernel
theorem dX10_takes_25 : decode cX10_takes 25 = .ok (.i2l, 1) := by decide +kernel
theorem dX10_takes_26 : decode cX10_takes 26 = .ok (.invokestatic 152, 3) := by decide +kernel
theorem dX10_takes_29 : decode cX10_takes 29 = .ok (.ifCond .ne 8, 3) := by decide +kernel
theorem dX10_takes_32 : decode cX10_takes 32 = .ok (.aload_n 0, 1) := by decide +kernel
theorem dX10_takes_33 : decode cX10_takes 33 = .ok (.iconst 3, 1) := by decide +kernel
theorem dX10_takes_34 : decode cX10_takes 34 = .ok (.invokevirtual 148, 3) := by decide +kernel
theorem dX10_takes_37 : decode cX10_takes 37 = .ok (.aload_n 0, 1) := by decide +kernel
theorem dX10_takes_38 : decode cX10_takes 38 = .ok (.getfield 131, 3) := by decide +kernel
theorem dX10_takes_41 : decode cX10_takes 41 = .ok (.istore_n 3, 1) := by decide +kernel
theorem dX10_takes_42 : decode cX10_takes 42 = .ok (.aload_n 0, 1) := by decide +kernel
theorem dX10_takes_43 : decode cX10_takes 43 = .ok (.getfield 136, 3) := by decide +kernel
theorem dX10_takes_46 : decode cX10_takes 46 = .ok (.ifCond .ne 7, 3) := by decide +kernel
theorem dX10_takes_49 : decode cX10_takes 49 = .ok (.aload_n 0, 1) := by decide +kernel
theorem dX10_takes_50 : decode cX10_takes 50 = .ok (.invokevirtual 145, 3) := by decide +kernel
theorem dX10_takes_53 : decode cX10_takes 53 = .ok (.iload_n 3, 1) := by decide +kernel
theorem dX10_takes_54 : decode cX10_takes 54 = .ok (.ireturn, 1) := by decide +kernel
theorem dX10_isIn_0 : decode cX10_isIn 0 = .ok (.lload_n 0, 1) := by decide +kernel
theorem dX10_isIn_1 : decode cX10_isIn 1 = .ok (.iload_n 2, 1) := by decide +kernel
theorem dX10_isIn_2 : decode cX10_isIn 2 = .ok (.lshr, 1) := by decide +kernel
theorem dX10_isIn_3 : decode cX10_isIn 3 = .ok (.lconst 1, 1) := by decide +kernel
theorem dX10_isIn_4 : decode cX10_isIn 4 = .ok (.land, 1) := by decide +kernel
theorem dX10_isIn_5 : decode cX10_isIn 5 = .ok (.lconst 1, 1) := by decide +kernel
theorem dX10_isIn_6 : decode cX10_isIn 6 = .ok (.lcmp, 1) := by decide +kernel
theorem dX10_isIn_7 : decode cX10_isIn 7 = .ok (.ifCond .ne 7, 3) := by decide +kernel
theorem dX10_isIn_10 : decode cX10_isIn 10 = .ok (.iconst 1, 1) := by decide +kernel
theorem dX10_isIn_11 : decode cX10_isIn 11 = .ok (.goto 4, 3) := by decide +kernel
theorem dX10_isIn_14 : decode cX10_isIn 14 = .ok (.iconst 0, 1) := by decide +kernel
theorem dX10_isIn_15 : decode cX10_isIn 15 = .ok (.ireturn, 1) := by decide +kernel
theorem dX10_wordOf_0 : decode cX10_wordOf 0 = .ok (.iload_n 1, 1) := by decide +kernel
theorem dX10_wordOf_1 : decode cX10_wordOf 1 = .ok (.bipush 11, 2) := by decide +kernel
theorem dX10_wordOf_3 : decode cX10_wordOf 3 = .ok (.if_icmp .ne 5, 3) := by decide +kernel
theorem dX10_wordOf_6 : decode cX10_wordOf 6 = .ok (.iconst 0, 1) := by decide +kernel
theorem dX10_wordOf_7 : decode cX10_wordOf 7 = .ok (.ireturn, 1) := by decide +kernel
theorem dX10_wordOf_8 : decode cX10_wordOf 8 = .ok (.iload_n 1, 1) := by decide +kernel
theorem dX10_wordOf_9 : decode cX10_wordOf 9 = .ok (.iconst 2, 1) := by decide +kernel
theorem dX10_wordOf_10 : decode cX10_wordOf 10 = .ok (.if_icmp .ne 5, 3) := by decide +kernel
theorem dX10_wordOf_13 : decode cX10_wordOf 13 = .ok (.iconst 1, 1) := by decide +kernel
theorem dX10_wordOf_14 : decode cX10_wordOf 14 = .ok (.ireturn, 1) := by decide +kernel
theorem dX10_wordOf_15 : decode cX10_wordOf 15 = .ok (.aload_n 0, 1) := by decide +kernel
theorem dX10_wordOf_16 : decode cX10_wordOf 16 = .ok (.getfield 156, 3) := by decide +kernel
theorem dX10_wordOf_19 : decode cX10_wordOf 19 = .ok (.iconst 1, 1) := by decide +kernel
theorem dX10_wordOf_20 : decode cX10_wordOf 20 = .ok (.if_icmp .ne 38, 3) := by decide +kernel
theorem dX10_wordOf_23 : decode cX10_wordOf 23 = .ok (.iload_n 1, 1) := by decide +kernel
theorem dX10_wordOf_24 : decode cX10_wordOf 24 = .ok (.bipush 10, 2) := by decide +kernel
theorem dX10_wordOf_26 : decode cX10_wordOf 26 = .ok (.if_icmp .ne 8, 3) := by decide +kernel
theorem dX10_wordOf_29 : decode cX10_wordOf 29 = .ok (.bipush 6, 2) := by decide +kernel
theorem dX10_wordOf_31 : decode cX10_wordOf 31 = .ok (.goto 26, 3) := by decide +kernel
theorem dX10_wordOf_34 : decode cX10_wordOf 34 = .ok (.iload_n 1, 1) := by decide +kernel
theorem dX10_wordOf_35 : decode cX10_wordOf 35 = .ok (.bipush 18, 2) := by decide +kernel
theorem dX10_wordOf_37 : decode cX10_wordOf 37 = .ok (.if_icmp .ne 8, 3) := by decide +kernel
theorem dX10_wordOf_40 : decode cX10_wordOf 40 = .ok (.bipush 7, 2) := by decide +kernel
theorem dX10_wordOf_42 : decode cX10_wordOf 42 = .ok (.goto 15, 3) := by decide +kernel
theorem dX10_wordOf_45 : decode cX10_wordOf 45 = .ok (.iload_n 1, 1) := by decide +kernel
theorem dX10_wordOf_46 : decode cX10_wordOf 46 = .ok (.bipush 19, 2) := by decide +kernel
theorem dX10_wordOf_48 : decode cX10_wordOf 48 = .ok (.if_icmp .ne 8, 3) := by decide +kernel
theorem dX10_wordOf_51 : decode cX10_wordOf 51 = .ok (.bipush 8, 2) := by decide +kernel
theorem dX10_wordOf_53 : decode cX10_wordOf 53 = .ok (.goto 4, 3) := by decide +kernel
theorem dX10_wordOf_56 : decode cX10_wordOf 56 = .ok (.iconst (-1), 1) := by decide +kernel
theorem dX10_wordOf_57 : decode cX10_wordOf 57 = .ok (.ireturn, 1) := by decide +kernel
theorem dX10_wordOf_58 : decode cX10_wordOf 58 = .ok (.iload_n 1, 1) := by decide +kernel
theorem dX10_wordOf_59 : decode cX10_wordOf 59 = .ok (.iconst 3, 1) := by decide +kernel
theorem dX10_wordOf_60 : decode cX10_wordOf 60 = .ok (.if_icmp .ne 7, 3) := by decide +kernel
theorem dX10_wordOf_63 : decode cX10_wordOf 63 = .ok (.iconst 2, 1) := by decide +kernel
theorem dX10_wordOf_64 : decode cX10_wordOf 64 = .ok (.goto 33, 3) := by decide +kernel
theorem dX10_wordOf_67 : decode cX10_wordOf 67 = .ok (.iload_n 1, 1) := by decide +kernel
theorem dX10_wordOf_68 : decode cX10_wordOf 68 = .ok (.iconst 4, 1) := by decide +kernel
theorem dX10_wordOf_69 : decode cX10_wordOf 69 = .ok (.if_icmp .ne 7, 3) := by decide +kernel
theorem dX10_wordOf_72 : decode cX10_wordOf 72 = .ok (.iconst 3, 1) := by decide +kernel
theorem dX10_wordOf_73 : decode cX10_wordOf 73 = .ok (.goto 24, 3) := by decide +kernel
theorem dX10_wordOf_76 : decode cX10_wordOf 76 = .ok (.iload_n 1, 1) := by decide +kernel
theorem dX10_wordOf_77 : decode cX10_wordOf 77 = .ok (.bipush 6, 2) := by decide +kernel
theorem dX10_wordOf_79 : decode cX10_wordOf 79 = .ok (.if_icmp .ne 7, 3) := by decide +kernel
theorem dX10_wordOf_82 : decode cX10_wordOf 82 = .ok (.iconst 4, 1) := by decide +kernel
theorem dX10_wordOf_83 : decode cX10_wordOf 83 = .ok (.goto 14, 3) := by decide +kernel
theorem dX10_wordOf_86 : decode cX10_wordOf 86 = .ok (.iload_n 1, 1) := by decide +kernel
theorem dX10_wordOf_87 : decode cX10_wordOf 87 = .ok (.bipush 17, 2) := by decide +kernel
theorem dX10_wordOf_89 : decode cX10_wordOf 89 = .ok (.if_icmp .ne 7, 3) := by decide +kernel
theorem dX10_wordOf_92 : decode cX10_wordOf 92 = .ok (.iconst 5, 1) := by decide +kernel
theorem dX10_wordOf_93 : decode cX10_wordOf 93 = .ok (.goto 4, 3) := by decide +kernel
theorem dX10_wordOf_96 : decode cX10_wordOf 96 = .ok (.iconst (-1), 1) := by decide +kernel
theorem dX10_wordOf_97 : decode cX10_wordOf 97 = .ok (.ireturn, 1) := by decide +kernel
theorem dX10_codes_0 : decode cX10_codes 0 = .ok (.aload_n 0, 1) := by decide +kernel
theorem dX10_codes_1 : decode cX10_codes 1 = .ok (.getfield 136, 3) := by decide +kernel
theorem dX10_codes_4 : decode cX10_codes 4 = .ok (.ifCond .eq 4, 3) := by decide +kernel
theorem dX10_codes_7 : decode cX10_codes 7 = .ok (.return_, 1) := by decide +kernel
theorem dX10_codes_8 : decode cX10_codes 8 = .ok (.aload_n 0, 1) := by decide +kernel
theorem dX10_codes_9 : decode cX10_codes 9 = .ok (.getfield 24, 3) := by decide +kernel
theorem dX10_codes_12 : decode cX10_codes 12 = .ok (.sipush 277, 3) := by decide +kernel
theorem dX10_codes_15 : decode cX10_codes 15 = .ok (.aload_n 0, 1) := by decide +kernel
theorem dX10_codes_16 : decode cX10_codes 16 = .ok (.getfield 24, 3) := by decide +kernel
theorem dX10_codes_19 : decode cX10_codes 19 = .ok (.sipush 276, 3) := by decide +kernel
theorem dX10_codes_22 : decode cX10_codes 22 = .ok (.iaload, 1) := by decide +kernel
theorem dX10_codes_23 : decode cX10_codes 23 = .ok (.iadd, 1) := by decide +kernel
theorem dX10_codes_24 : decode cX10_codes 24 = .ok (.iload_n 1, 1) := by decide +kernel
theorem dX10_codes_25 : decode cX10_codes 25 = .ok (.iastore, 1) := by decide +kernel
theorem dX10_codes_26 : decode cX10_codes 26 = .ok (.aload_n 0, 1) := by decide +kernel
theorem dX10_codes_27 : decode cX10_codes 27 = .ok (.getfield 24, 3) := by decide +kernel
theorem dX10_codes_30 : decode cX10_codes 30 = .ok (.sipush 276, 3) := by decide +kernel
theorem dX10_codes_33 : decode cX10_codes 33 = .ok (.dup2, 1) := by decide +kernel
theorem dX10_codes_34 : decode cX10_codes 34 = .ok (.iaload, 1) := by decide +kernel
theorem dX10_codes_35 : decode cX10_codes 35 = .ok (.iconst 1, 1) := by decide +kernel
theorem dX10_codes_36 : decode cX10_codes 36 = .ok (.iadd, 1) := by decide +kernel
theorem dX10_codes_37 : decode cX10_codes 37 = .ok (.iastore, 1) := by decide +kernel
theorem dX10_codes_38 : decode cX10_codes 38 = .ok (.return_, 1) := by decide +kernel
theorem dX10_goesIn_0 : decode cX10_goesIn 0 = .ok (.iload_n 1, 1) := by decide +kernel
theorem dX10_goesIn_1 : decode cX10_goesIn 1 = .ok (.bipush 6, 2) := by decide +kernel
theorem dX10_goesIn_3 : decode cX10_goesIn 3 = .ok (.if_icmp .ne 8, 3) := by decide +kernel
theorem dX10_goesIn_6 : decode cX10_goesIn 6 = .ok (.aload_n 0, 1) := by decide +kernel
theorem dX10_goesIn_7 : decode cX10_goesIn 7 = .ok (.iconst 4, 1) := by decide +kernel
theorem dX10_goesIn_8 : decode cX10_goesIn 8 = .ok (.invokevirtual 148, 3) := by decide +kernel
theorem dX10_goesIn_11 : decode cX10_goesIn 11 = .ok (.aload_n 0, 1) := by decide +kernel
theorem dX10_goesIn_12 : decode cX10_goesIn 12 = .ok (.getfield 136, 3) := by decide +kernel
theorem dX10_goesIn_15 : decode cX10_goesIn 15 = .ok (.ifCond .ne 7, 3) := by decide +kernel
theorem dX10_goesIn_18 : decode cX10_goesIn 18 = .ok (.aload_n 0, 1) := by decide +kernel
theorem dX10_goesIn_19 : decode cX10_goesIn 19 = .ok (.invokevirtual 145, 3) := by decide +kernel
theorem dX10_goesIn_22 : decode cX10_goesIn 22 = .ok (.aload_n 0, 1) := by decide +kernel
theorem dX10_goesIn_23 : decode cX10_goesIn 23 = .ok (.getfield 136, 3) := by decide +kernel
theorem dX10_goesIn_26 : decode cX10_goesIn 26 = .ok (.ifCond .ne 7, 3) := by decide +kernel
theorem dX10_goesIn_29 : decode cX10_goesIn 29 = .ok (.iconst 1, 1) := by decide +kernel
theorem dX10_goesIn_30 : decode cX10_goesIn 30 = .ok (.goto 4, 3) := by decide +kernel
theorem dX10_goesIn_33 : decode cX10_goesIn 33 = .ok (.iconst 0, 1) := by decide +kernel
theorem dX10_goesIn_34 : decode cX10_goesIn 34 = .ok (.ireturn, 1) := by decide +kernel
theorem dX10_readAtom_0 : decode cX10_readAtom 0 = .ok (.aload_n 0, 1) := by decide +kernel
theorem dX10_readAtom_1 : decode cX10_readAtom 1 = .ok (.bipush 24, 2) := by decide +kernel
theorem dX10_readAtom_3 : decode cX10_readAtom 3 = .ok (.invokevirtual 142, 3) := by decide +kernel
theorem dX10_readAtom_6 : decode cX10_readAtom 6 = .ok (.ifCond .eq 18, 3) := by decide +kernel
theorem dX10_readAtom_9 : decode cX10_readAtom 9 = .ok (.aload_n 0, 1) := by decide +kernel
theorem dX10_readAtom_10 : decode cX10_readAtom 10 = .ok (.aload_n 0, 1) := by decide +kernel
theorem dX10_readAtom_11 : decode cX10_readAtom 11 = .ok (.getfield 131, 3) := by decide +kernel
theorem dX10_readAtom_14 : decode cX10_readAtom 14 = .ok (.invokevirtual 159, 3) := by decide +kernel
theorem dX10_readAtom_17 : decode cX10_readAtom 17 = .ok (.aload_n 0, 1) := by decide +kernel
theorem dX10_readAtom_18 : decode cX10_readAtom 18 = .ok (.invokevirtual 145, 3) := by decide +kernel
theorem dX10_readAtom_21 : decode cX10_readAtom 21 = .ok (.goto 109, 3) := by decide +kernel
theorem dX10_readAtom_24 : decode cX10_readAtom 24 = .ok (.aload_n 0, 1) := by decide +kernel
theorem dX10_readAtom_25 : decode cX10_readAtom 25 = .ok (.getfield 136, 3) := by decide +kernel
theorem dX10_readAtom_28 : decode cX10_readAtom 28 = .ok (.ifCond .ne 38, 3) := by decide +kernel
theorem dX10_readAtom_31 : decode cX10_readAtom 31 = .ok (.aload_n 0, 1) := by decide +kernel
theorem dX10_readAtom_32 : decode cX10_readAtom 32 = .ok (.aload_n 0, 1) := by decide +kernel
theorem dX10_readAtom_33 : decode cX10_readAtom 33 = .ok (.getfield 118, 3) := by decide +kernel
theorem dX10_readAtom_36 : decode cX10_readAtom 36 = .ok (.invokevirtual 162, 3) := by decide +kernel
theorem dX10_readAtom_39 : decode cX10_readAtom 39 = .ok (.iconst (-1), 1) := by decide +kernel
theorem dX10_readAtom_40 : decode cX10_readAtom 40 = .ok (.if_icmp .eq 26, 3) := by decide +kernel
theorem dX10_readAtom_43 : decode cX10_readAtom 43 = .ok (.aload_n 0, 1) := by decide +kernel
theorem dX10_readAtom_44 : decode cX10_readAtom 44 = .ok (.sipush 1000, 3) := by decide +kernel
theorem dX10_readAtom_47 : decode cX10_readAtom 47 = .ok (.aload_n 0, 1) := by decide +kernel
theorem dX10_readAtom_48 : decode cX10_readAtom 48 = .ok (.aload_n 0, 1) := by decide +kernel
theorem dX10_readAtom_49 : decode cX10_readAtom 49 = .ok (.getfield 118, 3) := by decide +kernel
theorem dX10_readAtom_52 : decode cX10_readAtom 52 = .ok (.invokevirtual 162, 3) := by decide +kernel
theorem dX10_readAtom_55 : decode cX10_readAtom 55 = .ok (.iadd, 1) := by decide +kernel
theorem dX10_readAtom_56 : decode cX10_readAtom 56 = .ok (.invokevirtual 159, 3) := by decide +kernel
theorem dX10_readAtom_59 : decode cX10_readAtom 59 = .ok (.aload_n 0, 1) := by decide +kernel
theorem dX10_readAtom_60 : decode cX10_readAtom 60 = .ok (.invokevirtual 145, 3) := by decide +kernel
theorem dX10_readAtom_63 : decode cX10_readAtom 63 = .ok (.goto 67, 3) := by decide +kernel
theorem dX10_readAtom_66 : decode cX10_readAtom 66 = .ok (.aload_n 0, 1) := by decide +kernel
theorem dX10_readAtom_67 : decode cX10_readAtom 67 = .ok (.bipush 35, 2) := by decide +kernel
theorem dX10_readAtom_69 : decode cX10_readAtom 69 = .ok (.invokevirtual 142, 3) := by decide +kernel
theorem dX10_readAtom_72 : decode cX10_readAtom 72 = .ok (.ifCond .eq 36, 3) := by decide +kernel
theorem dX10_readAtom_75 : decode cX10_readAtom 75 = .ok (.aload_n 0, 1) := by decide +kernel
theorem dX10_readAtom_76 : decode cX10_readAtom 76 = .ok (.iload_n 1, 1) := by decide +kernel
theorem dX10_readAtom_77 : decode cX10_readAtom 77 = .ok (.invokevirtual 165, 3) := by decide +kernel
theorem dX10_readAtom_80 : decode cX10_readAtom 80 = .ok (.ifCond .ne 4, 3) := by decide +kernel
theorem dX10_readAtom_83 : decode cX10_readAtom 83 = .ok (.return_, 1) := by decide +kernel
theorem dX10_readAtom_84 : decode cX10_readAtom 84 = .ok (.aload_n 0, 1) := by decide +kernel
theorem dX10_readAtom_85 : decode cX10_readAtom 85 = .ok (.iload_n 1, 1) := by decide +kernel
theorem dX10_readAtom_86 : decode cX10_readAtom 86 = .ok (.iconst 1, 1) := by decide +kernel
theorem dX10_readAtom_87 : decode cX10_readAtom 87 = .ok (.iadd, 1) := by decide +kernel
theorem dX10_readAtom_88 : decode cX10_readAtom 88 = .ok (.invokevirtual 168, 3) := by decide +kernel
theorem dX10_readAtom_91 : decode cX10_readAtom 91 = .ok (.aload_n 0, 1) := by decide +kernel
theorem dX10_readAtom_92 : decode cX10_readAtom 92 = .ok (.bipush 36, 2) := by decide +kernel
theorem dX10_readAtom_94 : decode cX10_readAtom 94 = .ok (.invokevirtual 171, 3) := by decide +kernel
theorem dX10_readAtom_97 : decode cX10_readAtom 97 = .ok (.ifCond .ne 33, 3) := by decide +kernel
theorem dX10_readAtom_100 : decode cX10_readAtom 100 = .ok (.aload_n 0, 1) := by decide +kernel
theorem dX10_readAtom_101 : decode cX10_readAtom 101 = .ok (.iconst 2, 1) := by decide +kernel
theorem dX10_readAtom_102 : decode cX10_readAtom 102 = .ok (.invokevirtual 148, 3) := by decide +kernel
theorem dX10_readAtom_105 : decode cX10_readAtom 105 = .ok (.goto 25, 3) := by decide +kernel
theorem dX10_readAtom_108 : decode cX10_readAtom 108 = .ok (.aload_n 0, 1) := by decide +kernel
theorem dX10_readAtom_109 : decode cX10_readAtom 109 = .ok (.bipush 13, 2) := by decide +kernel
theorem dX10_readAtom_111 : decode cX10_readAtom 111 = .ok (.invokevirtual 142, 3) := by decide +kernel
theorem dX10_readAtom_114 : decode cX10_readAtom 114 = .ok (.ifCond .eq 11, 3) := by decide +kernel
theorem dX10_readAtom_117 : decode cX10_readAtom 117 = .ok (.aload_n 0, 1) := by decide +kernel
theorem dX10_readAtom_118 : decode cX10_readAtom 118 = .ok (.iload_n 1, 1) := by decide +kernel
theorem dX10_readAtom_119 : decode cX10_readAtom 119 = .ok (.invokevirtual 174, 3) := by decide +kernel
theorem dX10_readAtom_122 : decode cX10_readAtom 122 = .ok (.goto 8, 3) := by decide +kernel
theorem dX10_readAtom_125 : decode cX10_readAtom 125 = .ok (.aload_n 0, 1) := by decide +kernel
theorem dX10_readAtom_126 : decode cX10_readAtom 126 = .ok (.iconst 2, 1) := by decide +kernel
theorem dX10_readAtom_127 : decode cX10_readAtom 127 = .ok (.invokevirtual 148, 3) := by decide +kernel
theorem dX10_readAtom_130 : decode cX10_readAtom 130 = .ok (.return_, 1) := by decide +kernel
theorem dX10_readIf_0 : decode cX10_readIf 0 = .ok (.aload_n 0, 1) := by decide +kernel
theorem dX10_readIf_1 : decode cX10_readIf 1 = .ok (.iload_n 1, 1) := by decide +kernel
theorem dX10_readIf_2 : decode cX10_readIf 2 = .ok (.invokevirtual 165, 3) := by decide +kernel
theorem dX10_readIf_5 : decode cX10_readIf 5 = .ok (.ifCond .ne 4, 3) := by decide +kernel
theorem dX10_readIf_8 : decode cX10_readIf 8 = .ok (.return_, 1) := by decide +kernel
theorem dX10_readIf_9 : decode cX10_readIf 9 = .ok (.aload_n 0, 1) := by decide +kernel
theorem dX10_readIf_10 : decode cX10_readIf 10 = .ok (.iload_n 1, 1) := by decide +kernel
theorem dX10_readIf_11 : decode cX10_readIf 11 = .ok (.iconst 1, 1) := by decide +kernel
theorem dX10_readIf_12 : decode cX10_readIf 12 = .ok (.iadd, 1) := by decide +kernel
theorem dX10_readIf_13 : decode cX10_readIf 13 = .ok (.invokevirtual 177, 3) := by decide +kernel
theorem dX10_readIf_16 : decode cX10_readIf 16 = .ok (.aload_n 0, 1) := by decide +kernel
theorem dX10_readIf_17 : decode cX10_readIf 17 = .ok (.bipush 14, 2) := by decide +kernel
theorem dX10_readIf_19 : decode cX10_readIf 19 = .ok (.invokevirtual 171, 3) := by decide +kernel
theorem dX10_readIf_22 : decode cX10_readIf 22 = .ok (.ifCond .ne 8, 3) := by decide +kernel
theorem dX10_readIf_25 : decode cX10_readIf 25 = .ok (.aload_n 0, 1) := by decide +kernel
theorem dX10_readIf_26 : decode cX10_readIf 26 = .ok (.iconst 2, 1) := by decide +kernel
theorem dX10_readIf_27 : decode cX10_readIf 27 = .ok (.invokevirtual 148, 3) := by decide +kernel
theorem dX10_readIf_30 : decode cX10_readIf 30 = .ok (.aload_n 0, 1) := by decide +kernel
theorem dX10_readIf_31 : decode cX10_readIf 31 = .ok (.iload_n 1, 1) := by decide +kernel
theorem dX10_readIf_32 : decode cX10_readIf 32 = .ok (.iconst 1, 1) := by decide +kernel
theorem dX10_readIf_33 : decode cX10_readIf 33 = .ok (.iadd, 1) := by decide +kernel
theorem dX10_readIf_34 : decode cX10_readIf 34 = .ok (.invokevirtual 168, 3) := by decide +kernel
theorem dX10_readIf_37 : decode cX10_readIf 37 = .ok (.aload_n 0, 1) := by decide +kernel
theorem dX10_readIf_38 : decode cX10_readIf 38 = .ok (.bipush 15, 2) := by decide +kernel
theorem dX10_readIf_40 : decode cX10_readIf 40 = .ok (.invokevirtual 171, 3) := by decide +kernel
theorem dX10_readIf_43 : decode cX10_readIf 43 = .ok (.ifCond .ne 8, 3) := by decide +kernel
theorem dX10_readIf_46 : decode cX10_readIf 46 = .ok (.aload_n 0, 1) := by decide +kernel
theorem dX10_readIf_47 : decode cX10_readIf 47 = .ok (.iconst 2, 1) := by decide +kernel
theorem dX10_readIf_48 : decode cX10_readIf 48 = .ok (.invokevirtual 148, 3) := by decide +kernel
theorem dX10_readIf_51 : decode cX10_readIf 51 = .ok (.aload_n 0, 1) := by decide +kernel
theorem dX10_readIf_52 : decode cX10_readIf 52 = .ok (.iload_n 1, 1) := by decide +kernel
theorem dX10_readIf_53 : decode cX10_readIf 53 = .ok (.iconst 1, 1) := by decide +kernel
theorem dX10_readIf_54 : decode cX10_readIf 54 = .ok (.iadd, 1) := by decide +kernel
theorem dX10_readIf_55 : decode cX10_readIf 55 = .ok (.invokevirtual 168, 3) := by decide +kernel
theorem dX10_readIf_58 : decode cX10_readIf 58 = .ok (.aload_n 0, 1) := by decide +kernel
theorem dX10_readIf_59 : decode cX10_readIf 59 = .ok (.bipush 16, 2) := by decide +kernel
theorem dX10_readIf_61 : decode cX10_readIf 61 = .ok (.invokevirtual 171, 3) := by decide +kernel
theorem dX10_readIf_64 : decode cX10_readIf 64 = .ok (.ifCond .ne 8, 3) := by decide +kernel
theorem dX10_readIf_67 : decode cX10_readIf 67 = .ok (.aload_n 0, 1) := by decide +kernel
theorem dX10_readIf_68 : decode cX10_readIf 68 = .ok (.iconst 2, 1) := by decide +kernel
theorem dX10_readIf_69 : decode cX10_readIf 69 = .ok (.invokevirtual 148, 3) := by decide +kernel
theorem dX10_readIf_72 : decode cX10_readIf 72 = .ok (.aload_n 0, 1) := by decide +kernel
theorem dX10_readIf_73 : decode cX10_readIf 73 = .ok (.sipush 3009, 3) := by decide +kernel
theorem dX10_readIf_76 : decode cX10_readIf 76 = .ok (.invokevirtual 159, 3) := by decide +kernel
theorem dX10_readIf_79 : decode cX10_readIf 79 = .ok (.return_, 1) := by decide +kernel
theorem dX10_readTerm_0 : decode cX10_readTerm 0 = .ok (.aload_n 0, 1) := by decide +kernel
theorem dX10_readTerm_1 : decode cX10_readTerm 1 = .ok (.iload_n 1, 1) := by decide +kernel
theorem dX10_readTerm_2 : decode cX10_readTerm 2 = .ok (.invokevirtual 180, 3) := by decide +kernel
theorem dX10_readTerm_5 : decode cX10_readTerm 5 = .ok (.aload_n 0, 1) := by decide +kernel
theorem dX10_readTerm_6 : decode cX10_readTerm 6 = .ok (.bipush 34, 2) := by decide +kernel
theorem dX10_readTerm_8 : decode cX10_readTerm 8 = .ok (.invokevirtual 171, 3) := by decide +kernel
theorem dX10_readTerm_11 : decode cX10_readTerm 11 = .ok (.ifCond .eq 18, 3) := by decide +kernel
theorem dX10_readTerm_14 : decode cX10_readTerm 14 = .ok (.aload_n 0, 1) := by decide +kernel
theorem dX10_readTerm_15 : decode cX10_readTerm 15 = .ok (.iload_n 1, 1) := by decide +kernel
theorem dX10_readTerm_16 : decode cX10_readTerm 16 = .ok (.invokevirtual 180, 3) := by decide +kernel
theorem dX10_readTerm_19 : decode cX10_readTerm 19 = .ok (.aload_n 0, 1) := by decide +kernel
theorem dX10_readTerm_20 : decode cX10_readTerm 20 = .ok (.sipush 3002, 3) := by decide +kernel
theorem dX10_readTerm_23 : decode cX10_readTerm 23 = .ok (.invokevirtual 159, 3) := by decide +kernel
theorem dX10_readTerm_26 : decode cX10_readTerm 26 = .ok (.goto (-21), 3) := by decide +kernel
theorem dX10_readTerm_29 : decode cX10_readTerm 29 = .ok (.return_, 1) := by decide +kernel
theorem dX10_readSum_0 : decode cX10_readSum 0 = .ok (.aload_n 0, 1) := by decide +kernel
theorem dX10_readSum_1 : decode cX10_readSum 1 = .ok (.iload_n 1, 1) := by decide +kernel
theorem dX10_readSum_2 : decode cX10_readSum 2 = .ok (.invokevirtual 183, 3) := by decide +kernel
theorem dX10_readSum_5 : decode cX10_readSum 5 = .ok (.aload_n 0, 1) := by decide +kernel
theorem dX10_readSum_6 : decode cX10_readSum 6 = .ok (.bipush 32, 2) := by decide +kernel
theorem dX10_readSum_8 : decode cX10_readSum 8 = .ok (.invokevirtual 142, 3) := by decide +kernel
theorem dX10_readSum_11 : decode cX10_readSum 11 = .ok (.ifCond .ne 12, 3) := by decide +kernel
theorem dX10_readSum_14 : decode cX10_readSum 14 = .ok (.aload_n 0, 1) := by decide +kernel
theorem dX10_readSum_15 : decode cX10_readSum 15 = .ok (.bipush 33, 2) := by decide +kernel
theorem dX10_readSum_17 : decode cX10_readSum 17 = .ok (.invokevirtual 142, 3) := by decide +kernel
theorem dX10_readSum_20 : decode cX10_readSum 20 = .ok (.ifCond .eq 39, 3) := by decide +kernel
theorem dX10_readSum_23 : decode cX10_readSum 23 = .ok (.aload_n 0, 1) := by decide +kernel
theorem dX10_readSum_24 : decode cX10_readSum 24 = .ok (.getfield 118, 3) := by decide +kernel
theorem dX10_readSum_27 : decode cX10_readSum 27 = .ok (.bipush 32, 2) := by decide +kernel
theorem dX10_readSum_29 : decode cX10_readSum 29 = .ok (.if_icmp .ne 9, 3) := by decide +kernel
theorem dX10_readSum_32 : decode cX10_readSum 32 = .ok (.sipush 3000, 3) := by decide +kernel
theorem dX10_readSum_35 : decode cX10_readSum 35 = .ok (.goto 6, 3) := by decide +kernel
theorem dX10_readSum_38 : decode cX10_readSum 38 = .ok (.sipush 3001, 3) := by decide +kernel
theorem dX10_readSum_41 : decode cX10_readSum 41 = .ok (.istore_n 2, 1) := by decide +kernel
theorem dX10_readSum_42 : decode cX10_readSum 42 = .ok (.aload_n 0, 1) := by decide +kernel
theorem dX10_readSum_43 : decode cX10_readSum 43 = .ok (.invokevirtual 145, 3) := by decide +kernel
theorem dX10_readSum_46 : decode cX10_readSum 46 = .ok (.aload_n 0, 1) := by decide +kernel
theorem dX10_readSum_47 : decode cX10_readSum 47 = .ok (.iload_n 1, 1) := by decide +kernel
theorem dX10_readSum_48 : decode cX10_readSum 48 = .ok (.invokevirtual 183, 3) := by decide +kernel
theorem dX10_readSum_51 : decode cX10_readSum 51 = .ok (.aload_n 0, 1) := by decide +kernel
theorem dX10_readSum_52 : decode cX10_readSum 52 = .ok (.iload_n 2, 1) := by decide +kernel
theorem dX10_readSum_53 : decode cX10_readSum 53 = .ok (.invokevirtual 159, 3) := by decide +kernel
theorem dX10_readSum_56 : decode cX10_readSum 56 = .ok (.goto (-51), 3) := by decide +kernel
theorem dX10_readSum_59 : decode cX10_readSum 59 = .ok (.return_, 1) := by decide +kernel
theorem dX10_readUnit_0 : decode cX10_readUnit 0 = .ok (.aload_n 0, 1) := by decide +kernel
theorem dX10_readUnit_1 : decode cX10_readUnit 1 = .ok (.bipush 22, 2) := by decide +kernel
theorem dX10_readUnit_3 : decode cX10_readUnit 3 = .ok (.invokevirtual 142, 3) := by decide +kernel
theorem dX10_readUnit_6 : decode cX10_readUnit 6 = .ok (.ifCond .eq 27, 3) := by decide +kernel
theorem dX10_readUnit_9 : decode cX10_readUnit 9 = .ok (.aload_n 0, 1) := by decide +kernel
theorem dX10_readUnit_10 : decode cX10_readUnit 10 = .ok (.iload_n 1, 1) := by decide +kernel
theorem dX10_readUnit_11 : decode cX10_readUnit 11 = .ok (.invokevirtual 165, 3) := by decide +kernel
theorem dX10_readUnit_14 : decode cX10_readUnit 14 = .ok (.ifCond .ne 4, 3) := by decide +kernel
theorem dX10_readUnit_17 : decode cX10_readUnit 17 = .ok (.return_, 1) := by decide +kernel
theorem dX10_readUnit_18 : decode cX10_readUnit 18 = .ok (.aload_n 0, 1) := by decide +kernel
theorem dX10_readUnit_19 : decode cX10_readUnit 19 = .ok (.iload_n 1, 1) := by decide +kernel
theorem dX10_readUnit_20 : decode cX10_readUnit 20 = .ok (.iconst 1, 1) := by decide +kernel
theorem dX10_readUnit_21 : decode cX10_readUnit 21 = .ok (.iadd, 1) := by decide +kernel
theorem dX10_readUnit_22 : decode cX10_readUnit 22 = .ok (.invokevirtual 186, 3) := by decide +kernel
theorem dX10_readUnit_25 : decode cX10_readUnit 25 = .ok (.aload_n 0, 1) := by decide +kernel
theorem dX10_readUnit_26 : decode cX10_readUnit 26 = .ok (.sipush 3006, 3) := by decide +kernel
theorem dX10_readUnit_29 : decode cX10_readUnit 29 = .ok (.invokevirtual 159, 3) := by decide +kernel
theorem dX10_readUnit_32 : decode cX10_readUnit 32 = .ok (.return_, 1) := by decide +kernel
theorem dX10_readUnit_33 : decode cX10_readUnit 33 = .ok (.aload_n 0, 1) := by decide +kernel
theorem dX10_readUnit_34 : decode cX10_readUnit 34 = .ok (.bipush 37, 2) := by decide +kernel
theorem dX10_readUnit_36 : decode cX10_readUnit 36 = .ok (.invokevirtual 142, 3) := by decide +kernel
theorem dX10_readUnit_39 : decode cX10_readUnit 39 = .ok (.ifCond .eq 34, 3) := by decide +kernel
theorem dX10_readUnit_42 : decode cX10_readUnit 42 = .ok (.aload_n 0, 1) := by decide +kernel
theorem dX10_readUnit_43 : decode cX10_readUnit 43 = .ok (.iload_n 1, 1) := by decide +kernel
theorem dX10_readUnit_44 : decode cX10_readUnit 44 = .ok (.invokevirtual 165, 3) := by decide +kernel
theorem dX10_readUnit_47 : decode cX10_readUnit 47 = .ok (.ifCond .ne 4, 3) := by decide +kernel
theorem dX10_readUnit_50 : decode cX10_readUnit 50 = .ok (.return_, 1) := by decide +kernel
theorem dX10_readUnit_51 : decode cX10_readUnit 51 = .ok (.aload_n 0, 1) := by decide +kernel
theorem dX10_readUnit_52 : decode cX10_readUnit 52 = .ok (.iload_n 1, 1) := by decide +kernel
theorem dX10_readUnit_53 : decode cX10_readUnit 53 = .ok (.iconst 1, 1) := by decide +kernel
theorem dX10_readUnit_54 : decode cX10_readUnit 54 = .ok (.iadd, 1) := by decide +kernel
theorem dX10_readUnit_55 : decode cX10_readUnit 55 = .ok (.invokevirtual 177, 3) := by decide +kernel
theorem dX10_readUnit_58 : decode cX10_readUnit 58 = .ok (.aload_n 0, 1) := by decide +kernel
theorem dX10_readUnit_59 : decode cX10_readUnit 59 = .ok (.bipush 38, 2) := by decide +kernel
theorem dX10_readUnit_61 : decode cX10_readUnit 61 = .ok (.invokevirtual 171, 3) := by decide +kernel
theorem dX10_readUnit_64 : decode cX10_readUnit 64 = .ok (.ifCond .ne 8, 3) := by decide +kernel
theorem dX10_readUnit_67 : decode cX10_readUnit 67 = .ok (.aload_n 0, 1) := by decide +kernel
theorem dX10_readUnit_68 : decode cX10_readUnit 68 = .ok (.iconst 2, 1) := by decide +kernel
theorem dX10_readUnit_69 : decode cX10_readUnit 69 = .ok (.invokevirtual 148, 3) := by decide +kernel
theorem dX10_readUnit_72 : decode cX10_readUnit 72 = .ok (.return_, 1) := by decide +kernel
theorem dX10_readUnit_73 : decode cX10_readUnit 73 = .ok (.aload_n 0, 1) := by decide +kernel
theorem dX10_readUnit_74 : decode cX10_readUnit 74 = .ok (.iload_n 1, 1) := by decide +kernel
theorem dX10_readUnit_75 : decode cX10_readUnit 75 = .ok (.invokevirtual 168, 3) := by decide +kernel
theorem dX10_readUnit_78 : decode cX10_readUnit 78 = .ok (.aload_n 0, 1) := by decide +kernel
theorem dX10_readUnit_79 : decode cX10_readUnit 79 = .ok (.bipush 39, 2) := by decide +kernel
theorem dX10_readUnit_81 : decode cX10_readUnit 81 = .ok (.invokevirtual 142, 3) := by decide +kernel
theorem dX10_readUnit_84 : decode cX10_readUnit 84 = .ok (.ifCond .eq 9, 3) := by decide +kernel
theorem dX10_readUnit_87 : decode cX10_readUnit 87 = .ok (.sipush 3003, 3) := by decide +kernel
theorem dX10_readUnit_90 : decode cX10_readUnit 90 = .ok (.goto 21, 3) := by decide +kernel
theorem dX10_readUnit_93 : decode cX10_readUnit 93 = .ok (.aload_n 0, 1) := by decide +kernel
theorem dX10_readUnit_94 : decode cX10_readUnit 94 = .ok (.bipush 40, 2) := by decide +kernel
theorem dX10_readUnit_96 : decode cX10_readUnit 96 = .ok (.invokevirtual 142, 3) := by decide +kernel
theorem dX10_readUnit_99 : decode cX10_readUnit 99 = .ok (.ifCond .eq 9, 3) := by decide +kernel
theorem dX10_readUnit_102 : decode cX10_readUnit 102 = .ok (.sipush 3004, 3) := by decide +kernel
theorem dX10_readUnit_105 : decode cX10_readUnit 105 = .ok (.goto 6, 3) := by decide +kernel
theorem dX10_readUnit_108 : decode cX10_readUnit 108 = .ok (.sipush 3005, 3) := by decide +kernel
theorem dX10_readUnit_111 : decode cX10_readUnit 111 = .ok (.istore_n 2, 1) := by decide +kernel
theorem dX10_readUnit_112 : decode cX10_readUnit 112 = .ok (.aload_n 0, 1) := by decide +kernel
theorem dX10_readUnit_113 : decode cX10_readUnit 113 = .ok (.bipush 39, 2) := by decide +kernel
theorem dX10_readUnit_115 : decode cX10_readUnit 115 = .ok (.invokevirtual 142, 3) := by decide +kernel
theorem dX10_readUnit_118 : decode cX10_readUnit 118 = .ok (.ifCond .ne 21, 3) := by decide +kernel
theorem dX10_readUnit_121 : decode cX10_readUnit 121 = .ok (.aload_n 0, 1) := by decide +kernel
theorem dX10_readUnit_122 : decode cX10_readUnit 122 = .ok (.bipush 40, 2) := by decide +kernel
theorem dX10_readUnit_124 : decode cX10_readUnit 124 = .ok (.invokevirtual 142, 3) := by decide +kernel
theorem dX10_readUnit_127 : decode cX10_readUnit 127 = .ok (.ifCond .ne 12, 3) := by decide +kernel
theorem dX10_readUnit_130 : decode cX10_readUnit 130 = .ok (.aload_n 0, 1) := by decide +kernel
theorem dX10_readUnit_131 : decode cX10_readUnit 131 = .ok (.bipush 41, 2) := by decide +kernel
theorem dX10_readUnit_133 : decode cX10_readUnit 133 = .ok (.invokevirtual 142, 3) := by decide +kernel
theorem dX10_readUnit_136 : decode cX10_readUnit 136 = .ok (.ifCond .eq 10, 3) := by decide +kernel
theorem dX10_readUnit_139 : decode cX10_readUnit 139 = .ok (.aload_n 0, 1) := by decide +kernel
theorem dX10_readUnit_140 : decode cX10_readUnit 140 = .ok (.invokevirtual 145, 3) := by decide +kernel
theorem dX10_readUnit_143 : decode cX10_readUnit 143 = .ok (.goto 8, 3) := by decide +kernel
theorem dX10_readUnit_146 : decode cX10_readUnit 146 = .ok (.aload_n 0, 1) := by decide +kernel
theorem dX10_readUnit_147 : decode cX10_readUnit 147 = .ok (.iconst 2, 1) := by decide +kernel
theorem dX10_readUnit_148 : decode cX10_readUnit 148 = .ok (.invokevirtual 148, 3) := by decide +kernel
theorem dX10_readUnit_151 : decode cX10_readUnit 151 = .ok (.aload_n 0, 1) := by decide +kernel

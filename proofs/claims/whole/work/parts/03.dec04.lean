theorem dX8_lookOn_14 : decode cX8_lookOn 14 = .ok (.getfield 19, 3) := by decide +kernel
theorem dX8_lookOn_17 : decode cX8_lookOn 17 = .ok (.aload_n 0, 1) := by decide +kernel
theorem dX8_lookOn_18 : decode cX8_lookOn 18 = .ok (.getfield 59, 3) := by decide +kernel
theorem dX8_lookOn_21 : decode cX8_lookOn 21 = .ok (.iaload, 1) := by decide +kernel
theorem dX8_lookOn_22 : decode cX8_lookOn 22 = .ok (.istore_n 1, 1) := by decide +kernel
theorem dX8_lookOn_23 : decode cX8_lookOn 23 = .ok (.aload_n 0, 1) := by decide +kernel
theorem dX8_lookOn_24 : decode cX8_lookOn 24 = .ok (.dup, 1) := by decide +kernel
theorem dX8_lookOn_25 : decode cX8_lookOn 25 = .ok (.getfield 59, 3) := by decide +kernel
theorem dX8_lookOn_28 : decode cX8_lookOn 28 = .ok (.iconst 1, 1) := by decide +kernel
theorem dX8_lookOn_29 : decode cX8_lookOn 29 = .ok (.iadd, 1) := by decide +kernel
theorem dX8_lookOn_30 : decode cX8_lookOn 30 = .ok (.putfield 59, 3) := by decide +kernel
theorem dX8_lookOn_33 : decode cX8_lookOn 33 = .ok (.iload_n 1, 1) := by decide +kernel
theorem dX8_lookOn_34 : decode cX8_lookOn 34 = .ok (.bipush 10, 2) := by decide +kernel
theorem dX8_lookOn_36 : decode cX8_lookOn 36 = .ok (.idiv, 1) := by decide +kernel
theorem dX8_lookOn_37 : decode cX8_lookOn 37 = .ok (.istore_n 2, 1) := by decide +kernel
theorem dX8_lookOn_38 : decode cX8_lookOn 38 = .ok (.iload_n 1, 1) := by decide +kernel
theorem dX8_lookOn_39 : decode cX8_lookOn 39 = .ok (.bipush 10, 2) := by decide +kernel
theorem dX8_lookOn_41 : decode cX8_lookOn 41 = .ok (.irem, 1) := by decide +kernel
theorem dX8_lookOn_42 : decode cX8_lookOn 42 = .ok (.istore_n 3, 1) := by decide +kernel
theorem dX8_lookOn_43 : decode cX8_lookOn 43 = .ok (.iload_n 3, 1) := by decide +kernel
theorem dX8_lookOn_44 : decode cX8_lookOn 44 = .ok (.ifCond .ne 5, 3) := by decide +kernel
theorem dX8_lookOn_47 : decode cX8_lookOn 47 = .ok (.iconst 1, 1) := by decide +kernel
theorem dX8_lookOn_48 : decode cX8_lookOn 48 = .ok (.ireturn, 1) := by decide +kernel
theorem dX8_lookOn_49 : decode cX8_lookOn 49 = .ok (.aload_n 0, 1) := by decide +kernel
theorem dX8_lookOn_50 : decode cX8_lookOn 50 = .ok (.iload_n 2, 1) := by decide +kernel
theorem dX8_lookOn_51 : decode cX8_lookOn 51 = .ok (.iload_n 3, 1) := by decide +kernel
theorem dX8_lookOn_52 : decode cX8_lookOn 52 = .ok (.invokevirtual 97, 3) := by decide +kernel
theorem dX8_lookOn_55 : decode cX8_lookOn 55 = .ok (.iconst 0, 1) := by decide +kernel
theorem dX8_lookOn_56 : decode cX8_lookOn 56 = .ok (.istore 4, 2) := by decide +kernel
theorem dX8_lookOn_58 : decode cX8_lookOn 58 = .ok (.iload 4, 2) := by decide +kernel
theorem dX8_lookOn_60 : decode cX8_lookOn 60 = .ok (.aload_n 0, 1) := by decide +kernel
theorem dX8_lookOn_61 : decode cX8_lookOn 61 = .ok (.getfield 66, 3) := by decide +kernel
theorem dX8_lookOn_64 : decode cX8_lookOn 64 = .ok (.if_icmp .gt 58, 3) := by decide +kernel
theorem dX8_lookOn_67 : decode cX8_lookOn 67 = .ok (.iload 4, 2) := by decide +kernel
theorem dX8_lookOn_69 : decode cX8_lookOn 69 = .ok (.aload_n 0, 1) := by decide +kernel
theorem dX8_lookOn_70 : decode cX8_lookOn 70 = .ok (.getfield 66, 3) := by decide +kernel
theorem dX8_lookOn_73 : decode cX8_lookOn 73 = .ok (.iconst (-1), 1) := by decide +kernel
theorem dX8_lookOn_74 : decode cX8_lookOn 74 = .ok (.ixor, 1) := by decide +kernel
theorem dX8_lookOn_75 : decode cX8_lookOn 75 = .ok (.iand, 1) := by decide +kernel
theorem dX8_lookOn_76 : decode cX8_lookOn 76 = .ok (.ifCond .ne 40, 3) := by decide +kernel
theorem dX8_lookOn_79 : decode cX8_lookOn 79 = .ok (.iload_n 2, 1) := by decide +kernel
theorem dX8_lookOn_80 : decode cX8_lookOn 80 = .ok (.aload_n 0, 1) := by decide +kernel
theorem dX8_lookOn_81 : decode cX8_lookOn 81 = .ok (.getfield 32, 3) := by decide +kernel
theorem dX8_lookOn_84 : decode cX8_lookOn 84 = .ok (.iload 4, 2) := by decide +kernel
theorem dX8_lookOn_86 : decode cX8_lookOn 86 = .ok (.iaload, 1) := by decide +kernel
theorem dX8_lookOn_87 : decode cX8_lookOn 87 = .ok (.iadd, 1) := by decide +kernel
theorem dX8_lookOn_88 : decode cX8_lookOn 88 = .ok (.bipush 10, 2) := by decide +kernel
theorem dX8_lookOn_90 : decode cX8_lookOn 90 = .ok (.imul, 1) := by decide +kernel
theorem dX8_lookOn_91 : decode cX8_lookOn 91 = .ok (.aload_n 0, 1) := by decide +kernel
theorem dX8_lookOn_92 : decode cX8_lookOn 92 = .ok (.iload_n 3, 1) := by decide +kernel
theorem dX8_lookOn_93 : decode cX8_lookOn 93 = .ok (.iload 4, 2) := by decide +kernel
theorem dX8_lookOn_95 : decode cX8_lookOn 95 = .ok (.invokevirtual 100, 3) := by decide +kernel
theorem dX8_lookOn_98 : decode cX8_lookOn 98 = .ok (.iadd, 1) := by decide +kernel
theorem dX8_lookOn_99 : decode cX8_lookOn 99 = .ok (.istore 5, 2) := by decide +kernel
theorem dX8_lookOn_101 : decode cX8_lookOn 101 = .ok (.aload_n 0, 1) := by decide +kernel
theorem dX8_lookOn_102 : decode cX8_lookOn 102 = .ok (.iload 5, 2) := by decide +kernel
theorem dX8_lookOn_104 : decode cX8_lookOn 104 = .ok (.bipush 16, 2) := by decide +kernel
theorem dX8_lookOn_106 : decode cX8_lookOn 106 = .ok (.iload_n 1, 1) := by decide +kernel
theorem dX8_lookOn_107 : decode cX8_lookOn 107 = .ok (.imul, 1) := by decide +kernel
theorem dX8_lookOn_108 : decode cX8_lookOn 108 = .ok (.iload 4, 2) := by decide +kernel
theorem dX8_lookOn_110 : decode cX8_lookOn 110 = .ok (.iadd, 1) := by decide +kernel
theorem dX8_lookOn_111 : decode cX8_lookOn 111 = .ok (.iconst 1, 1) := by decide +kernel
theorem dX8_lookOn_112 : decode cX8_lookOn 112 = .ok (.iadd, 1) := by decide +kernel
theorem dX8_lookOn_113 : decode cX8_lookOn 113 = .ok (.invokevirtual 62, 3) := by decide +kernel
theorem dX8_lookOn_116 : decode cX8_lookOn 116 = .ok (.iinc 4 1, 3) := by decide +kernel
theorem dX8_lookOn_119 : decode cX8_lookOn 119 = .ok (.goto (-61), 3) := by decide +kernel
theorem dX8_lookOn_122 : decode cX8_lookOn 122 = .ok (.iconst 1, 1) := by decide +kernel
theorem dX8_lookOn_123 : decode cX8_lookOn 123 = .ok (.ireturn, 1) := by decide +kernel
theorem dX8_lookAtAll_0 : decode cX8_lookAtAll 0 = .ok (.iconst 0, 1) := by decide +kernel
theorem dX8_lookAtAll_1 : decode cX8_lookAtAll 1 = .ok (.istore_n 1, 1) := by decide +kernel
theorem dX8_lookAtAll_2 : decode cX8_lookAtAll 2 = .ok (.iload_n 1, 1) := by decide +kernel
theorem dX8_lookAtAll_3 : decode cX8_lookAtAll 3 = .ok (.sipush 24010, 3) := by decide +kernel
theorem dX8_lookAtAll_6 : decode cX8_lookAtAll 6 = .ok (.if_icmp .ge 25, 3) := by decide +kernel
theorem dX8_lookAtAll_9 : decode cX8_lookAtAll 9 = .ok (.aload_n 0, 1) := by decide +kernel
theorem dX8_lookAtAll_10 : decode cX8_lookAtAll 10 = .ok (.getfield 59, 3) := by decide +kernel
theorem dX8_lookAtAll_13 : decode cX8_lookAtAll 13 = .ok (.aload_n 0, 1) := by decide +kernel
theorem dX8_lookAtAll_14 : decode cX8_lookAtAll 14 = .ok (.getfield 56, 3) := by decide +kernel
theorem dX8_lookAtAll_17 : decode cX8_lookAtAll 17 = .ok (.if_icmp .ge 14, 3) := by decide +kernel
theorem dX8_lookAtAll_20 : decode cX8_lookAtAll 20 = .ok (.aload_n 0, 1) := by decide +kernel
theorem dX8_lookAtAll_21 : decode cX8_lookAtAll 21 = .ok (.invokevirtual 103, 3) := by decide +kernel
theorem dX8_lookAtAll_24 : decode cX8_lookAtAll 24 = .ok (.pop, 1) := by decide +kernel
theorem dX8_lookAtAll_25 : decode cX8_lookAtAll 25 = .ok (.iinc 1 1, 3) := by decide +kernel
theorem dX8_lookAtAll_28 : decode cX8_lookAtAll 28 = .ok (.goto (-26), 3) := by decide +kernel
theorem dX8_lookAtAll_31 : decode cX8_lookAtAll 31 = .ok (.return_, 1) := by decide +kernel
theorem dX8_hoursTo_0 : decode cX8_hoursTo 0 = .ok (.iconst 0, 1) := by decide +kernel
theorem dX8_hoursTo_1 : decode cX8_hoursTo 1 = .ok (.istore_n 2, 1) := by decide +kernel
theorem dX8_hoursTo_2 : decode cX8_hoursTo 2 = .ok (.iconst 0, 1) := by decide +kernel
theorem dX8_hoursTo_3 : decode cX8_hoursTo 3 = .ok (.istore_n 3, 1) := by decide +kernel
theorem dX8_hoursTo_4 : decode cX8_hoursTo 4 = .ok (.iload_n 3, 1) := by decide +kernel
theorem dX8_hoursTo_5 : decode cX8_hoursTo 5 = .ok (.ldc 107, 2) := by decide +kernel
theorem dX8_hoursTo_7 : decode cX8_hoursTo 7 = .ok (.if_icmp .ge 73, 3) := by decide +kernel
theorem dX8_hoursTo_10 : decode cX8_hoursTo 10 = .ok (.iload_n 2, 1) := by decide +kernel
theorem dX8_hoursTo_11 : decode cX8_hoursTo 11 = .ok (.aload_n 0, 1) := by decide +kernel
theorem dX8_hoursTo_12 : decode cX8_hoursTo 12 = .ok (.getfield 56, 3) := by decide +kernel
theorem dX8_hoursTo_15 : decode cX8_hoursTo 15 = .ok (.if_icmp .ge 50, 3) := by decide +kernel
theorem dX8_hoursTo_18 : decode cX8_hoursTo 18 = .ok (.aload_n 0, 1) := by decide +kernel
theorem dX8_hoursTo_19 : decode cX8_hoursTo 19 = .ok (.aload_n 0, 1) := by decide +kernel
theorem dX8_hoursTo_20 : decode cX8_hoursTo 20 = .ok (.getfield 19, 3) := by decide +kernel
theorem dX8_hoursTo_23 : decode cX8_hoursTo 23 = .ok (.iload_n 2, 1) := by decide +kernel
theorem dX8_hoursTo_24 : decode cX8_hoursTo 24 = .ok (.iaload, 1) := by decide +kernel
theorem dX8_hoursTo_25 : decode cX8_hoursTo 25 = .ok (.iload_n 1, 1) := by decide +kernel
theorem dX8_hoursTo_26 : decode cX8_hoursTo 26 = .ok (.invokevirtual 108, 3) := by decide +kernel
theorem dX8_hoursTo_29 : decode cX8_hoursTo 29 = .ok (.ifCond .eq 30, 3) := by decide +kernel
theorem dX8_hoursTo_32 : decode cX8_hoursTo 32 = .ok (.aload_n 0, 1) := by decide +kernel
theorem dX8_hoursTo_33 : decode cX8_hoursTo 33 = .ok (.aload_n 0, 1) := by decide +kernel
theorem dX8_hoursTo_34 : decode cX8_hoursTo 34 = .ok (.getfield 19, 3) := by decide +kernel
theorem dX8_hoursTo_37 : decode cX8_hoursTo 37 = .ok (.iload_n 2, 1) := by decide +kernel
theorem dX8_hoursTo_38 : decode cX8_hoursTo 38 = .ok (.iaload, 1) := by decide +kernel
theorem dX8_hoursTo_39 : decode cX8_hoursTo 39 = .ok (.putfield 112, 3) := by decide +kernel
theorem dX8_hoursTo_42 : decode cX8_hoursTo 42 = .ok (.aload_n 0, 1) := by decide +kernel
theorem dX8_hoursTo_43 : decode cX8_hoursTo 43 = .ok (.aload_n 0, 1) := by decide +kernel
theorem dX8_hoursTo_44 : decode cX8_hoursTo 44 = .ok (.aload_n 0, 1) := by decide +kernel
theorem dX8_hoursTo_45 : decode cX8_hoursTo 45 = .ok (.getfield 112, 3) := by decide +kernel
theorem dX8_hoursTo_48 : decode cX8_hoursTo 48 = .ok (.invokevirtual 115, 3) := by decide +kernel
theorem dX8_hoursTo_51 : decode cX8_hoursTo 51 = .ok (.putfield 118, 3) := by decide +kernel
theorem dX8_hoursTo_54 : decode cX8_hoursTo 54 = .ok (.aload_n 0, 1) := by decide +kernel
theorem dX8_hoursTo_55 : decode cX8_hoursTo 55 = .ok (.getfield 118, 3) := by decide +kernel
theorem dX8_hoursTo_58 : decode cX8_hoursTo 58 = .ok (.ireturn, 1) := by decide +kernel
theorem dX8_hoursTo_59 : decode cX8_hoursTo 59 = .ok (.iinc 2 1, 3) := by decide +kernel
theorem dX8_hoursTo_62 : decode cX8_hoursTo 62 = .ok (.goto 12, 3) := by decide +kernel
theorem dX8_hoursTo_65 : decode cX8_hoursTo 65 = .ok (.aload_n 0, 1) := by decide +kernel
theorem dX8_hoursTo_66 : decode cX8_hoursTo 66 = .ok (.invokevirtual 103, 3) := by decide +kernel
theorem dX8_hoursTo_69 : decode cX8_hoursTo 69 = .ok (.ifCond .ne 5, 3) := by decide +kernel
theorem dX8_hoursTo_72 : decode cX8_hoursTo 72 = .ok (.iconst (-1), 1) := by decide +kernel
theorem dX8_hoursTo_73 : decode cX8_hoursTo 73 = .ok (.ireturn, 1) := by decide +kernel
theorem dX8_hoursTo_74 : decode cX8_hoursTo 74 = .ok (.iinc 3 1, 3) := by decide +kernel
theorem dX8_hoursTo_77 : decode cX8_hoursTo 77 = .ok (.goto (-73), 3) := by decide +kernel
theorem dX8_hoursTo_80 : decode cX8_hoursTo 80 = .ok (.iconst (-1), 1) := by decide +kernel
theorem dX8_hoursTo_81 : decode cX8_hoursTo 81 = .ok (.ireturn, 1) := by decide +kernel
theorem dX8_isReached_0 : decode cX8_isReached 0 = .ok (.iload_n 1, 1) := by decide +kernel
theorem dX8_isReached_1 : decode cX8_isReached 1 = .ok (.bipush 10, 2) := by decide +kernel
theorem dX8_isReached_3 : decode cX8_isReached 3 = .ok (.irem, 1) := by decide +kernel
theorem dX8_isReached_4 : decode cX8_isReached 4 = .ok (.ifCond .le 25, 3) := by decide +kernel
theorem dX8_isReached_7 : decode cX8_isReached 7 = .ok (.iload_n 2, 1) := by decide +kernel
theorem dX8_isReached_8 : decode cX8_isReached 8 = .ok (.aload_n 0, 1) := by decide +kernel
theorem dX8_isReached_9 : decode cX8_isReached 9 = .ok (.getfield 48, 3) := by decide +kernel
theorem dX8_isReached_12 : decode cX8_isReached 12 = .ok (.iload_n 1, 1) := by decide +kernel
theorem dX8_isReached_13 : decode cX8_isReached 13 = .ok (.bipush 10, 2) := by decide +kernel
theorem dX8_isReached_15 : decode cX8_isReached 15 = .ok (.idiv, 1) := by decide +kernel
theorem dX8_isReached_16 : decode cX8_isReached 16 = .ok (.invokevirtual 121, 3) := by decide +kernel
theorem dX8_isReached_19 : decode cX8_isReached 19 = .ok (.iconst (-1), 1) := by decide +kernel
theorem dX8_isReached_20 : decode cX8_isReached 20 = .ok (.ixor, 1) := by decide +kernel
theorem dX8_isReached_21 : decode cX8_isReached 21 = .ok (.iand, 1) := by decide +kernel
theorem dX8_isReached_22 : decode cX8_isReached 22 = .ok (.ifCond .ne 7, 3) := by decide +kernel
theorem dX8_isReached_25 : decode cX8_isReached 25 = .ok (.iconst 1, 1) := by decide +kernel
theorem dX8_isReached_26 : decode cX8_isReached 26 = .ok (.goto 4, 3) := by decide +kernel
theorem dX8_isReached_29 : decode cX8_isReached 29 = .ok (.iconst 0, 1) := by decide +kernel
theorem dX8_isReached_30 : decode cX8_isReached 30 = .ok (.ireturn, 1) := by decide +kernel
theorem dX8_hoursOf_0 : decode cX8_hoursOf 0 = .ok (.iconst 0, 1) := by decide +kernel
theorem dX8_hoursOf_1 : decode cX8_hoursOf 1 = .ok (.istore_n 2, 1) := by decide +kernel
theorem dX8_hoursOf_2 : decode cX8_hoursOf 2 = .ok (.aload_n 0, 1) := by decide +kernel
theorem dX8_hoursOf_3 : decode cX8_hoursOf 3 = .ok (.getfield 15, 3) := by decide +kernel
theorem dX8_hoursOf_6 : decode cX8_hoursOf 6 = .ok (.iload_n 1, 1) := by decide +kernel
theorem dX8_hoursOf_7 : decode cX8_hoursOf 7 = .ok (.iaload, 1) := by decide +kernel
theorem dX8_hoursOf_8 : decode cX8_hoursOf 8 = .ok (.istore_n 3, 1) := by decide +kernel
theorem dX8_hoursOf_9 : decode cX8_hoursOf 9 = .ok (.iload_n 3, 1) := by decide +kernel
theorem dX8_hoursOf_10 : decode cX8_hoursOf 10 = .ok (.ifCond .le 28, 3) := by decide +kernel
theorem dX8_hoursOf_13 : decode cX8_hoursOf 13 = .ok (.iload_n 2, 1) := by decide +kernel
theorem dX8_hoursOf_14 : decode cX8_hoursOf 14 = .ok (.sipush 24010, 3) := by decide +kernel
theorem dX8_hoursOf_17 : decode cX8_hoursOf 17 = .ok (.if_icmp .ge 21, 3) := by decide +kernel
theorem dX8_hoursOf_20 : decode cX8_hoursOf 20 = .ok (.aload_n 0, 1) := by decide +kernel
theorem dX8_hoursOf_21 : decode cX8_hoursOf 21 = .ok (.getfield 15, 3) := by decide +kernel
theorem dX8_hoursOf_24 : decode cX8_hoursOf 24 = .ok (.iload_n 3, 1) := by decide +kernel
theorem dX8_hoursOf_25 : decode cX8_hoursOf 25 = .ok (.iconst 1, 1) := by decide +kernel
theorem dX8_hoursOf_26 : decode cX8_hoursOf 26 = .ok (.isub, 1) := by decide +kernel
theorem dX8_hoursOf_27 : decode cX8_hoursOf 27 = .ok (.bipush 16, 2) := by decide +kernel
theorem dX8_hoursOf_29 : decode cX8_hoursOf 29 = .ok (.idiv, 1) := by decide +kernel
theorem dX8_hoursOf_30 : decode cX8_hoursOf 30 = .ok (.iaload, 1) := by decide +kernel
theorem dX8_hoursOf_31 : decode cX8_hoursOf 31 = .ok (.istore_n 3, 1) := by decide +kernel
theorem dX8_hoursOf_32 : decode cX8_hoursOf 32 = .ok (.iinc 2 1, 3) := by decide +kernel
theorem dX8_hoursOf_35 : decode cX8_hoursOf 35 = .ok (.goto (-26), 3) := by decide +kernel
theorem dX8_hoursOf_38 : decode cX8_hoursOf 38 = .ok (.iload_n 2, 1) := by decide +kernel
theorem dX8_hoursOf_39 : decode cX8_hoursOf 39 = .ok (.ireturn, 1) := by decide +kernel
theorem dX8_stepsAt_0 : decode cX8_stepsAt 0 = .ok (.aload_n 0, 1) := by decide +kernel
theorem dX8_stepsAt_1 : decode cX8_stepsAt 1 = .ok (.getfield 15, 3) := by decide +kernel
theorem dX8_stepsAt_4 : decode cX8_stepsAt 4 = .ok (.aload_n 0, 1) := by decide +kernel
theorem dX8_stepsAt_5 : decode cX8_stepsAt 5 = .ok (.getfield 112, 3) := by decide +kernel
theorem dX8_stepsAt_8 : decode cX8_stepsAt 8 = .ok (.iaload, 1) := by decide +kernel
theorem dX8_stepsAt_9 : decode cX8_stepsAt 9 = .ok (.istore_n 2, 1) := by decide +kernel
theorem dX8_stepsAt_10 : decode cX8_stepsAt 10 = .ok (.aload_n 0, 1) := by decide +kernel
theorem dX8_stepsAt_11 : decode cX8_stepsAt 11 = .ok (.getfield 118, 3) := by decide +kernel
theorem dX8_stepsAt_14 : decode cX8_stepsAt 14 = .ok (.iconst 1, 1) := by decide +kernel
theorem dX8_stepsAt_15 : decode cX8_stepsAt 15 = .ok (.isub, 1) := by decide +kernel
theorem dX8_stepsAt_16 : decode cX8_stepsAt 16 = .ok (.istore_n 3, 1) := by decide +kernel
theorem dX8_stepsAt_17 : decode cX8_stepsAt 17 = .ok (.iload_n 3, 1) := by decide +kernel
theorem dX8_stepsAt_18 : decode cX8_stepsAt 18 = .ok (.iload_n 1, 1) := by decide +kernel
theorem dX8_stepsAt_19 : decode cX8_stepsAt 19 = .ok (.if_icmp .le 25, 3) := by decide +kernel
theorem dX8_stepsAt_22 : decode cX8_stepsAt 22 = .ok (.iload_n 2, 1) := by decide +kernel
theorem dX8_stepsAt_23 : decode cX8_stepsAt 23 = .ok (.ifCond .le 21, 3) := by decide +kernel
theorem dX8_stepsAt_26 : decode cX8_stepsAt 26 = .ok (.aload_n 0, 1) := by decide +kernel
theorem dX8_stepsAt_27 : decode cX8_stepsAt 27 = .ok (.getfield 15, 3) := by decide +kernel
theorem dX8_stepsAt_30 : decode cX8_stepsAt 30 = .ok (.iload_n 2, 1) := by decide +kernel
theorem dX8_stepsAt_31 : decode cX8_stepsAt 31 = .ok (.iconst 1, 1) := by decide +kernel
theorem dX8_stepsAt_32 : decode cX8_stepsAt 32 = .ok (.isub, 1) := by decide +kernel
theorem dX8_stepsAt_33 : decode cX8_stepsAt 33 = .ok (.bipush 16, 2) := by decide +kernel
theorem dX8_stepsAt_35 : decode cX8_stepsAt 35 = .ok (.idiv, 1) := by decide +kernel
theorem dX8_stepsAt_36 : decode cX8_stepsAt 36 = .ok (.iaload, 1) := by decide +kernel
theorem dX8_stepsAt_37 : decode cX8_stepsAt 37 = .ok (.istore_n 2, 1) := by decide +kernel
theorem dX8_stepsAt_38 : decode cX8_stepsAt 38 = .ok (.iinc 3 (-1), 3) := by decide +kernel
theorem dX8_stepsAt_41 : decode cX8_stepsAt 41 = .ok (.goto (-24), 3) := by decide +kernel
theorem dX8_stepsAt_44 : decode cX8_stepsAt 44 = .ok (.iload_n 2, 1) := by decide +kernel
theorem dX8_stepsAt_45 : decode cX8_stepsAt 45 = .ok (.ifCond .le 12, 3) := by decide +kernel
theorem dX8_stepsAt_48 : decode cX8_stepsAt 48 = .ok (.iload_n 2, 1) := by decide +kernel
theorem dX8_stepsAt_49 : decode cX8_stepsAt 49 = .ok (.iconst 1, 1) := by decide +kernel
theorem dX8_stepsAt_50 : decode cX8_stepsAt 50 = .ok (.isub, 1) := by decide +kernel
theorem dX8_stepsAt_51 : decode cX8_stepsAt 51 = .ok (.bipush 16, 2) := by decide +kernel
theorem dX8_stepsAt_53 : decode cX8_stepsAt 53 = .ok (.irem, 1) := by decide +kernel
theorem dX8_stepsAt_54 : decode cX8_stepsAt 54 = .ok (.goto 4, 3) := by decide +kernel
theorem dX8_stepsAt_57 : decode cX8_stepsAt 57 = .ok (.iconst 0, 1) := by decide +kernel
theorem dX8_stepsAt_58 : decode cX8_stepsAt 58 = .ok (.ireturn, 1) := by decide +kernel
theorem dX8_everPast_0 : decode cX8_everPast 0 = .ok (.iconst 0, 1) := by decide +kernel
theorem dX8_everPast_1 : decode cX8_everPast 1 = .ok (.istore_n 1, 1) := by decide +kernel
theorem dX8_everPast_2 : decode cX8_everPast 2 = .ok (.iconst 0, 1) := by decide +kernel
theorem dX8_everPast_3 : decode cX8_everPast 3 = .ok (.istore_n 2, 1) := by decide +kernel
theorem dX8_everPast_4 : decode cX8_everPast 4 = .ok (.iload_n 2, 1) := by decide +kernel
theorem dX8_everPast_5 : decode cX8_everPast 5 = .ok (.aload_n 0, 1) := by decide +kernel
theorem dX8_everPast_6 : decode cX8_everPast 6 = .ok (.getfield 56, 3) := by decide +kernel
theorem dX8_everPast_9 : decode cX8_everPast 9 = .ok (.if_icmp .ge 40, 3) := by decide +kernel
theorem dX8_everPast_12 : decode cX8_everPast 12 = .ok (.aload_n 0, 1) := by decide +kernel
theorem dX8_everPast_13 : decode cX8_everPast 13 = .ok (.getfield 19, 3) := by decide +kernel
theorem dX8_everPast_16 : decode cX8_everPast 16 = .ok (.iload_n 2, 1) := by decide +kernel
theorem dX8_everPast_17 : decode cX8_everPast 17 = .ok (.iaload, 1) := by decide +kernel
theorem dX8_everPast_18 : decode cX8_everPast 18 = .ok (.bipush 10, 2) := by decide +kernel
theorem dX8_everPast_20 : decode cX8_everPast 20 = .ok (.irem, 1) := by decide +kernel
theorem dX8_everPast_21 : decode cX8_everPast 21 = .ok (.ifCond .le 22, 3) := by decide +kernel
theorem dX8_everPast_24 : decode cX8_everPast 24 = .ok (.iload_n 1, 1) := by decide +kernel
theorem dX8_everPast_25 : decode cX8_everPast 25 = .ok (.aload_n 0, 1) := by decide +kernel
theorem dX8_everPast_26 : decode cX8_everPast 26 = .ok (.getfield 48, 3) := by decide +kernel
theorem dX8_everPast_29 : decode cX8_everPast 29 = .ok (.aload_n 0, 1) := by decide +kernel
theorem dX8_everPast_30 : decode cX8_everPast 30 = .ok (.getfield 19, 3) := by decide +kernel
theorem dX8_everPast_33 : decode cX8_everPast 33 = .ok (.iload_n 2, 1) := by decide +kernel
theorem dX8_everPast_34 : decode cX8_everPast 34 = .ok (.iaload, 1) := by decide +kernel
theorem dX8_everPast_35 : decode cX8_everPast 35 = .ok (.bipush 10, 2) := by decide +kernel
theorem dX8_everPast_37 : decode cX8_everPast 37 = .ok (.idiv, 1) := by decide +kernel
theorem dX8_everPast_38 : decode cX8_everPast 38 = .ok (.invokevirtual 121, 3) := by decide +kernel
theorem dX8_everPast_41 : decode cX8_everPast 41 = .ok (.ior, 1) := by decide +kernel
theorem dX8_everPast_42 : decode cX8_everPast 42 = .ok (.istore_n 1, 1) := by decide +kernel
theorem dX8_everPast_43 : decode cX8_everPast 43 = .ok (.iinc 2 1, 3) := by decide +kernel
theorem dX8_everPast_46 : decode cX8_everPast 46 = .ok (.goto (-42), 3) := by decide +kernel
theorem dX8_everPast_49 : decode cX8_everPast 49 = .ok (.iload_n 1, 1) := by decide +kernel
theorem dX8_everPast_50 : decode cX8_everPast 50 = .ok (.ireturn, 1) := by decide +kernel
theorem dX8_greatestPast_0 : decode cX8_greatestPast 0 = .ok (.iconst 0, 1) := by decide +kernel
theorem dX8_greatestPast_1 : decode cX8_greatestPast 1 = .ok (.istore_n 1, 1) := by decide +kernel
theorem dX8_greatestPast_2 : decode cX8_greatestPast 2 = .ok (.iconst 0, 1) := by decide +kernel
theorem dX8_greatestPast_3 : decode cX8_greatestPast 3 = .ok (.istore_n 2, 1) := by decide +kernel
theorem dX8_greatestPast_4 : decode cX8_greatestPast 4 = .ok (.iload_n 2, 1) := by decide +kernel
theorem dX8_greatestPast_5 : decode cX8_greatestPast 5 = .ok (.aload_n 0, 1) := by decide +kernel
theorem dX8_greatestPast_6 : decode cX8_greatestPast 6 = .ok (.getfield 56, 3) := by decide +kernel
theorem dX8_greatestPast_9 : decode cX8_greatestPast 9 = .ok (.if_icmp .ge 70, 3) := by decide +kernel
theorem dX8_greatestPast_12 : decode cX8_greatestPast 12 = .ok (.aload_n 0, 1) := by decide +kernel
theorem dX8_greatestPast_13 : decode cX8_greatestPast 13 = .ok (.getfield 19, 3) := by decide +kernel
theorem dX8_greatestPast_16 : decode cX8_greatestPast 16 = .ok (.iload_n 2, 1) := by decide +kernel
theorem dX8_greatestPast_17 : decode cX8_greatestPast 17 = .ok (.iaload, 1) := by decide +kernel
theorem dX8_greatestPast_18 : decode cX8_greatestPast 18 = .ok (.bipush 10, 2) := by decide +kernel
theorem dX8_greatestPast_20 : decode cX8_greatestPast 20 = .ok (.irem, 1) := by decide +kernel
theorem dX8_greatestPast_21 : decode cX8_greatestPast 21 = .ok (.ifCond .le 22, 3) := by decide +kernel
theorem dX8_greatestPast_24 : decode cX8_greatestPast 24 = .ok (.aload_n 0, 1) := by decide +kernel
theorem dX8_greatestPast_25 : decode cX8_greatestPast 25 = .ok (.getfield 48, 3) := by decide +kernel
theorem dX8_greatestPast_28 : decode cX8_greatestPast 28 = .ok (.aload_n 0, 1) := by decide +kernel
theorem dX8_greatestPast_29 : decode cX8_greatestPast 29 = .ok (.getfield 19, 3) := by decide +kernel
theorem dX8_greatestPast_32 : decode cX8_greatestPast 32 = .ok (.iload_n 2, 1) := by decide +kernel
theorem dX8_greatestPast_33 : decode cX8_greatestPast 33 = .ok (.iaload, 1) := by decide +kernel
theorem dX8_greatestPast_34 : decode cX8_greatestPast 34 = .ok (.bipush 10, 2) := by decide +kernel
theorem dX8_greatestPast_36 : decode cX8_greatestPast 36 = .ok (.idiv, 1) := by decide +kernel
theorem dX8_greatestPast_37 : decode cX8_greatestPast 37 = .ok (.invokevirtual 121, 3) := by decide +kernel
theorem dX8_greatestPast_40 : decode cX8_greatestPast 40 = .ok (.goto 4, 3) := by decide +kernel
theorem dX8_greatestPast_43 : decode cX8_greatestPast 43 = .ok (.iconst 0, 1) := by decide +kernel
theorem dX8_greatestPast_44 : decode cX8_greatestPast 44 = .ok (.istore_n 3, 1) := by decide +kernel
theorem dX8_greatestPast_45 : decode cX8_greatestPast 45 = .ok (.iload_n 3, 1) := by decide +kernel
theorem dX8_greatestPast_46 : decode cX8_greatestPast 46 = .ok (.invokestatic 87, 3) := by decide +kernel
theorem dX8_greatestPast_49 : decode cX8_greatestPast 49 = .ok (.iload_n 1, 1) := by decide +kernel
theorem dX8_greatestPast_50 : decode cX8_greatestPast 50 = .ok (.invokestatic 87, 3) := by decide +kernel
theorem dX8_greatestPast_53 : decode cX8_greatestPast 53 = .ok (.isub, 1) := by decide +kernel
theorem dX8_greatestPast_54 : decode cX8_greatestPast 54 = .ok (.istore 4, 2) := by decide +kernel
theorem dX8_greatestPast_56 : decode cX8_greatestPast 56 = .ok (.iload 4, 2) := by decide +kernel
theorem dX8_greatestPast_58 : decode cX8_greatestPast 58 = .ok (.ifCond .gt 13, 3) := by decide +kernel
theorem dX8_greatestPast_61 : decode cX8_greatestPast 61 = .ok (.iload 4, 2) := by decide +kernel
theorem dX8_greatestPast_63 : decode cX8_greatestPast 63 = .ok (.ifCond .ne 10, 3) := by decide +kernel
theorem dX8_greatestPast_66 : decode cX8_greatestPast 66 = .ok (.iload_n 3, 1) := by decide +kernel
theorem dX8_greatestPast_67 : decode cX8_greatestPast 67 = .ok (.iload_n 1, 1) := by decide +kernel
theorem dX8_greatestPast_68 : decode cX8_greatestPast 68 = .ok (.if_icmp .ge 5, 3) := by decide +kernel
theorem dX8_greatestPast_71 : decode cX8_greatestPast 71 = .ok (.iload_n 3, 1) := by decide +kernel
theorem dX8_greatestPast_72 : decode cX8_greatestPast 72 = .ok (.istore_n 1, 1) := by decide +kernel
theorem dX8_greatestPast_73 : decode cX8_greatestPast 73 = .ok (.iinc 2 1, 3) := by decide +kernel
theorem dX8_greatestPast_76 : decode cX8_greatestPast 76 = .ok (.goto (-72), 3) := by decide +kernel
theorem dX8_greatestPast_79 : decode cX8_greatestPast 79 = .ok (.iload_n 1, 1) := by decide +kernel
theorem dX8_greatestPast_80 : decode cX8_greatestPast 80 = .ok (.ireturn, 1) := by decide +kernel
theorem dX8_greatestDepth_0 : decode cX8_greatestDepth 0 = .ok (.iconst 0, 1) := by decide +kernel
theorem dX8_greatestDepth_1 : decode cX8_greatestDepth 1 = .ok (.istore_n 1, 1) := by decide +kernel
theorem dX8_greatestDepth_2 : decode cX8_greatestDepth 2 = .ok (.iconst 0, 1) := by decide +kernel
theorem dX8_greatestDepth_3 : decode cX8_greatestDepth 3 = .ok (.istore_n 2, 1) := by decide +kernel
theorem dX8_greatestDepth_4 : decode cX8_greatestDepth 4 = .ok (.iload_n 2, 1) := by decide +kernel
theorem dX8_greatestDepth_5 : decode cX8_greatestDepth 5 = .ok (.aload_n 0, 1) := by decide +kernel
theorem dX8_greatestDepth_6 : decode cX8_greatestDepth 6 = .ok (.getfield 56, 3) := by decide +kernel
theorem dX8_greatestDepth_9 : decode cX8_greatestDepth 9 = .ok (.if_icmp .ge 23, 3) := by decide +kernel
theorem dX8_greatestDepth_12 : decode cX8_greatestDepth 12 = .ok (.iload_n 1, 1) := by decide +kernel
theorem dX8_greatestDepth_13 : decode cX8_greatestDepth 13 = .ok (.aload_n 0, 1) := by decide +kernel
theorem dX8_greatestDepth_14 : decode cX8_greatestDepth 14 = .ok (.getfield 19, 3) := by decide +kernel
theorem dX8_greatestDepth_17 : decode cX8_greatestDepth 17 = .ok (.iload_n 2, 1) := by decide +kernel
theorem dX8_greatestDepth_18 : decode cX8_greatestDepth 18 = .ok (.iaload, 1) := by decide +kernel
theorem dX8_greatestDepth_19 : decode cX8_greatestDepth 19 = .ok (.bipush 10, 2) := by decide +kernel
theorem dX8_greatestDepth_21 : decode cX8_greatestDepth 21 = .ok (.irem, 1) := by decide +kernel
theorem dX8_greatestDepth_22 : decode cX8_greatestDepth 22 = .ok (.invokestatic 124, 3) := by decide +kernel
theorem dX8_greatestDepth_25 : decode cX8_greatestDepth 25 = .ok (.istore_n 1, 1) := by decide +kernel
theorem dX8_greatestDepth_26 : decode cX8_greatestDepth 26 = .ok (.iinc 2 1, 3) := by decide +kernel
theorem dX8_greatestDepth_29 : decode cX8_greatestDepth 29 = .ok (.goto (-25), 3) := by decide +kernel
theorem dX8_greatestDepth_32 : decode cX8_greatestDepth 32 = .ok (.iload_n 1, 1) := by decide +kernel
theorem dX8_greatestDepth_33 : decode cX8_greatestDepth 33 = .ok (.ireturn, 1) := by decide +kernel
theorem dX8_countRows_0 : decode cX8_countRows 0 = .ok (.aload_n 0, 1) := by decide +kernel
theorem dX8_countRows_1 : decode cX8_countRows 1 = .ok (.getfield 53, 3) := by decide +kernel
theorem dX8_countRows_4 : decode cX8_countRows 4 = .ok (.ifCond .ne 5, 3) := by decide +kernel
theorem dX8_countRows_7 : decode cX8_countRows 7 = .ok (.lconst 0, 1) := by decide +kernel
theorem dX8_countRows_8 : decode cX8_countRows 8 = .ok (.lreturn, 1) := by decide +kernel
theorem dX8_countRows_9 : decode cX8_countRows 9 = .ok (.aload_n 0, 1) := by decide +kernel
theorem dX8_countRows_10 : decode cX8_countRows 10 = .ok (.getfield 22, 3) := by decide +kernel
theorem dX8_countRows_13 : decode cX8_countRows 13 = .ok (.aload_n 0, 1) := by decide +kernel
theorem dX8_countRows_14 : decode cX8_countRows 14 = .ok (.getfield 9, 3) := by decide +kernel
theorem dX8_countRows_17 : decode cX8_countRows 17 = .ok (.bipush 10, 2) := by decide +kernel
theorem dX8_countRows_19 : decode cX8_countRows 19 = .ok (.imul, 1) := by decide +kernel
theorem dX8_countRows_20 : decode cX8_countRows 20 = .ok (.aload_n 0, 1) := by decide +kernel
theorem dX8_countRows_21 : decode cX8_countRows 21 = .ok (.getfield 53, 3) := by decide +kernel
theorem dX8_countRows_24 : decode cX8_countRows 24 = .ok (.iadd, 1) := by decide +kernel
theorem dX8_countRows_25 : decode cX8_countRows 25 = .ok (.lconst 1, 1) := by decide +kernel
theorem dX8_countRows_26 : decode cX8_countRows 26 = .ok (.lastore, 1) := by decide +kernel
theorem dX8_countRows_27 : decode cX8_countRows 27 = .ok (.iconst 0, 1) := by decide +kernel
theorem dX8_countRows_28 : decode cX8_countRows 28 = .ok (.istore_n 3, 1) := by decide +kernel
theorem dX8_countRows_29 : decode cX8_countRows 29 = .ok (.iload_n 3, 1) := by decide +kernel
theorem dX8_countRows_30 : decode cX8_countRows 30 = .ok (.iload_n 2, 1) := by decide +kernel
theorem dX8_countRows_31 : decode cX8_countRows 31 = .ok (.if_icmp .ge 13, 3) := by decide +kernel
theorem dX8_countRows_34 : decode cX8_countRows 34 = .ok (.aload_n 0, 1) := by decide +kernel
theorem dX8_countRows_35 : decode cX8_countRows 35 = .ok (.invokevirtual 129, 3) := by decide +kernel
theorem dX8_countRows_38 : decode cX8_countRows 38 = .ok (.iinc 3 1, 3) := by decide +kernel
theorem dX8_countRows_41 : decode cX8_countRows 41 = .ok (.goto (-12), 3) := by decide +kernel
theorem dX8_countRows_44 : decode cX8_countRows 44 = .ok (.lconst 0, 1) := by decide +kernel
theorem dX8_countRows_45 : decode cX8_countRows 45 = .ok (.lstore_n 3, 1) := by decide +kernel
theorem dX8_countRows_46 : decode cX8_countRows 46 = .ok (.aload_n 0, 1) := by decide +kernel
theorem dX8_countRows_47 : decode cX8_countRows 47 = .ok (.getfield 9, 3) := by decide +kernel
theorem dX8_countRows_50 : decode cX8_countRows 50 = .ok (.bipush 10, 2) := by decide +kernel
theorem dX8_countRows_52 : decode cX8_countRows 52 = .ok (.imul, 1) := by decide +kernel
theorem dX8_countRows_53 : decode cX8_countRows 53 = .ok (.istore 5, 2) := by decide +kernel
theorem dX8_countRows_55 : decode cX8_countRows 55 = .ok (.iload 5, 2) := by decide +kernel
theorem dX8_countRows_57 : decode cX8_countRows 57 = .ok (.getstatic 84, 3) := by decide +kernel
theorem dX8_countRows_60 : decode cX8_countRows 60 = .ok (.aload_n 0, 1) := by decide +kernel
theorem dX8_countRows_61 : decode cX8_countRows 61 = .ok (.getfield 48, 3) := by decide +kernel
theorem dX8_countRows_64 : decode cX8_countRows 64 = .ok (.getfield 72, 3) := by decide +kernel
theorem dX8_countRows_67 : decode cX8_countRows 67 = .ok (.iaload, 1) := by decide +kernel
theorem dX8_countRows_68 : decode cX8_countRows 68 = .ok (.bipush 10, 2) := by decide +kernel
theorem dX8_countRows_70 : decode cX8_countRows 70 = .ok (.imul, 1) := by decide +kernel
theorem dX8_countRows_71 : decode cX8_countRows 71 = .ok (.if_icmp .ge 49, 3) := by decide +kernel
theorem dX8_countRows_74 : decode cX8_countRows 74 = .ok (.aload_n 0, 1) := by decide +kernel
theorem dX8_countRows_75 : decode cX8_countRows 75 = .ok (.getfield 22, 3) := by decide +kernel
theorem dX8_countRows_78 : decode cX8_countRows 78 = .ok (.iload 5, 2) := by decide +kernel
theorem dX8_countRows_80 : decode cX8_countRows 80 = .ok (.laload, 1) := by decide +kernel
theorem dX8_countRows_81 : decode cX8_countRows 81 = .ok (.lconst 0, 1) := by decide +kernel
theorem dX8_countRows_82 : decode cX8_countRows 82 = .ok (.lcmp, 1) := by decide +kernel
theorem dX8_countRows_83 : decode cX8_countRows 83 = .ok (.ifCond .le 23, 3) := by decide +kernel
theorem dX8_countRows_86 : decode cX8_countRows 86 = .ok (.aload_n 0, 1) := by decide +kernel
theorem dX8_countRows_87 : decode cX8_countRows 87 = .ok (.iload 5, 2) := by decide +kernel
theorem dX8_countRows_89 : decode cX8_countRows 89 = .ok (.iload_n 1, 1) := by decide +kernel
theorem dX8_countRows_90 : decode cX8_countRows 90 = .ok (.invokevirtual 108, 3) := by decide +kernel
theorem dX8_countRows_93 : decode cX8_countRows 93 = .ok (.ifCond .eq 13, 3) := by decide +kernel
theorem dX8_countRows_96 : decode cX8_countRows 96 = .ok (.lload_n 3, 1) := by decide +kernel
theorem dX8_countRows_97 : decode cX8_countRows 97 = .ok (.aload_n 0, 1) := by decide +kernel
theorem dX8_countRows_98 : decode cX8_countRows 98 = .ok (.getfield 22, 3) := by decide +kernel
theorem dX8_countRows_101 : decode cX8_countRows 101 = .ok (.iload 5, 2) := by decide +kernel
theorem dX8_countRows_103 : decode cX8_countRows 103 = .ok (.laload, 1) := by decide +kernel
theorem dX8_countRows_104 : decode cX8_countRows 104 = .ok (.ladd, 1) := by decide +kernel
theorem dX8_countRows_105 : decode cX8_countRows 105 = .ok (.lstore_n 3, 1) := by decide +kernel
theorem dX8_countRows_106 : decode cX8_countRows 106 = .ok (.aload_n 0, 1) := by decide +kernel
theorem dX8_countRows_107 : decode cX8_countRows 107 = .ok (.getfield 22, 3) := by decide +kernel
theorem dX8_countRows_110 : decode cX8_countRows 110 = .ok (.iload 5, 2) := by decide +kernel
theorem dX8_countRows_112 : decode cX8_countRows 112 = .ok (.lconst 0, 1) := by decide +kernel
theorem dX8_countRows_113 : decode cX8_countRows 113 = .ok (.lastore, 1) := by decide +kernel
theorem dX8_countRows_114 : decode cX8_countRows 114 = .ok (.iinc 5 1, 3) := by decide +kernel
theorem dX8_countRows_117 : decode cX8_countRows 117 = .ok (.goto (-62), 3) := by decide +kernel
theorem dX8_countRows_120 : decode cX8_countRows 120 = .ok (.lload_n 3, 1) := by decide +kernel
theorem dX8_countRows_121 : decode cX8_countRows 121 = .ok (.lreturn, 1) := by decide +kernel
theorem dX8_addHour_0 : decode cX8_addHour 0 = .ok (.getstatic 84, 3) := by decide +kernel
theorem dX8_addHour_3 : decode cX8_addHour 3 = .ok (.aload_n 0, 1) := by decide +kernel
theorem dX8_addHour_4 : decode cX8_addHour 4 = .ok (.getfield 48, 3) := by decide +kernel
theorem dX8_addHour_7 : decode cX8_addHour 7 = .ok (.getfield 72, 3) := by decide +kernel
theorem dX8_addHour_10 : decode cX8_addHour 10 = .ok (.iaload, 1) := by decide +kernel
theorem dX8_addHour_11 : decode cX8_addHour 11 = .ok (.iconst 1, 1) := by decide +kernel
theorem dX8_addHour_12 : decode cX8_addHour 12 = .ok (.isub, 1) := by decide +kernel
theorem dX8_addHour_13 : decode cX8_addHour 13 = .ok (.istore_n 1, 1) := by decide +kernel
theorem dX8_addHour_14 : decode cX8_addHour 14 = .ok (.iload_n 1, 1) := by decide +kernel
theorem dX8_addHour_15 : decode cX8_addHour 15 = .ok (.aload_n 0, 1) := by decide +kernel
theorem dX8_addHour_16 : decode cX8_addHour 16 = .ok (.getfield 9, 3) := by decide +kernel
theorem dX8_addHour_19 : decode cX8_addHour 19 = .ok (.if_icmp .lt 83, 3) := by decide +kernel
theorem dX8_addHour_22 : decode cX8_addHour 22 = .ok (.iconst 1, 1) := by decide +kernel
theorem dX8_addHour_23 : decode cX8_addHour 23 = .ok (.istore_n 2, 1) := by decide +kernel
theorem dX8_addHour_24 : decode cX8_addHour 24 = .ok (.iload_n 2, 1) := by decide +kernel
theorem dX8_addHour_25 : decode cX8_addHour 25 = .ok (.bipush 10, 2) := by decide +kernel
theorem dX8_addHour_27 : decode cX8_addHour 27 = .ok (.if_icmp .ge 38, 3) := by decide +kernel
theorem dX8_addHour_30 : decode cX8_addHour 30 = .ok (.aload_n 0, 1) := by decide +kernel
theorem dX8_addHour_31 : decode cX8_addHour 31 = .ok (.getfield 26, 3) := by decide +kernel
theorem dX8_addHour_34 : decode cX8_addHour 34 = .ok (.iload_n 2, 1) := by decide +kernel
theorem dX8_addHour_35 : decode cX8_addHour 35 = .ok (.aload_n 0, 1) := by decide +kernel
theorem dX8_addHour_36 : decode cX8_addHour 36 = .ok (.getfield 22, 3) := by decide +kernel
theorem dX8_addHour_39 : decode cX8_addHour 39 = .ok (.iload_n 1, 1) := by decide +kernel
theorem dX8_addHour_40 : decode cX8_addHour 40 = .ok (.bipush 10, 2) := by decide +kernel
theorem dX8_addHour_42 : decode cX8_addHour 42 = .ok (.imul, 1) := by decide +kernel
theorem dX8_addHour_43 : decode cX8_addHour 43 = .ok (.iload_n 2, 1) := by decide +kernel
theorem dX8_addHour_44 : decode cX8_addHour 44 = .ok (.iadd, 1) := by decide +kernel
theorem dX8_addHour_45 : decode cX8_addHour 45 = .ok (.laload, 1) := by decide +kernel
theorem dX8_addHour_46 : decode cX8_addHour 46 = .ok (.lastore, 1) := by decide +kernel
theorem dX8_addHour_47 : decode cX8_addHour 47 = .ok (.aload_n 0, 1) := by decide +kernel
theorem dX8_addHour_48 : decode cX8_addHour 48 = .ok (.getfield 22, 3) := by decide +kernel
theorem dX8_addHour_51 : decode cX8_addHour 51 = .ok (.iload_n 1, 1) := by decide +kernel
theorem dX8_addHour_52 : decode cX8_addHour 52 = .ok (.bipush 10, 2) := by decide +kernel
theorem dX8_addHour_54 : decode cX8_addHour 54 = .ok (.imul, 1) := by decide +kernel
theorem dX8_addHour_55 : decode cX8_addHour 55 = .ok (.iload_n 2, 1) := by decide +kernel
theorem dX8_addHour_56 : decode cX8_addHour 56 = .ok (.iadd, 1) := by decide +kernel
theorem dX8_addHour_57 : decode cX8_addHour 57 = .ok (.lconst 0, 1) := by decide +kernel
theorem dX8_addHour_58 : decode cX8_addHour 58 = .ok (.lastore, 1) := by decide +kernel
theorem dX8_addHour_59 : decode cX8_addHour 59 = .ok (.iinc 2 1, 3) := by decide +kernel
theorem dX8_addHour_62 : decode cX8_addHour 62 = .ok (.goto (-38), 3) := by decide +kernel
theorem dX8_addHour_65 : decode cX8_addHour 65 = .ok (.iconst 1, 1) := by decide +kernel
theorem dX8_addHour_66 : decode cX8_addHour 66 = .ok (.istore_n 2, 1) := by decide +kernel
theorem dX8_addHour_67 : decode cX8_addHour 67 = .ok (.iload_n 2, 1) := by decide +kernel
theorem dX8_addHour_68 : decode cX8_addHour 68 = .ok (.bipush 10, 2) := by decide +kernel
theorem dX8_addHour_70 : decode cX8_addHour 70 = .ok (.if_icmp .ge 26, 3) := by decide +kernel
theorem dX8_addHour_73 : decode cX8_addHour 73 = .ok (.aload_n 0, 1) := by decide +kernel
theorem dX8_addHour_74 : decode cX8_addHour 74 = .ok (.getfield 26, 3) := by decide +kernel
theorem dX8_addHour_77 : decode cX8_addHour 77 = .ok (.iload_n 2, 1) := by decide +kernel
theorem dX8_addHour_78 : decode cX8_addHour 78 = .ok (.laload, 1) := by decide +kernel
theorem dX8_addHour_79 : decode cX8_addHour 79 = .ok (.lconst 0, 1) := by decide +kernel
theorem dX8_addHour_80 : decode cX8_addHour 80 = .ok (.lcmp, 1) := by decide +kernel
theorem dX8_addHour_81 : decode cX8_addHour 81 = .ok (.ifCond .le 9, 3) := by decide +kernel
theorem dX8_addHour_84 : decode cX8_addHour 84 = .ok (.aload_n 0, 1) := by decide +kernel
theorem dX8_addHour_85 : decode cX8_addHour 85 = .ok (.iload_n 1, 1) := by decide +kernel
theorem dX8_addHour_86 : decode cX8_addHour 86 = .ok (.iload_n 2, 1) := by decide +kernel
theorem dX8_addHour_87 : decode cX8_addHour 87 = .ok (.invokevirtual 132, 3) := by decide +kernel
theorem dX8_addHour_90 : decode cX8_addHour 90 = .ok (.iinc 2 1, 3) := by decide +kernel
theorem dX8_addHour_93 : decode cX8_addHour 93 = .ok (.goto (-26), 3) := by decide +kernel
theorem dX8_addHour_96 : decode cX8_addHour 96 = .ok (.iinc 1 (-1), 3) := by decide +kernel
theorem dX8_addHour_99 : decode cX8_addHour 99 = .ok (.goto (-85), 3) := by decide +kernel
theorem dX8_addHour_102 : decode cX8_addHour 102 = .ok (.return_, 1) := by decide +kernel
theorem dX8_moveRows_0 : decode cX8_moveRows 0 = .ok (.aload_n 0, 1) := by decide +kernel
theorem dX8_moveRows_1 : decode cX8_moveRows 1 = .ok (.iload_n 1, 1) := by decide +kernel
theorem dX8_moveRows_2 : decode cX8_moveRows 2 = .ok (.iload_n 2, 1) := by decide +kernel
theorem dX8_moveRows_3 : decode cX8_moveRows 3 = .ok (.invokevirtual 97, 3) := by decide +kernel
theorem dX8_moveRows_6 : decode cX8_moveRows 6 = .ok (.iconst 0, 1) := by decide +kernel
theorem dX8_moveRows_7 : decode cX8_moveRows 7 = .ok (.istore_n 3, 1) := by decide +kernel
theorem dX8_moveRows_8 : decode cX8_moveRows 8 = .ok (.iload_n 3, 1) := by decide +kernel
theorem dX8_moveRows_9 : decode cX8_moveRows 9 = .ok (.aload_n 0, 1) := by decide +kernel
theorem dX8_moveRows_10 : decode cX8_moveRows 10 = .ok (.getfield 66, 3) := by decide +kernel
theorem dX8_moveRows_13 : decode cX8_moveRows 13 = .ok (.if_icmp .gt 77, 3) := by decide +kernel
theorem dX8_moveRows_16 : decode cX8_moveRows 16 = .ok (.iload_n 3, 1) := by decide +kernel
theorem dX8_moveRows_17 : decode cX8_moveRows 17 = .ok (.aload_n 0, 1) := by decide +kernel
theorem dX8_moveRows_18 : decode cX8_moveRows 18 = .ok (.getfield 66, 3) := by decide +kernel
theorem dX8_moveRows_21 : decode cX8_moveRows 21 = .ok (.iconst (-1), 1) := by decide +kernel
theorem dX8_moveRows_22 : decode cX8_moveRows 22 = .ok (.ixor, 1) := by decide +kernel
theorem dX8_moveRows_23 : decode cX8_moveRows 23 = .ok (.iand, 1) := by decide +kernel
theorem dX8_moveRows_24 : decode cX8_moveRows 24 = .ok (.ifCond .ne 12, 3) := by decide +kernel
theorem dX8_moveRows_27 : decode cX8_moveRows 27 = .ok (.aload_n 0, 1) := by decide +kernel
theorem dX8_moveRows_28 : decode cX8_moveRows 28 = .ok (.iload_n 2, 1) := by decide +kernel
theorem dX8_moveRows_29 : decode cX8_moveRows 29 = .ok (.iload_n 3, 1) := by decide +kernel
theorem dX8_moveRows_30 : decode cX8_moveRows 30 = .ok (.invokevirtual 100, 3) := by decide +kernel
theorem dX8_moveRows_33 : decode cX8_moveRows 33 = .ok (.goto 4, 3) := by decide +kernel
theorem dX8_moveRows_36 : decode cX8_moveRows 36 = .ok (.iconst 0, 1) := by decide +kernel
theorem dX8_moveRows_37 : decode cX8_moveRows 37 = .ok (.istore 4, 2) := by decide +kernel
theorem dX8_moveRows_39 : decode cX8_moveRows 39 = .ok (.iload_n 1, 1) := by decide +kernel
theorem dX8_moveRows_40 : decode cX8_moveRows 40 = .ok (.aload_n 0, 1) := by decide +kernel
theorem dX8_moveRows_41 : decode cX8_moveRows 41 = .ok (.getfield 32, 3) := by decide +kernel
theorem dX8_moveRows_44 : decode cX8_moveRows 44 = .ok (.iload_n 3, 1) := by decide +kernel
theorem dX8_moveRows_45 : decode cX8_moveRows 45 = .ok (.iaload, 1) := by decide +kernel
theorem dX8_moveRows_46 : decode cX8_moveRows 46 = .ok (.iadd, 1) := by decide +kernel
theorem dX8_moveRows_47 : decode cX8_moveRows 47 = .ok (.bipush 10, 2) := by decide +kernel
theorem dX8_moveRows_49 : decode cX8_moveRows 49 = .ok (.imul, 1) := by decide +kernel
theorem dX8_moveRows_50 : decode cX8_moveRows 50 = .ok (.iload 4, 2) := by decide +kernel
theorem dX8_moveRows_52 : decode cX8_moveRows 52 = .ok (.iadd, 1) := by decide +kernel
theorem dX8_moveRows_53 : decode cX8_moveRows 53 = .ok (.istore 5, 2) := by decide +kernel
theorem dX8_moveRows_55 : decode cX8_moveRows 55 = .ok (.iload 4, 2) := by decide +kernel
theorem dX8_moveRows_57 : decode cX8_moveRows 57 = .ok (.ifCond .le 27, 3) := by decide +kernel
theorem dX8_moveRows_60 : decode cX8_moveRows 60 = .ok (.iload 5, 2) := by decide +kernel
theorem dX8_moveRows_62 : decode cX8_moveRows 62 = .ok (.sipush 24010, 3) := by decide +kernel
theorem dX8_moveRows_65 : decode cX8_moveRows 65 = .ok (.if_icmp .ge 19, 3) := by decide +kernel
theorem dX8_moveRows_68 : decode cX8_moveRows 68 = .ok (.aload_n 0, 1) := by decide +kernel
theorem dX8_moveRows_69 : decode cX8_moveRows 69 = .ok (.getfield 22, 3) := by decide +kernel
theorem dX8_moveRows_72 : decode cX8_moveRows 72 = .ok (.iload 5, 2) := by decide +kernel
theorem dX8_moveRows_74 : decode cX8_moveRows 74 = .ok (.dup2, 1) := by decide +kernel
theorem dX8_moveRows_75 : decode cX8_moveRows 75 = .ok (.laload, 1) := by decide +kernel
theorem dX8_moveRows_76 : decode cX8_moveRows 76 = .ok (.aload_n 0, 1) := by decide +kernel
theorem dX8_moveRows_77 : decode cX8_moveRows 77 = .ok (.getfield 26, 3) := by decide +kernel
theorem dX8_moveRows_80 : decode cX8_moveRows 80 = .ok (.iload_n 2, 1) := by decide +kernel
theorem dX8_moveRows_81 : decode cX8_moveRows 81 = .ok (.laload, 1) := by decide +kernel
theorem dX8_moveRows_82 : decode cX8_moveRows 82 = .ok (.ladd, 1) := by decide +kernel
theorem dX8_moveRows_83 : decode cX8_moveRows 83 = .ok (.lastore, 1) := by decide +kernel
theorem dX8_moveRows_84 : decode cX8_moveRows 84 = .ok (.iinc 3 1, 3) := by decide +kernel
theorem dX8_moveRows_87 : decode cX8_moveRows 87 = .ok (.goto (-79), 3) := by decide +kernel
theorem dX8_moveRows_90 : decode cX8_moveRows 90 = .ok (.return_, 1) := by decide +kernel
theorem dX9_init_0 : decode cX9_init 0 = .ok (.aload_n 0, 1) := by decide +kernel
theorem dX9_init_1 : decode cX9_init 1 = .ok (.invokespecial 1, 3) := by decide +kernel
theorem dX9_init_4 : decode cX9_init 4 = .ok (.aload_n 0, 1) := by decide +kernel
theorem dX9_init_5 : decode cX9_init 5 = .ok (.new 7, 3) := by decide +kernel
theorem dX9_init_8 : decode cX9_init 8 = .ok (.dup, 1) := by decide +kernel
theorem dX9_init_9 : decode cX9_init 9 = .ok (.invokespecial 9, 3) := by decide +kernel
theorem dX9_init_12 : decode cX9_init 12 = .ok (.putfield 10, 3) := by decide +kernel
theorem dX9_init_15 : decode cX9_init 15 = .ok (.aload_n 0, 1) := by decide +kernel
theorem dX9_init_16 : decode cX9_init 16 = .ok (.new 16, 3) := by decide +kernel
theorem dX9_init_19 : decode cX9_init 19 = .ok (.dup, 1) := by decide +kernel
theorem dX9_init_20 : decode cX9_init 20 = .ok (.iconst 0, 1) := by decide +kernel
theorem dX9_init_21 : decode cX9_init 21 = .ok (.invokespecial 18, 3) := by decide +kernel
theorem dX9_init_24 : decode cX9_init 24 = .ok (.putfield 21, 3) := by decide +kernel
theorem dX9_init_27 : decode cX9_init 27 = .ok (.aload_n 0, 1) := by decide +kernel
theorem dX9_init_28 : decode cX9_init 28 = .ok (.new 25, 3) := by decide +kernel
theorem dX9_init_31 : decode cX9_init 31 = .ok (.dup, 1) := by decide +kernel
theorem dX9_init_32 : decode cX9_init 32 = .ok (.invokespecial 27, 3) := by decide +kernel
theorem dX9_init_35 : decode cX9_init 35 = .ok (.putfield 28, 3) := by decide +kernel
theorem dX9_init_38 : decode cX9_init 38 = .ok (.aload_n 0, 1) := by decide +kernel
theorem dX9_init_39 : decode cX9_init 39 = .ok (.new 25, 3) := by decide +kernel
theorem dX9_init_42 : decode cX9_init 42 = .ok (.dup, 1) := by decide +kernel
theorem dX9_init_43 : decode cX9_init 43 = .ok (.invokespecial 27, 3) := by decide +kernel
theorem dX9_init_46 : decode cX9_init 46 = .ok (.putfield 32, 3) := by decide +kernel
theorem dX9_init_49 : decode cX9_init 49 = .ok (.aload_n 0, 1) := by decide +kernel
theorem dX9_init_50 : decode cX9_init 50 = .ok (.bipush 10, 2) := by decide +kernel
theorem dX9_init_52 : decode cX9_init 52 = .ok (.anewarray 25, 3) := by decide +kernel
theorem dX9_init_55 : decode cX9_init 55 = .ok (.putfield 35, 3) := by decide +kernel
theorem dX9_init_58 : decode cX9_init 58 = .ok (.aload_n 0, 1) := by decide +kernel
theorem dX9_init_59 : decode cX9_init 59 = .ok (.iconst 2, 1) := by decide +kernel
theorem dX9_init_60 : decode cX9_init 60 = .ok (.anewarray 16, 3) := by decide +kernel
theorem dX9_init_63 : decode cX9_init 63 = .ok (.putfield 39, 3) := by decide +kernel
theorem dX9_init_66 : decode cX9_init 66 = .ok (.aload_n 0, 1) := by decide +kernel
theorem dX9_init_67 : decode cX9_init 67 = .ok (.iconst 2, 1) := by decide +kernel
theorem dX9_init_68 : decode cX9_init 68 = .ok (.anewarray 25, 3) := by decide +kernel
theorem dX9_init_71 : decode cX9_init 71 = .ok (.putfield 43, 3) := by decide +kernel
theorem dX9_init_74 : decode cX9_init 74 = .ok (.aload_n 0, 1) := by decide +kernel
theorem dX9_init_75 : decode cX9_init 75 = .ok (.iconst 4, 1) := by decide +kernel
theorem dX9_init_76 : decode cX9_init 76 = .ok (.anewarray 46, 3) := by decide +kernel
theorem dX9_init_79 : decode cX9_init 79 = .ok (.putfield 48, 3) := by decide +kernel
theorem dX9_init_82 : decode cX9_init 82 = .ok (.aload_n 0, 1) := by decide +kernel
theorem dX9_init_83 : decode cX9_init 83 = .ok (.new 52, 3) := by decide +kernel
theorem dX9_init_86 : decode cX9_init 86 = .ok (.dup, 1) := by decide +kernel
theorem dX9_init_87 : decode cX9_init 87 = .ok (.invokespecial 54, 3) := by decide +kernel
theorem dX9_init_90 : decode cX9_init 90 = .ok (.putfield 55, 3) := by decide +kernel
theorem dX9_init_93 : decode cX9_init 93 = .ok (.aload_n 0, 1) := by decide +kernel
theorem dX9_init_94 : decode cX9_init 94 = .ok (.new 59, 3) := by decide +kernel
theorem dX9_init_97 : decode cX9_init 97 = .ok (.dup, 1) := by decide +kernel
theorem dX9_init_98 : decode cX9_init 98 = .ok (.invokespecial 61, 3) := by decide +kernel
theorem dX9_init_101 : decode cX9_init 101 = .ok (.putfield 62, 3) := by decide +kernel
theorem dX9_init_104 : decode cX9_init 104 = .ok (.aload_n 0, 1) := by decide +kernel
theorem dX9_init_105 : decode cX9_init 105 = .ok (.bipush 10, 2) := by decide +kernel
theorem dX9_init_107 : decode cX9_init 107 = .ok (.newarray .int, 2) := by decide +kernel
theorem dX9_init_109 : decode cX9_init 109 = .ok (.putfield 66, 3) := by decide +kernel
theorem dX9_init_112 : decode cX9_init 112 = .ok (.aload_n 0, 1) := by decide +kernel
theorem dX9_init_113 : decode cX9_init 113 = .ok (.bipush 10, 2) := by decide +kernel
theorem dX9_init_115 : decode cX9_init 115 = .ok (.newarray .long, 2) := by decide +kernel
theorem dX9_init_117 : decode cX9_init 117 = .ok (.putfield 70, 3) := by decide +kernel
theorem dX9_init_120 : decode cX9_init 120 = .ok (.aload_n 0, 1) := by decide +kernel
theorem dX9_init_121 : decode cX9_init 121 = .ok (.bipush 10, 2) := by decide +kernel
theorem dX9_init_123 : decode cX9_init 123 = .ok (.newarray .long, 2) := by decide +kernel
theorem dX9_init_125 : decode cX9_init 125 = .ok (.putfield 74, 3) := by decide +kernel
theorem dX9_init_128 : decode cX9_init 128 = .ok (.iconst 0, 1) := by decide +kernel
theorem dX9_init_129 : decode cX9_init 129 = .ok (.istore_n 1, 1) := by decide +kernel
theorem dX9_init_130 : decode cX9_init 130 = .ok (.iload_n 1, 1) := by decide +kernel
theorem dX9_init_131 : decode cX9_init 131 = .ok (.bipush 10, 2) := by decide +kernel
theorem dX9_init_133 : decode cX9_init 133 = .ok (.if_icmp .ge 22, 3) := by decide +kernel
theorem dX9_init_136 : decode cX9_init 136 = .ok (.aload_n 0, 1) := by decide +kernel
theorem dX9_init_137 : decode cX9_init 137 = .ok (.getfield 35, 3) := by decide +kernel
theorem dX9_init_140 : decode cX9_init 140 = .ok (.iload_n 1, 1) := by decide +kernel
theorem dX9_init_141 : decode cX9_init 141 = .ok (.new 25, 3) := by decide +kernel
theorem dX9_init_144 : decode cX9_init 144 = .ok (.dup, 1) := by decide +kernel
theorem dX9_init_145 : decode cX9_init 145 = .ok (.invokespecial 27, 3) := by decide +kernel
theorem dX9_init_148 : decode cX9_init 148 = .ok (.aastore, 1) := by decide +kernel
theorem dX9_init_149 : decode cX9_init 149 = .ok (.iinc 1 1, 3) := by decide +kernel
theorem dX9_init_152 : decode cX9_init 152 = .ok (.goto (-22), 3) := by decide +kernel
theorem dX9_init_155 : decode cX9_init 155 = .ok (.iconst 0, 1) := by decide +kernel
theorem dX9_init_156 : decode cX9_init 156 = .ok (.istore_n 1, 1) := by decide +kernel
theorem dX9_init_157 : decode cX9_init 157 = .ok (.iload_n 1, 1) := by decide +kernel
theorem dX9_init_158 : decode cX9_init 158 = .ok (.iconst 2, 1) := by decide +kernel
theorem dX9_init_159 : decode cX9_init 159 = .ok (.if_icmp .ge 22, 3) := by decide +kernel
theorem dX9_init_162 : decode cX9_init 162 = .ok (.aload_n 0, 1) := by decide +kernel
theorem dX9_init_163 : decode cX9_init 163 = .ok (.getfield 43, 3) := by decide +kernel
theorem dX9_init_166 : decode cX9_init 166 = .ok (.iload_n 1, 1) := by decide +kernel
theorem dX9_init_167 : decode cX9_init 167 = .ok (.new 25, 3) := by decide +kernel
theorem dX9_init_170 : decode cX9_init 170 = .ok (.dup, 1) := by decide +kernel
theorem dX9_init_171 : decode cX9_init 171 = .ok (.invokespecial 27, 3) := by decide +kernel
theorem dX9_init_174 : decode cX9_init 174 = .ok (.aastore, 1) := by decide +kernel
theorem dX9_init_175 : decode cX9_init 175 = .ok (.iinc 1 1, 3) := by decide +kernel
theorem dX9_init_178 : decode cX9_init 178 = .ok (.goto (-21), 3) := by decide +kernel
theorem dX9_init_181 : decode cX9_init 181 = .ok (.iconst 0, 1) := by decide +kernel
theorem dX9_init_182 : decode cX9_init 182 = .ok (.istore_n 1, 1) := by decide +kernel
theorem dX9_init_183 : decode cX9_init 183 = .ok (.iload_n 1, 1) := by decide +kernel
theorem dX9_init_184 : decode cX9_init 184 = .ok (.iconst 4, 1) := by decide +kernel
theorem dX9_init_185 : decode cX9_init 185 = .ok (.if_icmp .ge 22, 3) := by decide +kernel
theorem dX9_init_188 : decode cX9_init 188 = .ok (.aload_n 0, 1) := by decide +kernel
theorem dX9_init_189 : decode cX9_init 189 = .ok (.getfield 48, 3) := by decide +kernel
theorem dX9_init_192 : decode cX9_init 192 = .ok (.iload_n 1, 1) := by decide +kernel
theorem dX9_init_193 : decode cX9_init 193 = .ok (.new 46, 3) := by decide +kernel
theorem dX9_init_196 : decode cX9_init 196 = .ok (.dup, 1) := by decide +kernel
theorem dX9_init_197 : decode cX9_init 197 = .ok (.invokespecial 77, 3) := by decide +kernel
theorem dX9_init_200 : decode cX9_init 200 = .ok (.aastore, 1) := by decide +kernel
theorem dX9_init_201 : decode cX9_init 201 = .ok (.iinc 1 1, 3) := by decide +kernel
theorem dX9_init_204 : decode cX9_init 204 = .ok (.goto (-21), 3) := by decide +kernel
theorem dX9_init_207 : decode cX9_init 207 = .ok (.aload_n 0, 1) := by decide +kernel
theorem dX9_init_208 : decode cX9_init 208 = .ok (.getfield 28, 3) := by decide +kernel
theorem dX9_init_211 : decode cX9_init 211 = .ok (.aload_n 0, 1) := by decide +kernel
theorem dX9_init_212 : decode cX9_init 212 = .ok (.getfield 21, 3) := by decide +kernel
theorem dX9_init_215 : decode cX9_init 215 = .ok (.getfield 78, 3) := by decide +kernel
theorem dX9_init_218 : decode cX9_init 218 = .ok (.invokevirtual 81, 3) := by decide +kernel
theorem dX9_init_221 : decode cX9_init 221 = .ok (.return_, 1) := by decide +kernel
theorem dX9_feed_0 : decode cX9_feed 0 = .ok (.aload_n 0, 1) := by decide +kernel
theorem dX9_feed_1 : decode cX9_feed 1 = .ok (.getfield 10, 3) := by decide +kernel
theorem dX9_feed_4 : decode cX9_feed 4 = .ok (.getfield 85, 3) := by decide +kernel
theorem dX9_feed_7 : decode cX9_feed 7 = .ok (.bipush 20, 2) := by decide +kernel
theorem dX9_feed_9 : decode cX9_feed 9 = .ok (.iadd, 1) := by decide +kernel
theorem dX9_feed_10 : decode cX9_feed 10 = .ok (.sipush 900, 3) := by decide +kernel
theorem dX9_feed_13 : decode cX9_feed 13 = .ok (.if_icmp .le 6, 3) := by decide +kernel
theorem dX9_feed_16 : decode cX9_feed 16 = .ok (.bipush (-5), 2) := by decide +kernel
theorem dX9_feed_18 : decode cX9_feed 18 = .ok (.ireturn, 1) := by decide +kernel
theorem dX9_feed_19 : decode cX9_feed 19 = .ok (.aload_n 0, 1) := by decide +kernel
theorem dX9_feed_20 : decode cX9_feed 20 = .ok (.getfield 10, 3) := by decide +kernel
theorem dX9_feed_23 : decode cX9_feed 23 = .ok (.iload_n 1, 1) := by decide +kernel
theorem dX9_feed_24 : decode cX9_feed 24 = .ok (.invokevirtual 89, 3) := by decide +kernel
theorem dX9_feed_27 : decode cX9_feed 27 = .ok (.aload_n 0, 1) := by decide +kernel
theorem dX9_feed_28 : decode cX9_feed 28 = .ok (.getfield 10, 3) := by decide +kernel
theorem dX9_feed_31 : decode cX9_feed 31 = .ok (.iload_n 2, 1) := by decide +kernel
theorem dX9_feed_32 : decode cX9_feed 32 = .ok (.invokevirtual 89, 3) := by decide +kernel
theorem dX9_feed_35 : decode cX9_feed 35 = .ok (.aload_n 0, 1) := by decide +kernel
theorem dX9_feed_36 : decode cX9_feed 36 = .ok (.getfield 10, 3) := by decide +kernel
theorem dX9_feed_39 : decode cX9_feed 39 = .ok (.iload_n 3, 1) := by decide +kernel
theorem dX9_feed_40 : decode cX9_feed 40 = .ok (.invokevirtual 89, 3) := by decide +kernel
theorem dX9_feed_43 : decode cX9_feed 43 = .ok (.aload_n 0, 1) := by decide +kernel
theorem dX9_feed_44 : decode cX9_feed 44 = .ok (.getfield 10, 3) := by decide +kernel
theorem dX9_feed_47 : decode cX9_feed 47 = .ok (.iload 4, 2) := by decide +kernel
theorem dX9_feed_49 : decode cX9_feed 49 = .ok (.invokevirtual 89, 3) := by decide +kernel
theorem dX9_feed_52 : decode cX9_feed 52 = .ok (.aload_n 0, 1) := by decide +kernel
theorem dX9_feed_53 : decode cX9_feed 53 = .ok (.getfield 10, 3) := by decide +kernel
theorem dX9_feed_56 : decode cX9_feed 56 = .ok (.iload 5, 2) := by decide +kernel
theorem dX9_feed_58 : decode cX9_feed 58 = .ok (.invokevirtual 89, 3) := by decide +kernel
theorem dX9_feed_61 : decode cX9_feed 61 = .ok (.aload_n 0, 1) := by decide +kernel
theorem dX9_feed_62 : decode cX9_feed 62 = .ok (.getfield 10, 3) := by decide +kernel
theorem dX9_feed_65 : decode cX9_feed 65 = .ok (.getfield 85, 3) := by decide +kernel
theorem dX9_feed_68 : decode cX9_feed 68 = .ok (.ireturn, 1) := by decide +kernel
theorem dX9_street_0 : decode cX9_street 0 = .ok (.iload_n 1, 1) := by decide +kernel
theorem dX9_street_1 : decode cX9_street 1 = .ok (.ifCond .lt 14, 3) := by decide +kernel
theorem dX9_street_4 : decode cX9_street 4 = .ok (.iload_n 1, 1) := by decide +kernel
theorem dX9_street_5 : decode cX9_street 5 = .ok (.aload_n 0, 1) := by decide +kernel
theorem dX9_street_6 : decode cX9_street 6 = .ok (.getfield 10, 3) := by decide +kernel
theorem dX9_street_9 : decode cX9_street 9 = .ok (.getfield 85, 3) := by decide +kernel
theorem dX9_street_12 : decode cX9_street 12 = .ok (.if_icmp .le 6, 3) := by decide +kernel
theorem dX9_street_15 : decode cX9_street 15 = .ok (.bipush (-3), 2) := by decide +kernel
theorem dX9_street_17 : decode cX9_street 17 = .ok (.ireturn, 1) := by decide +kernel
theorem dX9_street_18 : decode cX9_street 18 = .ok (.aload_n 0, 1) := by decide +kernel
theorem dX9_street_19 : decode cX9_street 19 = .ok (.getfield 10, 3) := by decide +kernel
theorem dX9_street_22 : decode cX9_street 22 = .ok (.iload_n 1, 1) := by decide +kernel
theorem dX9_street_23 : decode cX9_street 23 = .ok (.aload_n 0, 1) := by decide +kernel
theorem dX9_street_24 : decode cX9_street 24 = .ok (.getfield 92, 3) := by decide +kernel
theorem dX9_street_27 : decode cX9_street 27 = .ok (.iconst 1, 1) := by decide +kernel
theorem dX9_street_28 : decode cX9_street 28 = .ok (.iadd, 1) := by decide +kernel
theorem dX9_street_29 : decode cX9_street 29 = .ok (.invokevirtual 95, 3) := by decide +kernel
theorem dX9_street_32 : decode cX9_street 32 = .ok (.astore_n 2, 1) := by decide +kernel
theorem dX9_street_33 : decode cX9_street 33 = .ok (.aload_n 2, 1) := by decide +kernel
theorem dX9_street_34 : decode cX9_street 34 = .ok (.ifnonnull 14, 3) := by decide +kernel
theorem dX9_street_37 : decode cX9_street 37 = .ok (.bipush (-30), 2) := by decide +kernel
theorem dX9_street_39 : decode cX9_street 39 = .ok (.aload_n 0, 1) := by decide +kernel
theorem dX9_street_40 : decode cX9_street 40 = .ok (.getfield 10, 3) := by decide +kernel
theorem dX9_street_43 : decode cX9_street 43 = .ok (.getfield 99, 3) := by decide +kernel
theorem dX9_street_46 : decode cX9_street 46 = .ok (.isub, 1) := by decide +kernel
theorem dX9_street_47 : decode cX9_street 47 = .ok (.ireturn, 1) := by decide +kernel
theorem dX9_street_48 : decode cX9_street 48 = .ok (.aload_n 0, 1) := by decide +kernel
theorem dX9_street_49 : decode cX9_street 49 = .ok (.dup, 1) := by decide +kernel
theorem dX9_street_50 : decode cX9_street 50 = .ok (.getfield 92, 3) := by decide +kernel
theorem dX9_street_53 : decode cX9_street 53 = .ok (.iconst 1, 1) := by decide +kernel
theorem dX9_street_54 : decode cX9_street 54 = .ok (.iadd, 1) := by decide +kernel
theorem dX9_street_55 : decode cX9_street 55 = .ok (.putfield 92, 3) := by decide +kernel
theorem dX9_street_58 : decode cX9_street 58 = .ok (.aload_n 0, 1) := by decide +kernel
theorem dX9_street_59 : decode cX9_street 59 = .ok (.aload_n 2, 1) := by decide +kernel
theorem dX9_street_60 : decode cX9_street 60 = .ok (.putfield 21, 3) := by decide +kernel
theorem dX9_street_63 : decode cX9_street 63 = .ok (.aload_n 0, 1) := by decide +kernel
theorem dX9_street_64 : decode cX9_street 64 = .ok (.getfield 28, 3) := by decide +kernel
theorem dX9_street_67 : decode cX9_street 67 = .ok (.aload_n 2, 1) := by decide +kernel
theorem dX9_street_68 : decode cX9_street 68 = .ok (.getfield 78, 3) := by decide +kernel
theorem dX9_street_71 : decode cX9_street 71 = .ok (.invokevirtual 81, 3) := by decide +kernel
theorem dX9_street_74 : decode cX9_street 74 = .ok (.aload_n 0, 1) := by decide +kernel
theorem dX9_street_75 : decode cX9_street 75 = .ok (.iconst 0, 1) := by decide +kernel
theorem dX9_street_76 : decode cX9_street 76 = .ok (.putfield 102, 3) := by decide +kernel
theorem dX9_street_79 : decode cX9_street 79 = .ok (.aload_n 2, 1) := by decide +kernel
theorem dX9_street_80 : decode cX9_street 80 = .ok (.getfield 105, 3) := by decide +kernel
theorem dX9_street_83 : decode cX9_street 83 = .ok (.ireturn, 1) := by decide +kernel
theorem dX9_fault_0 : decode cX9_fault 0 = .ok (.iload_n 1, 1) := by decide +kernel
theorem dX9_fault_1 : decode cX9_fault 1 = .ok (.ifCond .ne 11, 3) := by decide +kernel
theorem dX9_fault_4 : decode cX9_fault 4 = .ok (.aload_n 0, 1) := by decide +kernel
theorem dX9_fault_5 : decode cX9_fault 5 = .ok (.getfield 10, 3) := by decide +kernel
theorem dX9_fault_8 : decode cX9_fault 8 = .ok (.getfield 99, 3) := by decide +kernel
theorem dX9_fault_11 : decode cX9_fault 11 = .ok (.ireturn, 1) := by decide +kernel
theorem dX9_fault_12 : decode cX9_fault 12 = .ok (.iload_n 1, 1) := by decide +kernel
theorem dX9_fault_13 : decode cX9_fault 13 = .ok (.iconst 1, 1) := by decide +kernel
theorem dX9_fault_14 : decode cX9_fault 14 = .ok (.if_icmp .ne 13, 3) := by decide +kernel
theorem dX9_fault_17 : decode cX9_fault 17 = .ok (.aload_n 0, 1) := by decide +kernel
theorem dX9_fault_18 : decode cX9_fault 18 = .ok (.getfield 10, 3) := by decide +kernel
theorem dX9_fault_21 : decode cX9_fault 21 = .ok (.getfield 108, 3) := by decide +kernel
theorem dX9_fault_24 : decode cX9_fault 24 = .ok (.goto 4, 3) := by decide +kernel
theorem dX9_fault_27 : decode cX9_fault 27 = .ok (.iconst (-1), 1) := by decide +kernel
theorem dX9_fault_28 : decode cX9_fault 28 = .ok (.ireturn, 1) := by decide +kernel
theorem dX9_goer_0 : decode cX9_goer 0 = .ok (.iload_n 1, 1) := by decide +kernel
theorem dX9_goer_1 : decode cX9_goer 1 = .ok (.ifCond .lt 23, 3) := by decide +kernel
theorem dX9_goer_4 : decode cX9_goer 4 = .ok (.iload_n 1, 1) := by decide +kernel
theorem dX9_goer_5 : decode cX9_goer 5 = .ok (.aload_n 0, 1) := by decide +kernel

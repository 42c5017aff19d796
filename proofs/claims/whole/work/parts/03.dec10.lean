theorem dX10_standNow_35 : decode cX10_standNow 35 = .ok (.imul, 1) := by decide +kernel
theorem dX10_standNow_36 : decode cX10_standNow 36 = .ok (.ishl, 1) := by decide +kernel
theorem dX10_standNow_37 : decode cX10_standNow 37 = .ok (.ior, 1) := by decide +kernel
theorem dX10_standNow_38 : decode cX10_standNow 38 = .ok (.istore_n 1, 1) := by decide +kernel
theorem dX10_standNow_39 : decode cX10_standNow 39 = .ok (.iinc 2 1, 3) := by decide +kernel
theorem dX10_standNow_42 : decode cX10_standNow 42 = .ok (.goto (-29), 3) := by decide +kernel
theorem dX10_standNow_45 : decode cX10_standNow 45 = .ok (.iload_n 1, 1) := by decide +kernel
theorem dX10_standNow_46 : decode cX10_standNow 46 = .ok (.ireturn, 1) := by decide +kernel
theorem dX10_isStand_0 : decode cX10_isStand 0 = .ok (.iconst 0, 1) := by decide +kernel
theorem dX10_isStand_1 : decode cX10_isStand 1 = .ok (.istore_n 2, 1) := by decide +kernel
theorem dX10_isStand_2 : decode cX10_isStand 2 = .ok (.iload_n 2, 1) := by decide +kernel
theorem dX10_isStand_3 : decode cX10_isStand 3 = .ok (.aload_n 0, 1) := by decide +kernel
theorem dX10_isStand_4 : decode cX10_isStand 4 = .ok (.getfield 13, 3) := by decide +kernel
theorem dX10_isStand_7 : decode cX10_isStand 7 = .ok (.iconst 3, 1) := by decide +kernel
theorem dX10_isStand_8 : decode cX10_isStand 8 = .ok (.iaload, 1) := by decide +kernel
theorem dX10_isStand_9 : decode cX10_isStand 9 = .ok (.if_icmp .ge 23, 3) := by decide +kernel
theorem dX10_isStand_12 : decode cX10_isStand 12 = .ok (.aload_n 0, 1) := by decide +kernel
theorem dX10_isStand_13 : decode cX10_isStand 13 = .ok (.getfield 13, 3) := by decide +kernel
theorem dX10_isStand_16 : decode cX10_isStand 16 = .ok (.bipush 22, 2) := by decide +kernel
theorem dX10_isStand_18 : decode cX10_isStand 18 = .ok (.iload_n 2, 1) := by decide +kernel
theorem dX10_isStand_19 : decode cX10_isStand 19 = .ok (.iadd, 1) := by decide +kernel
theorem dX10_isStand_20 : decode cX10_isStand 20 = .ok (.iload_n 1, 1) := by decide +kernel
theorem dX10_isStand_21 : decode cX10_isStand 21 = .ok (.iload_n 2, 1) := by decide +kernel
theorem dX10_isStand_22 : decode cX10_isStand 22 = .ok (.invokestatic 228, 3) := by decide +kernel
theorem dX10_isStand_25 : decode cX10_isStand 25 = .ok (.iastore, 1) := by decide +kernel
theorem dX10_isStand_26 : decode cX10_isStand 26 = .ok (.iinc 2 1, 3) := by decide +kernel
theorem dX10_isStand_29 : decode cX10_isStand 29 = .ok (.goto (-27), 3) := by decide +kernel
theorem dX10_isStand_32 : decode cX10_isStand 32 = .ok (.aload_n 0, 1) := by decide +kernel
theorem dX10_isStand_33 : decode cX10_isStand 33 = .ok (.getfield 13, 3) := by decide +kernel
theorem dX10_isStand_36 : decode cX10_isStand 36 = .ok (.bipush 26, 2) := by decide +kernel
theorem dX10_isStand_38 : decode cX10_isStand 38 = .ok (.iload_n 1, 1) := by decide +kernel
theorem dX10_isStand_39 : decode cX10_isStand 39 = .ok (.invokestatic 231, 3) := by decide +kernel
theorem dX10_isStand_42 : decode cX10_isStand 42 = .ok (.iastore, 1) := by decide +kernel
theorem dX10_isStand_43 : decode cX10_isStand 43 = .ok (.return_, 1) := by decide +kernel
theorem dX10_pastIn_0 : decode cX10_pastIn 0 = .ok (.iconst 0, 1) := by decide +kernel
theorem dX10_pastIn_1 : decode cX10_pastIn 1 = .ok (.istore_n 2, 1) := by decide +kernel
theorem dX10_pastIn_2 : decode cX10_pastIn 2 = .ok (.iconst 0, 1) := by decide +kernel
theorem dX10_pastIn_3 : decode cX10_pastIn 3 = .ok (.istore_n 3, 1) := by decide +kernel
theorem dX10_pastIn_4 : decode cX10_pastIn 4 = .ok (.iload_n 3, 1) := by decide +kernel
theorem dX10_pastIn_5 : decode cX10_pastIn 5 = .ok (.aload_n 0, 1) := by decide +kernel
theorem dX10_pastIn_6 : decode cX10_pastIn 6 = .ok (.getfield 13, 3) := by decide +kernel
theorem dX10_pastIn_9 : decode cX10_pastIn 9 = .ok (.iconst 3, 1) := by decide +kernel
theorem dX10_pastIn_10 : decode cX10_pastIn 10 = .ok (.iaload, 1) := by decide +kernel
theorem dX10_pastIn_11 : decode cX10_pastIn 11 = .ok (.if_icmp .ge 33, 3) := by decide +kernel
theorem dX10_pastIn_14 : decode cX10_pastIn 14 = .ok (.iload_n 2, 1) := by decide +kernel
theorem dX10_pastIn_15 : decode cX10_pastIn 15 = .ok (.iload_n 1, 1) := by decide +kernel
theorem dX10_pastIn_16 : decode cX10_pastIn 16 = .ok (.iload_n 3, 1) := by decide +kernel
theorem dX10_pastIn_17 : decode cX10_pastIn 17 = .ok (.invokestatic 228, 3) := by decide +kernel
theorem dX10_pastIn_20 : decode cX10_pastIn 20 = .ok (.aload_n 0, 1) := by decide +kernel
theorem dX10_pastIn_21 : decode cX10_pastIn 21 = .ok (.getfield 13, 3) := by decide +kernel
theorem dX10_pastIn_24 : decode cX10_pastIn 24 = .ok (.iconst 1, 1) := by decide +kernel
theorem dX10_pastIn_25 : decode cX10_pastIn 25 = .ok (.iaload, 1) := by decide +kernel
theorem dX10_pastIn_26 : decode cX10_pastIn 26 = .ok (.if_icmp .ne 9, 3) := by decide +kernel
theorem dX10_pastIn_29 : decode cX10_pastIn 29 = .ok (.iconst 1, 1) := by decide +kernel
theorem dX10_pastIn_30 : decode cX10_pastIn 30 = .ok (.iload_n 3, 1) := by decide +kernel
theorem dX10_pastIn_31 : decode cX10_pastIn 31 = .ok (.ishl, 1) := by decide +kernel
theorem dX10_pastIn_32 : decode cX10_pastIn 32 = .ok (.goto 4, 3) := by decide +kernel
theorem dX10_pastIn_35 : decode cX10_pastIn 35 = .ok (.iconst 0, 1) := by decide +kernel
theorem dX10_pastIn_36 : decode cX10_pastIn 36 = .ok (.ior, 1) := by decide +kernel
theorem dX10_pastIn_37 : decode cX10_pastIn 37 = .ok (.istore_n 2, 1) := by decide +kernel
theorem dX10_pastIn_38 : decode cX10_pastIn 38 = .ok (.iinc 3 1, 3) := by decide +kernel
theorem dX10_pastIn_41 : decode cX10_pastIn 41 = .ok (.goto (-37), 3) := by decide +kernel
theorem dX10_pastIn_44 : decode cX10_pastIn 44 = .ok (.iload_n 2, 1) := by decide +kernel
theorem dX10_pastIn_45 : decode cX10_pastIn 45 = .ok (.ireturn, 1) := by decide +kernel
theorem dX10_between_0 : decode cX10_between 0 = .ok (.iload_n 0, 1) := by decide +kernel
theorem dX10_between_1 : decode cX10_between 1 = .ok (.tableswitch 80 3003 3008 #[39, 50, 61, 80, 72, 76], 39) := by decide +kernel
theorem dX10_between_40 : decode cX10_between 40 = .ok (.iload_n 1, 1) := by decide +kernel
theorem dX10_between_41 : decode cX10_between 41 = .ok (.iload_n 2, 1) := by decide +kernel
theorem dX10_between_42 : decode cX10_between 42 = .ok (.if_icmp .ne 7, 3) := by decide +kernel
theorem dX10_between_45 : decode cX10_between 45 = .ok (.iconst 1, 1) := by decide +kernel
theorem dX10_between_46 : decode cX10_between 46 = .ok (.goto 4, 3) := by decide +kernel
theorem dX10_between_49 : decode cX10_between 49 = .ok (.iconst 0, 1) := by decide +kernel
theorem dX10_between_50 : decode cX10_between 50 = .ok (.ireturn, 1) := by decide +kernel
theorem dX10_between_51 : decode cX10_between 51 = .ok (.iload_n 1, 1) := by decide +kernel
theorem dX10_between_52 : decode cX10_between 52 = .ok (.iload_n 2, 1) := by decide +kernel
theorem dX10_between_53 : decode cX10_between 53 = .ok (.if_icmp .ge 7, 3) := by decide +kernel
theorem dX10_between_56 : decode cX10_between 56 = .ok (.iconst 1, 1) := by decide +kernel
theorem dX10_between_57 : decode cX10_between 57 = .ok (.goto 4, 3) := by decide +kernel
theorem dX10_between_60 : decode cX10_between 60 = .ok (.iconst 0, 1) := by decide +kernel
theorem dX10_between_61 : decode cX10_between 61 = .ok (.ireturn, 1) := by decide +kernel
theorem dX10_between_62 : decode cX10_between 62 = .ok (.iload_n 1, 1) := by decide +kernel
theorem dX10_between_63 : decode cX10_between 63 = .ok (.iload_n 2, 1) := by decide +kernel
theorem dX10_between_64 : decode cX10_between 64 = .ok (.if_icmp .le 7, 3) := by decide +kernel
theorem dX10_between_67 : decode cX10_between 67 = .ok (.iconst 1, 1) := by decide +kernel
theorem dX10_between_68 : decode cX10_between 68 = .ok (.goto 4, 3) := by decide +kernel
theorem dX10_between_71 : decode cX10_between 71 = .ok (.iconst 0, 1) := by decide +kernel
theorem dX10_between_72 : decode cX10_between 72 = .ok (.ireturn, 1) := by decide +kernel
theorem dX10_between_73 : decode cX10_between 73 = .ok (.iload_n 1, 1) := by decide +kernel
theorem dX10_between_74 : decode cX10_between 74 = .ok (.iload_n 2, 1) := by decide +kernel
theorem dX10_between_75 : decode cX10_between 75 = .ok (.iand, 1) := by decide +kernel
theorem dX10_between_76 : decode cX10_between 76 = .ok (.ireturn, 1) := by decide +kernel
theorem dX10_between_77 : decode cX10_between 77 = .ok (.iload_n 1, 1) := by decide +kernel
theorem dX10_between_78 : decode cX10_between 78 = .ok (.iload_n 2, 1) := by decide +kernel
theorem dX10_between_79 : decode cX10_between 79 = .ok (.ior, 1) := by decide +kernel
theorem dX10_between_80 : decode cX10_between 80 = .ok (.ireturn, 1) := by decide +kernel
theorem dX10_between_81 : decode cX10_between 81 = .ok (.iload_n 0, 1) := by decide +kernel
theorem dX10_between_82 : decode cX10_between 82 = .ok (.sipush 3000, 3) := by decide +kernel
theorem dX10_between_85 : decode cX10_between 85 = .ok (.if_icmp .ne 11, 3) := by decide +kernel
theorem dX10_between_88 : decode cX10_between 88 = .ok (.iload_n 1, 1) := by decide +kernel
theorem dX10_between_89 : decode cX10_between 89 = .ok (.i2l, 1) := by decide +kernel
theorem dX10_between_90 : decode cX10_between 90 = .ok (.iload_n 2, 1) := by decide +kernel
theorem dX10_between_91 : decode cX10_between 91 = .ok (.i2l, 1) := by decide +kernel
theorem dX10_between_92 : decode cX10_between 92 = .ok (.ladd, 1) := by decide +kernel
theorem dX10_between_93 : decode cX10_between 93 = .ok (.goto 23, 3) := by decide +kernel
theorem dX10_between_96 : decode cX10_between 96 = .ok (.iload_n 0, 1) := by decide +kernel
theorem dX10_between_97 : decode cX10_between 97 = .ok (.sipush 3001, 3) := by decide +kernel
theorem dX10_between_100 : decode cX10_between 100 = .ok (.if_icmp .ne 11, 3) := by decide +kernel
theorem dX10_between_103 : decode cX10_between 103 = .ok (.iload_n 1, 1) := by decide +kernel
theorem dX10_between_104 : decode cX10_between 104 = .ok (.i2l, 1) := by decide +kernel
theorem dX10_between_105 : decode cX10_between 105 = .ok (.iload_n 2, 1) := by decide +kernel
theorem dX10_between_106 : decode cX10_between 106 = .ok (.i2l, 1) := by decide +kernel
theorem dX10_between_107 : decode cX10_between 107 = .ok (.lsub, 1) := by decide +kernel
theorem dX10_between_108 : decode cX10_between 108 = .ok (.goto 8, 3) := by decide +kernel
theorem dX10_between_111 : decode cX10_between 111 = .ok (.iload_n 1, 1) := by decide +kernel
theorem dX10_between_112 : decode cX10_between 112 = .ok (.i2l, 1) := by decide +kernel
theorem dX10_between_113 : decode cX10_between 113 = .ok (.iload_n 2, 1) := by decide +kernel
theorem dX10_between_114 : decode cX10_between 114 = .ok (.i2l, 1) := by decide +kernel
theorem dX10_between_115 : decode cX10_between 115 = .ok (.lmul, 1) := by decide +kernel
theorem dX10_between_116 : decode cX10_between 116 = .ok (.lstore_n 3, 1) := by decide +kernel
theorem dX10_between_117 : decode cX10_between 117 = .ok (.lload_n 3, 1) := by decide +kernel
theorem dX10_between_118 : decode cX10_between 118 = .ok (.ldc2_w 234, 3) := by decide +kernel
theorem dX10_between_121 : decode cX10_between 121 = .ok (.lcmp, 1) := by decide +kernel
theorem dX10_between_122 : decode cX10_between 122 = .ok (.ifCond .le 9, 3) := by decide +kernel
theorem dX10_between_125 : decode cX10_between 125 = .ok (.ldc2_w 234, 3) := by decide +kernel
theorem dX10_between_128 : decode cX10_between 128 = .ok (.goto 18, 3) := by decide +kernel
theorem dX10_between_131 : decode cX10_between 131 = .ok (.lload_n 3, 1) := by decide +kernel
theorem dX10_between_132 : decode cX10_between 132 = .ok (.ldc2_w 236, 3) := by decide +kernel
theorem dX10_between_135 : decode cX10_between 135 = .ok (.lcmp, 1) := by decide +kernel
theorem dX10_between_136 : decode cX10_between 136 = .ok (.ifCond .ge 9, 3) := by decide +kernel
theorem dX10_between_139 : decode cX10_between 139 = .ok (.ldc2_w 236, 3) := by decide +kernel
theorem dX10_between_142 : decode cX10_between 142 = .ok (.goto 4, 3) := by decide +kernel
theorem dX10_between_145 : decode cX10_between 145 = .ok (.lload_n 3, 1) := by decide +kernel
theorem dX10_between_146 : decode cX10_between 146 = .ok (.l2i, 1) := by decide +kernel
theorem dX10_between_147 : decode cX10_between 147 = .ok (.ireturn, 1) := by decide +kernel
theorem dX10_reckons_0 : decode cX10_reckons 0 = .ok (.iconst 0, 1) := by decide +kernel
theorem dX10_reckons_1 : decode cX10_reckons 1 = .ok (.istore_n 3, 1) := by decide +kernel
theorem dX10_reckons_2 : decode cX10_reckons 2 = .ok (.iconst 0, 1) := by decide +kernel
theorem dX10_reckons_3 : decode cX10_reckons 3 = .ok (.istore 4, 2) := by decide +kernel
theorem dX10_reckons_5 : decode cX10_reckons 5 = .ok (.iload 4, 2) := by decide +kernel
theorem dX10_reckons_7 : decode cX10_reckons 7 = .ok (.aload_n 0, 1) := by decide +kernel
theorem dX10_reckons_8 : decode cX10_reckons 8 = .ok (.getfield 13, 3) := by decide +kernel
theorem dX10_reckons_11 : decode cX10_reckons 11 = .ok (.bipush 12, 2) := by decide +kernel
theorem dX10_reckons_13 : decode cX10_reckons 13 = .ok (.iload_n 1, 1) := by decide +kernel
theorem dX10_reckons_14 : decode cX10_reckons 14 = .ok (.iadd, 1) := by decide +kernel
theorem dX10_reckons_15 : decode cX10_reckons 15 = .ok (.iaload, 1) := by decide +kernel
theorem dX10_reckons_16 : decode cX10_reckons 16 = .ok (.if_icmp .ge 186, 3) := by decide +kernel
theorem dX10_reckons_19 : decode cX10_reckons 19 = .ok (.aload_n 0, 1) := by decide +kernel
theorem dX10_reckons_20 : decode cX10_reckons 20 = .ok (.getfield 13, 3) := by decide +kernel
theorem dX10_reckons_23 : decode cX10_reckons 23 = .ok (.sipush 277, 3) := by decide +kernel
theorem dX10_reckons_26 : decode cX10_reckons 26 = .ok (.aload_n 0, 1) := by decide +kernel
theorem dX10_reckons_27 : decode cX10_reckons 27 = .ok (.getfield 13, 3) := by decide +kernel
theorem dX10_reckons_30 : decode cX10_reckons 30 = .ok (.bipush 10, 2) := by decide +kernel
theorem dX10_reckons_32 : decode cX10_reckons 32 = .ok (.iload_n 1, 1) := by decide +kernel
theorem dX10_reckons_33 : decode cX10_reckons 33 = .ok (.iadd, 1) := by decide +kernel
theorem dX10_reckons_34 : decode cX10_reckons 34 = .ok (.iaload, 1) := by decide +kernel
theorem dX10_reckons_35 : decode cX10_reckons 35 = .ok (.iadd, 1) := by decide +kernel
theorem dX10_reckons_36 : decode cX10_reckons 36 = .ok (.iload 4, 2) := by decide +kernel
theorem dX10_reckons_38 : decode cX10_reckons 38 = .ok (.iadd, 1) := by decide +kernel
theorem dX10_reckons_39 : decode cX10_reckons 39 = .ok (.iaload, 1) := by decide +kernel
theorem dX10_reckons_40 : decode cX10_reckons 40 = .ok (.istore 5, 2) := by decide +kernel
theorem dX10_reckons_42 : decode cX10_reckons 42 = .ok (.iload 5, 2) := by decide +kernel
theorem dX10_reckons_44 : decode cX10_reckons 44 = .ok (.sipush 3000, 3) := by decide +kernel
theorem dX10_reckons_47 : decode cX10_reckons 47 = .ok (.if_icmp .ge 39, 3) := by decide +kernel
theorem dX10_reckons_50 : decode cX10_reckons 50 = .ok (.aload_n 0, 1) := by decide +kernel
theorem dX10_reckons_51 : decode cX10_reckons 51 = .ok (.getfield 30, 3) := by decide +kernel
theorem dX10_reckons_54 : decode cX10_reckons 54 = .ok (.iload_n 3, 1) := by decide +kernel
theorem dX10_reckons_55 : decode cX10_reckons 55 = .ok (.iload 5, 2) := by decide +kernel
theorem dX10_reckons_57 : decode cX10_reckons 57 = .ok (.sipush 1000, 3) := by decide +kernel
theorem dX10_reckons_60 : decode cX10_reckons 60 = .ok (.if_icmp .ge 8, 3) := by decide +kernel
theorem dX10_reckons_63 : decode cX10_reckons 63 = .ok (.iload 5, 2) := by decide +kernel
theorem dX10_reckons_65 : decode cX10_reckons 65 = .ok (.goto 14, 3) := by decide +kernel
theorem dX10_reckons_68 : decode cX10_reckons 68 = .ok (.aload_n 0, 1) := by decide +kernel
theorem dX10_reckons_69 : decode cX10_reckons 69 = .ok (.getfield 33, 3) := by decide +kernel
theorem dX10_reckons_72 : decode cX10_reckons 72 = .ok (.iload 5, 2) := by decide +kernel
theorem dX10_reckons_74 : decode cX10_reckons 74 = .ok (.sipush 1000, 3) := by decide +kernel
theorem dX10_reckons_77 : decode cX10_reckons 77 = .ok (.isub, 1) := by decide +kernel
theorem dX10_reckons_78 : decode cX10_reckons 78 = .ok (.iaload, 1) := by decide +kernel
theorem dX10_reckons_79 : decode cX10_reckons 79 = .ok (.iastore, 1) := by decide +kernel
theorem dX10_reckons_80 : decode cX10_reckons 80 = .ok (.iinc 3 1, 3) := by decide +kernel
theorem dX10_reckons_83 : decode cX10_reckons 83 = .ok (.goto 113, 3) := by decide +kernel
theorem dX10_reckons_86 : decode cX10_reckons 86 = .ok (.iload 5, 2) := by decide +kernel
theorem dX10_reckons_88 : decode cX10_reckons 88 = .ok (.sipush 3006, 3) := by decide +kernel
theorem dX10_reckons_91 : decode cX10_reckons 91 = .ok (.if_icmp .ne 24, 3) := by decide +kernel
theorem dX10_reckons_94 : decode cX10_reckons 94 = .ok (.aload_n 0, 1) := by decide +kernel
theorem dX10_reckons_95 : decode cX10_reckons 95 = .ok (.getfield 30, 3) := by decide +kernel
theorem dX10_reckons_98 : decode cX10_reckons 98 = .ok (.iload_n 3, 1) := by decide +kernel
theorem dX10_reckons_99 : decode cX10_reckons 99 = .ok (.iconst 1, 1) := by decide +kernel
theorem dX10_reckons_100 : decode cX10_reckons 100 = .ok (.isub, 1) := by decide +kernel
theorem dX10_reckons_101 : decode cX10_reckons 101 = .ok (.iconst 1, 1) := by decide +kernel
theorem dX10_reckons_102 : decode cX10_reckons 102 = .ok (.aload_n 0, 1) := by decide +kernel
theorem dX10_reckons_103 : decode cX10_reckons 103 = .ok (.getfield 30, 3) := by decide +kernel
theorem dX10_reckons_106 : decode cX10_reckons 106 = .ok (.iload_n 3, 1) := by decide +kernel
theorem dX10_reckons_107 : decode cX10_reckons 107 = .ok (.iconst 1, 1) := by decide +kernel
theorem dX10_reckons_108 : decode cX10_reckons 108 = .ok (.isub, 1) := by decide +kernel
theorem dX10_reckons_109 : decode cX10_reckons 109 = .ok (.iaload, 1) := by decide +kernel
theorem dX10_reckons_110 : decode cX10_reckons 110 = .ok (.isub, 1) := by decide +kernel
theorem dX10_reckons_111 : decode cX10_reckons 111 = .ok (.iastore, 1) := by decide +kernel
theorem dX10_reckons_112 : decode cX10_reckons 112 = .ok (.goto 84, 3) := by decide +kernel
theorem dX10_reckons_115 : decode cX10_reckons 115 = .ok (.iload 5, 2) := by decide +kernel
theorem dX10_reckons_117 : decode cX10_reckons 117 = .ok (.sipush 3009, 3) := by decide +kernel
theorem dX10_reckons_120 : decode cX10_reckons 120 = .ok (.if_icmp .ne 46, 3) := by decide +kernel
theorem dX10_reckons_123 : decode cX10_reckons 123 = .ok (.iinc 3 (-2), 3) := by decide +kernel
theorem dX10_reckons_126 : decode cX10_reckons 126 = .ok (.aload_n 0, 1) := by decide +kernel
theorem dX10_reckons_127 : decode cX10_reckons 127 = .ok (.getfield 30, 3) := by decide +kernel
theorem dX10_reckons_130 : decode cX10_reckons 130 = .ok (.iload_n 3, 1) := by decide +kernel
theorem dX10_reckons_131 : decode cX10_reckons 131 = .ok (.iconst 1, 1) := by decide +kernel
theorem dX10_reckons_132 : decode cX10_reckons 132 = .ok (.isub, 1) := by decide +kernel
theorem dX10_reckons_133 : decode cX10_reckons 133 = .ok (.aload_n 0, 1) := by decide +kernel
theorem dX10_reckons_134 : decode cX10_reckons 134 = .ok (.getfield 30, 3) := by decide +kernel
theorem dX10_reckons_137 : decode cX10_reckons 137 = .ok (.iload_n 3, 1) := by decide +kernel
theorem dX10_reckons_138 : decode cX10_reckons 138 = .ok (.iconst 1, 1) := by decide +kernel
theorem dX10_reckons_139 : decode cX10_reckons 139 = .ok (.isub, 1) := by decide +kernel
theorem dX10_reckons_140 : decode cX10_reckons 140 = .ok (.iaload, 1) := by decide +kernel
theorem dX10_reckons_141 : decode cX10_reckons 141 = .ok (.iconst 1, 1) := by decide +kernel
theorem dX10_reckons_142 : decode cX10_reckons 142 = .ok (.if_icmp .ne 12, 3) := by decide +kernel
theorem dX10_reckons_145 : decode cX10_reckons 145 = .ok (.aload_n 0, 1) := by decide +kernel
theorem dX10_reckons_146 : decode cX10_reckons 146 = .ok (.getfield 30, 3) := by decide +kernel
theorem dX10_reckons_149 : decode cX10_reckons 149 = .ok (.iload_n 3, 1) := by decide +kernel
theorem dX10_reckons_150 : decode cX10_reckons 150 = .ok (.iaload, 1) := by decide +kernel
theorem dX10_reckons_151 : decode cX10_reckons 151 = .ok (.goto 11, 3) := by decide +kernel
theorem dX10_reckons_154 : decode cX10_reckons 154 = .ok (.aload_n 0, 1) := by decide +kernel
theorem dX10_reckons_155 : decode cX10_reckons 155 = .ok (.getfield 30, 3) := by decide +kernel
theorem dX10_reckons_158 : decode cX10_reckons 158 = .ok (.iload_n 3, 1) := by decide +kernel
theorem dX10_reckons_159 : decode cX10_reckons 159 = .ok (.iconst 1, 1) := by decide +kernel
theorem dX10_reckons_160 : decode cX10_reckons 160 = .ok (.iadd, 1) := by decide +kernel
theorem dX10_reckons_161 : decode cX10_reckons 161 = .ok (.iaload, 1) := by decide +kernel
theorem dX10_reckons_162 : decode cX10_reckons 162 = .ok (.iastore, 1) := by decide +kernel
theorem dX10_reckons_163 : decode cX10_reckons 163 = .ok (.goto 33, 3) := by decide +kernel
theorem dX10_reckons_166 : decode cX10_reckons 166 = .ok (.iinc 3 (-1), 3) := by decide +kernel
theorem dX10_reckons_169 : decode cX10_reckons 169 = .ok (.aload_n 0, 1) := by decide +kernel
theorem dX10_reckons_170 : decode cX10_reckons 170 = .ok (.getfield 30, 3) := by decide +kernel
theorem dX10_reckons_173 : decode cX10_reckons 173 = .ok (.iload_n 3, 1) := by decide +kernel
theorem dX10_reckons_174 : decode cX10_reckons 174 = .ok (.iconst 1, 1) := by decide +kernel
theorem dX10_reckons_175 : decode cX10_reckons 175 = .ok (.isub, 1) := by decide +kernel
theorem dX10_reckons_176 : decode cX10_reckons 176 = .ok (.iload 5, 2) := by decide +kernel
theorem dX10_reckons_178 : decode cX10_reckons 178 = .ok (.aload_n 0, 1) := by decide +kernel
theorem dX10_reckons_179 : decode cX10_reckons 179 = .ok (.getfield 30, 3) := by decide +kernel
theorem dX10_reckons_182 : decode cX10_reckons 182 = .ok (.iload_n 3, 1) := by decide +kernel
theorem dX10_reckons_183 : decode cX10_reckons 183 = .ok (.iconst 1, 1) := by decide +kernel
theorem dX10_reckons_184 : decode cX10_reckons 184 = .ok (.isub, 1) := by decide +kernel
theorem dX10_reckons_185 : decode cX10_reckons 185 = .ok (.iaload, 1) := by decide +kernel
theorem dX10_reckons_186 : decode cX10_reckons 186 = .ok (.aload_n 0, 1) := by decide +kernel
theorem dX10_reckons_187 : decode cX10_reckons 187 = .ok (.getfield 30, 3) := by decide +kernel
theorem dX10_reckons_190 : decode cX10_reckons 190 = .ok (.iload_n 3, 1) := by decide +kernel
theorem dX10_reckons_191 : decode cX10_reckons 191 = .ok (.iaload, 1) := by decide +kernel
theorem dX10_reckons_192 : decode cX10_reckons 192 = .ok (.invokestatic 238, 3) := by decide +kernel
theorem dX10_reckons_195 : decode cX10_reckons 195 = .ok (.iastore, 1) := by decide +kernel
theorem dX10_reckons_196 : decode cX10_reckons 196 = .ok (.iinc 4 1, 3) := by decide +kernel
theorem dX10_reckons_199 : decode cX10_reckons 199 = .ok (.goto (-194), 3) := by decide +kernel
theorem dX10_reckons_202 : decode cX10_reckons 202 = .ok (.aload_n 0, 1) := by decide +kernel
theorem dX10_reckons_203 : decode cX10_reckons 203 = .ok (.getfield 30, 3) := by decide +kernel
theorem dX10_reckons_206 : decode cX10_reckons 206 = .ok (.iconst 0, 1) := by decide +kernel
theorem dX10_reckons_207 : decode cX10_reckons 207 = .ok (.iaload, 1) := by decide +kernel
theorem dX10_reckons_208 : decode cX10_reckons 208 = .ok (.ifCond .ge 7, 3) := by decide +kernel
theorem dX10_reckons_211 : decode cX10_reckons 211 = .ok (.iconst 0, 1) := by decide +kernel
theorem dX10_reckons_212 : decode cX10_reckons 212 = .ok (.goto 23, 3) := by decide +kernel
theorem dX10_reckons_215 : decode cX10_reckons 215 = .ok (.aload_n 0, 1) := by decide +kernel
theorem dX10_reckons_216 : decode cX10_reckons 216 = .ok (.getfield 30, 3) := by decide +kernel
theorem dX10_reckons_219 : decode cX10_reckons 219 = .ok (.iconst 0, 1) := by decide +kernel
theorem dX10_reckons_220 : decode cX10_reckons 220 = .ok (.iaload, 1) := by decide +kernel
theorem dX10_reckons_221 : decode cX10_reckons 221 = .ok (.iload_n 2, 1) := by decide +kernel
theorem dX10_reckons_222 : decode cX10_reckons 222 = .ok (.if_icmp .le 7, 3) := by decide +kernel
theorem dX10_reckons_225 : decode cX10_reckons 225 = .ok (.iload_n 2, 1) := by decide +kernel
theorem dX10_reckons_226 : decode cX10_reckons 226 = .ok (.goto 9, 3) := by decide +kernel
theorem dX10_reckons_229 : decode cX10_reckons 229 = .ok (.aload_n 0, 1) := by decide +kernel
theorem dX10_reckons_230 : decode cX10_reckons 230 = .ok (.getfield 30, 3) := by decide +kernel
theorem dX10_reckons_233 : decode cX10_reckons 233 = .ok (.iconst 0, 1) := by decide +kernel
theorem dX10_reckons_234 : decode cX10_reckons 234 = .ok (.iaload, 1) := by decide +kernel
theorem dX10_reckons_235 : decode cX10_reckons 235 = .ok (.ireturn, 1) := by decide +kernel
theorem dX10_noiseOf_0 : decode cX10_noiseOf 0 = .ok (.iload_n 2, 1) := by decide +kernel
theorem dX10_noiseOf_1 : decode cX10_noiseOf 1 = .ok (.aload_n 0, 1) := by decide +kernel
theorem dX10_noiseOf_2 : decode cX10_noiseOf 2 = .ok (.getfield 13, 3) := by decide +kernel
theorem dX10_noiseOf_5 : decode cX10_noiseOf 5 = .ok (.iconst 2, 1) := by decide +kernel
theorem dX10_noiseOf_6 : decode cX10_noiseOf 6 = .ok (.iaload, 1) := by decide +kernel
theorem dX10_noiseOf_7 : decode cX10_noiseOf 7 = .ok (.if_icmp .ge 14, 3) := by decide +kernel
theorem dX10_noiseOf_10 : decode cX10_noiseOf 10 = .ok (.aload_n 0, 1) := by decide +kernel
theorem dX10_noiseOf_11 : decode cX10_noiseOf 11 = .ok (.getfield 13, 3) := by decide +kernel
theorem dX10_noiseOf_14 : decode cX10_noiseOf 14 = .ok (.iconst 2, 1) := by decide +kernel
theorem dX10_noiseOf_15 : decode cX10_noiseOf 15 = .ok (.iaload, 1) := by decide +kernel
theorem dX10_noiseOf_16 : decode cX10_noiseOf 16 = .ok (.iload_n 2, 1) := by decide +kernel
theorem dX10_noiseOf_17 : decode cX10_noiseOf 17 = .ok (.isub, 1) := by decide +kernel
theorem dX10_noiseOf_18 : decode cX10_noiseOf 18 = .ok (.goto 11, 3) := by decide +kernel
theorem dX10_noiseOf_21 : decode cX10_noiseOf 21 = .ok (.iload_n 2, 1) := by decide +kernel
theorem dX10_noiseOf_22 : decode cX10_noiseOf 22 = .ok (.aload_n 0, 1) := by decide +kernel
theorem dX10_noiseOf_23 : decode cX10_noiseOf 23 = .ok (.getfield 13, 3) := by decide +kernel
theorem dX10_noiseOf_26 : decode cX10_noiseOf 26 = .ok (.iconst 2, 1) := by decide +kernel
theorem dX10_noiseOf_27 : decode cX10_noiseOf 27 = .ok (.iaload, 1) := by decide +kernel
theorem dX10_noiseOf_28 : decode cX10_noiseOf 28 = .ok (.isub, 1) := by decide +kernel
theorem dX10_noiseOf_29 : decode cX10_noiseOf 29 = .ok (.istore 5, 2) := by decide +kernel
theorem dX10_noiseOf_31 : decode cX10_noiseOf 31 = .ok (.aload_n 0, 1) := by decide +kernel
theorem dX10_noiseOf_32 : decode cX10_noiseOf 32 = .ok (.getfield 13, 3) := by decide +kernel
theorem dX10_noiseOf_35 : decode cX10_noiseOf 35 = .ok (.bipush 8, 2) := by decide +kernel
theorem dX10_noiseOf_37 : decode cX10_noiseOf 37 = .ok (.iaload, 1) := by decide +kernel
theorem dX10_noiseOf_38 : decode cX10_noiseOf 38 = .ok (.ifCond .ne 34, 3) := by decide +kernel
theorem dX10_noiseOf_41 : decode cX10_noiseOf 41 = .ok (.aload_n 0, 1) := by decide +kernel
theorem dX10_noiseOf_42 : decode cX10_noiseOf 42 = .ok (.getfield 13, 3) := by decide +kernel
theorem dX10_noiseOf_45 : decode cX10_noiseOf 45 = .ok (.bipush 14, 2) := by decide +kernel
theorem dX10_noiseOf_47 : decode cX10_noiseOf 47 = .ok (.iload_n 1, 1) := by decide +kernel
theorem dX10_noiseOf_48 : decode cX10_noiseOf 48 = .ok (.iadd, 1) := by decide +kernel
theorem dX10_noiseOf_49 : decode cX10_noiseOf 49 = .ok (.iaload, 1) := by decide +kernel
theorem dX10_noiseOf_50 : decode cX10_noiseOf 50 = .ok (.iload 5, 2) := by decide +kernel
theorem dX10_noiseOf_52 : decode cX10_noiseOf 52 = .ok (.if_icmp .le 18, 3) := by decide +kernel
theorem dX10_noiseOf_55 : decode cX10_noiseOf 55 = .ok (.aload_n 0, 1) := by decide +kernel
theorem dX10_noiseOf_56 : decode cX10_noiseOf 56 = .ok (.getfield 13, 3) := by decide +kernel
theorem dX10_noiseOf_59 : decode cX10_noiseOf 59 = .ok (.bipush 14, 2) := by decide +kernel
theorem dX10_noiseOf_61 : decode cX10_noiseOf 61 = .ok (.iload_n 1, 1) := by decide +kernel
theorem dX10_noiseOf_62 : decode cX10_noiseOf 62 = .ok (.iadd, 1) := by decide +kernel
theorem dX10_noiseOf_63 : decode cX10_noiseOf 63 = .ok (.iaload, 1) := by decide +kernel
theorem dX10_noiseOf_64 : decode cX10_noiseOf 64 = .ok (.iload 5, 2) := by decide +kernel
theorem dX10_noiseOf_66 : decode cX10_noiseOf 66 = .ok (.isub, 1) := by decide +kernel
theorem dX10_noiseOf_67 : decode cX10_noiseOf 67 = .ok (.goto 4, 3) := by decide +kernel
theorem dX10_noiseOf_70 : decode cX10_noiseOf 70 = .ok (.iconst 0, 1) := by decide +kernel
theorem dX10_noiseOf_71 : decode cX10_noiseOf 71 = .ok (.ireturn, 1) := by decide +kernel
theorem dX10_noiseOf_72 : decode cX10_noiseOf 72 = .ok (.aload_n 0, 1) := by decide +kernel
theorem dX10_noiseOf_73 : decode cX10_noiseOf 73 = .ok (.getfield 33, 3) := by decide +kernel
theorem dX10_noiseOf_76 : decode cX10_noiseOf 76 = .ok (.iconst 0, 1) := by decide +kernel
theorem dX10_noiseOf_77 : decode cX10_noiseOf 77 = .ok (.iload 4, 2) := by decide +kernel
theorem dX10_noiseOf_79 : decode cX10_noiseOf 79 = .ok (.iastore, 1) := by decide +kernel
theorem dX10_noiseOf_80 : decode cX10_noiseOf 80 = .ok (.aload_n 0, 1) := by decide +kernel
theorem dX10_noiseOf_81 : decode cX10_noiseOf 81 = .ok (.getfield 33, 3) := by decide +kernel
theorem dX10_noiseOf_84 : decode cX10_noiseOf 84 = .ok (.iconst 1, 1) := by decide +kernel
theorem dX10_noiseOf_85 : decode cX10_noiseOf 85 = .ok (.iload_n 3, 1) := by decide +kernel
theorem dX10_noiseOf_86 : decode cX10_noiseOf 86 = .ok (.iastore, 1) := by decide +kernel
theorem dX10_noiseOf_87 : decode cX10_noiseOf 87 = .ok (.aload_n 0, 1) := by decide +kernel
theorem dX10_noiseOf_88 : decode cX10_noiseOf 88 = .ok (.getfield 33, 3) := by decide +kernel
theorem dX10_noiseOf_91 : decode cX10_noiseOf 91 = .ok (.iconst 2, 1) := by decide +kernel
theorem dX10_noiseOf_92 : decode cX10_noiseOf 92 = .ok (.iload_n 1, 1) := by decide +kernel
theorem dX10_noiseOf_93 : decode cX10_noiseOf 93 = .ok (.iastore, 1) := by decide +kernel
theorem dX10_noiseOf_94 : decode cX10_noiseOf 94 = .ok (.aload_n 0, 1) := by decide +kernel
theorem dX10_noiseOf_95 : decode cX10_noiseOf 95 = .ok (.getfield 33, 3) := by decide +kernel
theorem dX10_noiseOf_98 : decode cX10_noiseOf 98 = .ok (.iconst 3, 1) := by decide +kernel
theorem dX10_noiseOf_99 : decode cX10_noiseOf 99 = .ok (.aload_n 0, 1) := by decide +kernel
theorem dX10_noiseOf_100 : decode cX10_noiseOf 100 = .ok (.getfield 13, 3) := by decide +kernel
theorem dX10_noiseOf_103 : decode cX10_noiseOf 103 = .ok (.bipush 14, 2) := by decide +kernel
theorem dX10_noiseOf_105 : decode cX10_noiseOf 105 = .ok (.iload_n 1, 1) := by decide +kernel
theorem dX10_noiseOf_106 : decode cX10_noiseOf 106 = .ok (.iadd, 1) := by decide +kernel
theorem dX10_noiseOf_107 : decode cX10_noiseOf 107 = .ok (.iaload, 1) := by decide +kernel
theorem dX10_noiseOf_108 : decode cX10_noiseOf 108 = .ok (.iastore, 1) := by decide +kernel
theorem dX10_noiseOf_109 : decode cX10_noiseOf 109 = .ok (.aload_n 0, 1) := by decide +kernel
theorem dX10_noiseOf_110 : decode cX10_noiseOf 110 = .ok (.getfield 33, 3) := by decide +kernel
theorem dX10_noiseOf_113 : decode cX10_noiseOf 113 = .ok (.iconst 4, 1) := by decide +kernel
theorem dX10_noiseOf_114 : decode cX10_noiseOf 114 = .ok (.aload_n 0, 1) := by decide +kernel
theorem dX10_noiseOf_115 : decode cX10_noiseOf 115 = .ok (.getfield 13, 3) := by decide +kernel
theorem dX10_noiseOf_118 : decode cX10_noiseOf 118 = .ok (.bipush 18, 2) := by decide +kernel
theorem dX10_noiseOf_120 : decode cX10_noiseOf 120 = .ok (.iload_n 1, 1) := by decide +kernel
theorem dX10_noiseOf_121 : decode cX10_noiseOf 121 = .ok (.iadd, 1) := by decide +kernel
theorem dX10_noiseOf_122 : decode cX10_noiseOf 122 = .ok (.iaload, 1) := by decide +kernel
theorem dX10_noiseOf_123 : decode cX10_noiseOf 123 = .ok (.iastore, 1) := by decide +kernel
theorem dX10_noiseOf_124 : decode cX10_noiseOf 124 = .ok (.aload_n 0, 1) := by decide +kernel
theorem dX10_noiseOf_125 : decode cX10_noiseOf 125 = .ok (.getfield 33, 3) := by decide +kernel
theorem dX10_noiseOf_128 : decode cX10_noiseOf 128 = .ok (.iconst 5, 1) := by decide +kernel
theorem dX10_noiseOf_129 : decode cX10_noiseOf 129 = .ok (.iload 5, 2) := by decide +kernel
theorem dX10_noiseOf_131 : decode cX10_noiseOf 131 = .ok (.iastore, 1) := by decide +kernel
theorem dX10_noiseOf_132 : decode cX10_noiseOf 132 = .ok (.aload_n 0, 1) := by decide +kernel
theorem dX10_noiseOf_133 : decode cX10_noiseOf 133 = .ok (.iconst 0, 1) := by decide +kernel
theorem dX10_noiseOf_134 : decode cX10_noiseOf 134 = .ok (.bipush 99, 2) := by decide +kernel
theorem dX10_noiseOf_136 : decode cX10_noiseOf 136 = .ok (.invokevirtual 242, 3) := by decide +kernel
theorem dX10_noiseOf_139 : decode cX10_noiseOf 139 = .ok (.ireturn, 1) := by decide +kernel
theorem dX10_hourTo_0 : decode cX10_hourTo 0 = .ok (.iload_n 3, 1) := by decide +kernel
theorem dX10_hourTo_1 : decode cX10_hourTo 1 = .ok (.istore 5, 2) := by decide +kernel
theorem dX10_hourTo_3 : decode cX10_hourTo 3 = .ok (.iload_n 1, 1) := by decide +kernel
theorem dX10_hourTo_4 : decode cX10_hourTo 4 = .ok (.sipush 4095, 3) := by decide +kernel
theorem dX10_hourTo_7 : decode cX10_hourTo 7 = .ok (.iand, 1) := by decide +kernel
theorem dX10_hourTo_8 : decode cX10_hourTo 8 = .ok (.istore 6, 2) := by decide +kernel
theorem dX10_hourTo_10 : decode cX10_hourTo 10 = .ok (.iload_n 1, 1) := by decide +kernel
theorem dX10_hourTo_11 : decode cX10_hourTo 11 = .ok (.invokestatic 231, 3) := by decide +kernel
theorem dX10_hourTo_14 : decode cX10_hourTo 14 = .ok (.istore 7, 2) := by decide +kernel
theorem dX10_hourTo_16 : decode cX10_hourTo 16 = .ok (.iconst 0, 1) := by decide +kernel
theorem dX10_hourTo_17 : decode cX10_hourTo 17 = .ok (.istore 8, 2) := by decide +kernel
theorem dX10_hourTo_19 : decode cX10_hourTo 19 = .ok (.iload 8, 2) := by decide +kernel
theorem dX10_hourTo_21 : decode cX10_hourTo 21 = .ok (.aload_n 0, 1) := by decide +kernel
theorem dX10_hourTo_22 : decode cX10_hourTo 22 = .ok (.getfield 13, 3) := by decide +kernel
theorem dX10_hourTo_25 : decode cX10_hourTo 25 = .ok (.iconst 3, 1) := by decide +kernel
theorem dX10_hourTo_26 : decode cX10_hourTo 26 = .ok (.iaload, 1) := by decide +kernel
theorem dX10_hourTo_27 : decode cX10_hourTo 27 = .ok (.if_icmp .ge 56, 3) := by decide +kernel
theorem dX10_hourTo_30 : decode cX10_hourTo 30 = .ok (.iload_n 2, 1) := by decide +kernel
theorem dX10_hourTo_31 : decode cX10_hourTo 31 = .ok (.i2l, 1) := by decide +kernel
theorem dX10_hourTo_32 : decode cX10_hourTo 32 = .ok (.iload 8, 2) := by decide +kernel
theorem dX10_hourTo_34 : decode cX10_hourTo 34 = .ok (.invokestatic 245, 3) := by decide +kernel
theorem dX10_hourTo_37 : decode cX10_hourTo 37 = .ok (.ifCond .ne 6, 3) := by decide +kernel
theorem dX10_hourTo_40 : decode cX10_hourTo 40 = .ok (.goto 37, 3) := by decide +kernel
theorem dX10_hourTo_43 : decode cX10_hourTo 43 = .ok (.iload 5, 2) := by decide +kernel
theorem dX10_hourTo_45 : decode cX10_hourTo 45 = .ok (.aload_n 0, 1) := by decide +kernel
theorem dX10_hourTo_46 : decode cX10_hourTo 46 = .ok (.iload 8, 2) := by decide +kernel
theorem dX10_hourTo_48 : decode cX10_hourTo 48 = .ok (.iload_n 1, 1) := by decide +kernel
theorem dX10_hourTo_49 : decode cX10_hourTo 49 = .ok (.iload 8, 2) := by decide +kernel
theorem dX10_hourTo_51 : decode cX10_hourTo 51 = .ok (.invokestatic 228, 3) := by decide +kernel
theorem dX10_hourTo_54 : decode cX10_hourTo 54 = .ok (.iconst 1, 1) := by decide +kernel
theorem dX10_hourTo_55 : decode cX10_hourTo 55 = .ok (.iadd, 1) := by decide +kernel
theorem dX10_hourTo_56 : decode cX10_hourTo 56 = .ok (.iload 7, 2) := by decide +kernel
theorem dX10_hourTo_58 : decode cX10_hourTo 58 = .ok (.iload 4, 2) := by decide +kernel
theorem dX10_hourTo_60 : decode cX10_hourTo 60 = .ok (.invokevirtual 249, 3) := by decide +kernel
theorem dX10_hourTo_63 : decode cX10_hourTo 63 = .ok (.iadd, 1) := by decide +kernel
theorem dX10_hourTo_64 : decode cX10_hourTo 64 = .ok (.istore 5, 2) := by decide +kernel
theorem dX10_hourTo_66 : decode cX10_hourTo 66 = .ok (.iload 6, 2) := by decide +kernel
theorem dX10_hourTo_68 : decode cX10_hourTo 68 = .ok (.iconst 1, 1) := by decide +kernel
theorem dX10_hourTo_69 : decode cX10_hourTo 69 = .ok (.iconst 3, 1) := by decide +kernel
theorem dX10_hourTo_70 : decode cX10_hourTo 70 = .ok (.iload 8, 2) := by decide +kernel
theorem dX10_hourTo_72 : decode cX10_hourTo 72 = .ok (.imul, 1) := by decide +kernel
theorem dX10_hourTo_73 : decode cX10_hourTo 73 = .ok (.ishl, 1) := by decide +kernel
theorem dX10_hourTo_74 : decode cX10_hourTo 74 = .ok (.iadd, 1) := by decide +kernel
theorem dX10_hourTo_75 : decode cX10_hourTo 75 = .ok (.istore 6, 2) := by decide +kernel
theorem dX10_hourTo_77 : decode cX10_hourTo 77 = .ok (.iinc 8 1, 3) := by decide +kernel
theorem dX10_hourTo_80 : decode cX10_hourTo 80 = .ok (.goto (-61), 3) := by decide +kernel
theorem dX10_hourTo_83 : decode cX10_hourTo 83 = .ok (.aload_n 0, 1) := by decide +kernel
theorem dX10_hourTo_84 : decode cX10_hourTo 84 = .ok (.getfield 13, 3) := by decide +kernel
theorem dX10_hourTo_87 : decode cX10_hourTo 87 = .ok (.bipush 9, 2) := by decide +kernel
theorem dX10_hourTo_89 : decode cX10_hourTo 89 = .ok (.iaload, 1) := by decide +kernel
theorem dX10_hourTo_90 : decode cX10_hourTo 90 = .ok (.ifCond .ne 52, 3) := by decide +kernel
theorem dX10_hourTo_93 : decode cX10_hourTo 93 = .ok (.iload 5, 2) := by decide +kernel
theorem dX10_hourTo_95 : decode cX10_hourTo 95 = .ok (.ifCond .ne 10, 3) := by decide +kernel
theorem dX10_hourTo_98 : decode cX10_hourTo 98 = .ok (.iload 7, 2) := by decide +kernel
theorem dX10_hourTo_100 : decode cX10_hourTo 100 = .ok (.iconst 1, 1) := by decide +kernel
theorem dX10_hourTo_101 : decode cX10_hourTo 101 = .ok (.iadd, 1) := by decide +kernel
theorem dX10_hourTo_102 : decode cX10_hourTo 102 = .ok (.goto 8, 3) := by decide +kernel
theorem dX10_hourTo_105 : decode cX10_hourTo 105 = .ok (.iload 7, 2) := by decide +kernel
theorem dX10_hourTo_107 : decode cX10_hourTo 107 = .ok (.iload 5, 2) := by decide +kernel
theorem dX10_hourTo_109 : decode cX10_hourTo 109 = .ok (.isub, 1) := by decide +kernel
theorem dX10_hourTo_110 : decode cX10_hourTo 110 = .ok (.istore 8, 2) := by decide +kernel
theorem dX10_hourTo_112 : decode cX10_hourTo 112 = .ok (.iload 6, 2) := by decide +kernel
theorem dX10_hourTo_114 : decode cX10_hourTo 114 = .ok (.iload 8, 2) := by decide +kernel
theorem dX10_hourTo_116 : decode cX10_hourTo 116 = .ok (.ifCond .ge 7, 3) := by decide +kernel
theorem dX10_hourTo_119 : decode cX10_hourTo 119 = .ok (.iconst 0, 1) := by decide +kernel
theorem dX10_hourTo_120 : decode cX10_hourTo 120 = .ok (.goto 17, 3) := by decide +kernel
theorem dX10_hourTo_123 : decode cX10_hourTo 123 = .ok (.iload 8, 2) := by decide +kernel
theorem dX10_hourTo_125 : decode cX10_hourTo 125 = .ok (.bipush 9, 2) := by decide +kernel
theorem dX10_hourTo_127 : decode cX10_hourTo 127 = .ok (.if_icmp .le 8, 3) := by decide +kernel
theorem dX10_hourTo_130 : decode cX10_hourTo 130 = .ok (.bipush 9, 2) := by decide +kernel
theorem dX10_hourTo_132 : decode cX10_hourTo 132 = .ok (.goto 5, 3) := by decide +kernel
theorem dX10_hourTo_135 : decode cX10_hourTo 135 = .ok (.iload 8, 2) := by decide +kernel
theorem dX10_hourTo_137 : decode cX10_hourTo 137 = .ok (.bipush 12, 2) := by decide +kernel
theorem dX10_hourTo_139 : decode cX10_hourTo 139 = .ok (.ishl, 1) := by decide +kernel
theorem dX10_hourTo_140 : decode cX10_hourTo 140 = .ok (.ior, 1) := by decide +kernel
theorem dX10_hourTo_141 : decode cX10_hourTo 141 = .ok (.ireturn, 1) := by decide +kernel
theorem dX10_hourTo_142 : decode cX10_hourTo 142 = .ok (.aload_n 0, 1) := by decide +kernel
theorem dX10_hourTo_143 : decode cX10_hourTo 143 = .ok (.getfield 33, 3) := by decide +kernel
theorem dX10_hourTo_146 : decode cX10_hourTo 146 = .ok (.iconst 0, 1) := by decide +kernel
theorem dX10_hourTo_147 : decode cX10_hourTo 147 = .ok (.iload 4, 2) := by decide +kernel
theorem dX10_hourTo_149 : decode cX10_hourTo 149 = .ok (.iastore, 1) := by decide +kernel
theorem dX10_hourTo_150 : decode cX10_hourTo 150 = .ok (.aload_n 0, 1) := by decide +kernel
theorem dX10_hourTo_151 : decode cX10_hourTo 151 = .ok (.getfield 33, 3) := by decide +kernel
theorem dX10_hourTo_154 : decode cX10_hourTo 154 = .ok (.iconst 1, 1) := by decide +kernel
theorem dX10_hourTo_155 : decode cX10_hourTo 155 = .ok (.iload 7, 2) := by decide +kernel
theorem dX10_hourTo_157 : decode cX10_hourTo 157 = .ok (.iastore, 1) := by decide +kernel
theorem dX10_hourTo_158 : decode cX10_hourTo 158 = .ok (.aload_n 0, 1) := by decide +kernel
theorem dX10_hourTo_159 : decode cX10_hourTo 159 = .ok (.getfield 33, 3) := by decide +kernel
theorem dX10_hourTo_162 : decode cX10_hourTo 162 = .ok (.bipush 6, 2) := by decide +kernel
theorem dX10_hourTo_164 : decode cX10_hourTo 164 = .ok (.iload 5, 2) := by decide +kernel
theorem dX10_hourTo_166 : decode cX10_hourTo 166 = .ok (.iastore, 1) := by decide +kernel
theorem dX10_hourTo_167 : decode cX10_hourTo 167 = .ok (.aload_n 0, 1) := by decide +kernel
theorem dX10_hourTo_168 : decode cX10_hourTo 168 = .ok (.getfield 33, 3) := by decide +kernel
theorem dX10_hourTo_171 : decode cX10_hourTo 171 = .ok (.bipush 7, 2) := by decide +kernel
theorem dX10_hourTo_173 : decode cX10_hourTo 173 = .ok (.iload_n 2, 1) := by decide +kernel
theorem dX10_hourTo_174 : decode cX10_hourTo 174 = .ok (.invokestatic 253, 3) := by decide +kernel
theorem dX10_hourTo_177 : decode cX10_hourTo 177 = .ok (.iastore, 1) := by decide +kernel
theorem dX10_hourTo_178 : decode cX10_hourTo 178 = .ok (.aload_n 0, 1) := by decide +kernel
theorem dX10_hourTo_179 : decode cX10_hourTo 179 = .ok (.getfield 33, 3) := by decide +kernel
theorem dX10_hourTo_182 : decode cX10_hourTo 182 = .ok (.bipush 8, 2) := by decide +kernel
theorem dX10_hourTo_184 : decode cX10_hourTo 184 = .ok (.aload_n 0, 1) := by decide +kernel
theorem dX10_hourTo_185 : decode cX10_hourTo 185 = .ok (.iload 6, 2) := by decide +kernel
theorem dX10_hourTo_187 : decode cX10_hourTo 187 = .ok (.invokevirtual 256, 3) := by decide +kernel
theorem dX10_hourTo_190 : decode cX10_hourTo 190 = .ok (.invokestatic 253, 3) := by decide +kernel
theorem dX10_hourTo_193 : decode cX10_hourTo 193 = .ok (.iastore, 1) := by decide +kernel
theorem dX10_hourTo_194 : decode cX10_hourTo 194 = .ok (.iload 6, 2) := by decide +kernel
theorem dX10_hourTo_196 : decode cX10_hourTo 196 = .ok (.aload_n 0, 1) := by decide +kernel
theorem dX10_hourTo_197 : decode cX10_hourTo 197 = .ok (.iconst 1, 1) := by decide +kernel
theorem dX10_hourTo_198 : decode cX10_hourTo 198 = .ok (.bipush 9, 2) := by decide +kernel
theorem dX10_hourTo_200 : decode cX10_hourTo 200 = .ok (.invokevirtual 242, 3) := by decide +kernel
theorem dX10_hourTo_203 : decode cX10_hourTo 203 = .ok (.bipush 12, 2) := by decide +kernel
theorem dX10_hourTo_205 : decode cX10_hourTo 205 = .ok (.ishl, 1) := by decide +kernel
theorem dX10_hourTo_206 : decode cX10_hourTo 206 = .ok (.ior, 1) := by decide +kernel
theorem dX10_hourTo_207 : decode cX10_hourTo 207 = .ok (.ireturn, 1) := by decide +kernel
theorem dX10_whyBy_0 : decode cX10_whyBy 0 = .ok (.aload_n 0, 1) := by decide +kernel
theorem dX10_whyBy_1 : decode cX10_whyBy 1 = .ok (.lload_n 2, 1) := by decide +kernel
theorem dX10_whyBy_2 : decode cX10_whyBy 2 = .ok (.invokevirtual 259, 3) := by decide +kernel
theorem dX10_whyBy_5 : decode cX10_whyBy 5 = .ok (.ifCond .ne 7, 3) := by decide +kernel
theorem dX10_whyBy_8 : decode cX10_whyBy 8 = .ok (.iconst 1, 1) := by decide +kernel
theorem dX10_whyBy_9 : decode cX10_whyBy 9 = .ok (.goto 30, 3) := by decide +kernel
theorem dX10_whyBy_12 : decode cX10_whyBy 12 = .ok (.aload_n 0, 1) := by decide +kernel
theorem dX10_whyBy_13 : decode cX10_whyBy 13 = .ok (.iload_n 1, 1) := by decide +kernel
theorem dX10_whyBy_14 : decode cX10_whyBy 14 = .ok (.invokevirtual 256, 3) := by decide +kernel
theorem dX10_whyBy_17 : decode cX10_whyBy 17 = .ok (.lload_n 2, 1) := by decide +kernel
theorem dX10_whyBy_18 : decode cX10_whyBy 18 = .ok (.l2i, 1) := by decide +kernel
theorem dX10_whyBy_19 : decode cX10_whyBy 19 = .ok (.iand, 1) := by decide +kernel
theorem dX10_whyBy_20 : decode cX10_whyBy 20 = .ok (.ifCond .eq 7, 3) := by decide +kernel
theorem dX10_whyBy_23 : decode cX10_whyBy 23 = .ok (.iconst 2, 1) := by decide +kernel
theorem dX10_whyBy_24 : decode cX10_whyBy 24 = .ok (.goto 15, 3) := by decide +kernel
theorem dX10_whyBy_27 : decode cX10_whyBy 27 = .ok (.iload_n 1, 1) := by decide +kernel
theorem dX10_whyBy_28 : decode cX10_whyBy 28 = .ok (.invokestatic 231, 3) := by decide +kernel
theorem dX10_whyBy_31 : decode cX10_whyBy 31 = .ok (.ifCond .ne 7, 3) := by decide +kernel
theorem dX10_whyBy_34 : decode cX10_whyBy 34 = .ok (.iconst 3, 1) := by decide +kernel
theorem dX10_whyBy_35 : decode cX10_whyBy 35 = .ok (.goto 4, 3) := by decide +kernel
theorem dX10_whyBy_38 : decode cX10_whyBy 38 = .ok (.iconst 0, 1) := by decide +kernel
theorem dX10_whyBy_39 : decode cX10_whyBy 39 = .ok (.ireturn, 1) := by decide +kernel
theorem dX10_goer_0 : decode cX10_goer 0 = .ok (.aload_n 0, 1) := by decide +kernel
theorem dX10_goer_1 : decode cX10_goer 1 = .ok (.iconst 0, 1) := by decide +kernel
theorem dX10_goer_2 : decode cX10_goer 2 = .ok (.putfield 1, 3) := by decide +kernel
theorem dX10_goer_5 : decode cX10_goer 5 = .ok (.aload_n 0, 1) := by decide +kernel
theorem dX10_goer_6 : decode cX10_goer 6 = .ok (.iload_n 1, 1) := by decide +kernel
theorem dX10_goer_7 : decode cX10_goer 7 = .ok (.invokevirtual 263, 3) := by decide +kernel
theorem dX10_goer_10 : decode cX10_goer 10 = .ok (.ifCond .ne 6, 3) := by decide +kernel
theorem dX10_goer_13 : decode cX10_goer 13 = .ok (.bipush (-2), 2) := by decide +kernel
theorem dX10_goer_15 : decode cX10_goer 15 = .ok (.ireturn, 1) := by decide +kernel
theorem dX10_goer_16 : decode cX10_goer 16 = .ok (.iload_n 2, 1) := by decide +kernel
theorem dX10_goer_17 : decode cX10_goer 17 = .ok (.tableswitch 114 0 3 #[31, 41, 51, 61], 31) := by decide +kernel
theorem dX10_goer_48 : decode cX10_goer 48 = .ok (.aload_n 0, 1) := by decide +kernel
theorem dX10_goer_49 : decode cX10_goer 49 = .ok (.getfield 13, 3) := by decide +kernel
theorem dX10_goer_52 : decode cX10_goer 52 = .ok (.bipush 22, 2) := by decide +kernel
theorem dX10_goer_54 : decode cX10_goer 54 = .ok (.iload_n 1, 1) := by decide +kernel
theorem dX10_goer_55 : decode cX10_goer 55 = .ok (.iadd, 1) := by decide +kernel
theorem dX10_goer_56 : decode cX10_goer 56 = .ok (.iaload, 1) := by decide +kernel
theorem dX10_goer_57 : decode cX10_goer 57 = .ok (.ireturn, 1) := by decide +kernel
theorem dX10_goer_58 : decode cX10_goer 58 = .ok (.aload_n 0, 1) := by decide +kernel
theorem dX10_goer_59 : decode cX10_goer 59 = .ok (.getfield 13, 3) := by decide +kernel
theorem dX10_goer_62 : decode cX10_goer 62 = .ok (.bipush 14, 2) := by decide +kernel
theorem dX10_goer_64 : decode cX10_goer 64 = .ok (.iload_n 1, 1) := by decide +kernel
theorem dX10_goer_65 : decode cX10_goer 65 = .ok (.iadd, 1) := by decide +kernel
theorem dX10_goer_66 : decode cX10_goer 66 = .ok (.iaload, 1) := by decide +kernel
theorem dX10_goer_67 : decode cX10_goer 67 = .ok (.ireturn, 1) := by decide +kernel
theorem dX10_goer_68 : decode cX10_goer 68 = .ok (.aload_n 0, 1) := by decide +kernel
theorem dX10_goer_69 : decode cX10_goer 69 = .ok (.getfield 13, 3) := by decide +kernel
theorem dX10_goer_72 : decode cX10_goer 72 = .ok (.bipush 18, 2) := by decide +kernel
theorem dX10_goer_74 : decode cX10_goer 74 = .ok (.iload_n 1, 1) := by decide +kernel
theorem dX10_goer_75 : decode cX10_goer 75 = .ok (.iadd, 1) := by decide +kernel
theorem dX10_goer_76 : decode cX10_goer 76 = .ok (.iaload, 1) := by decide +kernel
theorem dX10_goer_77 : decode cX10_goer 77 = .ok (.ireturn, 1) := by decide +kernel
theorem dX10_goer_78 : decode cX10_goer 78 = .ok (.aload_n 0, 1) := by decide +kernel
theorem dX10_goer_79 : decode cX10_goer 79 = .ok (.getfield 13, 3) := by decide +kernel
theorem dX10_goer_82 : decode cX10_goer 82 = .ok (.bipush 22, 2) := by decide +kernel
theorem dX10_goer_84 : decode cX10_goer 84 = .ok (.iload_n 1, 1) := by decide +kernel
theorem dX10_goer_85 : decode cX10_goer 85 = .ok (.iadd, 1) := by decide +kernel
theorem dX10_goer_86 : decode cX10_goer 86 = .ok (.iaload, 1) := by decide +kernel
theorem dX10_goer_87 : decode cX10_goer 87 = .ok (.aload_n 0, 1) := by decide +kernel
theorem dX10_goer_88 : decode cX10_goer 88 = .ok (.getfield 13, 3) := by decide +kernel
theorem dX10_goer_91 : decode cX10_goer 91 = .ok (.iconst 1, 1) := by decide +kernel
theorem dX10_goer_92 : decode cX10_goer 92 = .ok (.iaload, 1) := by decide +kernel
theorem dX10_goer_93 : decode cX10_goer 93 = .ok (.if_icmp .ne 7, 3) := by decide +kernel
theorem dX10_goer_96 : decode cX10_goer 96 = .ok (.iconst (-1), 1) := by decide +kernel
theorem dX10_goer_97 : decode cX10_goer 97 = .ok (.goto 33, 3) := by decide +kernel
theorem dX10_goer_100 : decode cX10_goer 100 = .ok (.aload_n 0, 1) := by decide +kernel
theorem dX10_goer_101 : decode cX10_goer 101 = .ok (.iload_n 1, 1) := by decide +kernel
theorem dX10_goer_102 : decode cX10_goer 102 = .ok (.aload_n 0, 1) := by decide +kernel
theorem dX10_goer_103 : decode cX10_goer 103 = .ok (.getfield 13, 3) := by decide +kernel
theorem dX10_goer_106 : decode cX10_goer 106 = .ok (.bipush 22, 2) := by decide +kernel
theorem dX10_goer_108 : decode cX10_goer 108 = .ok (.iload_n 1, 1) := by decide +kernel
theorem dX10_goer_109 : decode cX10_goer 109 = .ok (.iadd, 1) := by decide +kernel
theorem dX10_goer_110 : decode cX10_goer 110 = .ok (.iaload, 1) := by decide +kernel
theorem dX10_goer_111 : decode cX10_goer 111 = .ok (.iconst 1, 1) := by decide +kernel
theorem dX10_goer_112 : decode cX10_goer 112 = .ok (.iadd, 1) := by decide +kernel
theorem dX10_goer_113 : decode cX10_goer 113 = .ok (.aload_n 0, 1) := by decide +kernel
theorem dX10_goer_114 : decode cX10_goer 114 = .ok (.getfield 13, 3) := by decide +kernel
theorem dX10_goer_117 : decode cX10_goer 117 = .ok (.bipush 26, 2) := by decide +kernel
theorem dX10_goer_119 : decode cX10_goer 119 = .ok (.iaload, 1) := by decide +kernel
theorem dX10_goer_120 : decode cX10_goer 120 = .ok (.aload_n 0, 1) := by decide +kernel
theorem dX10_goer_121 : decode cX10_goer 121 = .ok (.getfield 13, 3) := by decide +kernel
theorem dX10_goer_124 : decode cX10_goer 124 = .ok (.bipush 27, 2) := by decide +kernel
theorem dX10_goer_126 : decode cX10_goer 126 = .ok (.iaload, 1) := by decide +kernel
theorem dX10_goer_127 : decode cX10_goer 127 = .ok (.invokevirtual 249, 3) := by decide +kernel
theorem dX10_goer_130 : decode cX10_goer 130 = .ok (.ireturn, 1) := by decide +kernel
theorem dX10_goer_131 : decode cX10_goer 131 = .ok (.bipush (-2), 2) := by decide +kernel
theorem dX10_goer_133 : decode cX10_goer 133 = .ok (.ireturn, 1) := by decide +kernel
theorem dX10_by_0 : decode cX10_by 0 = .ok (.aload_n 0, 1) := by decide +kernel
theorem dX10_by_1 : decode cX10_by 1 = .ok (.iconst 0, 1) := by decide +kernel
theorem dX10_by_2 : decode cX10_by 2 = .ok (.putfield 1, 3) := by decide +kernel
theorem dX10_by_5 : decode cX10_by 5 = .ok (.aload_n 0, 1) := by decide +kernel
theorem dX10_by_6 : decode cX10_by 6 = .ok (.aload_n 0, 1) := by decide +kernel
theorem dX10_by_7 : decode cX10_by 7 = .ok (.invokevirtual 266, 3) := by decide +kernel
theorem dX10_by_10 : decode cX10_by 10 = .ok (.iload_n 1, 1) := by decide +kernel
theorem dX10_by_11 : decode cX10_by 11 = .ok (.i2l, 1) := by decide +kernel
theorem dX10_by_12 : decode cX10_by 12 = .ok (.invokevirtual 269, 3) := by decide +kernel
theorem dX10_by_15 : decode cX10_by 15 = .ok (.istore_n 2, 1) := by decide +kernel
theorem dX10_by_16 : decode cX10_by 16 = .ok (.iload_n 2, 1) := by decide +kernel
theorem dX10_by_17 : decode cX10_by 17 = .ok (.iconst 1, 1) := by decide +kernel
theorem dX10_by_18 : decode cX10_by 18 = .ok (.if_icmp .ne 8, 3) := by decide +kernel
theorem dX10_by_21 : decode cX10_by 21 = .ok (.bipush (-3), 2) := by decide +kernel
theorem dX10_by_23 : decode cX10_by 23 = .ok (.goto 32, 3) := by decide +kernel
theorem dX10_by_26 : decode cX10_by 26 = .ok (.iload_n 2, 1) := by decide +kernel
theorem dX10_by_27 : decode cX10_by 27 = .ok (.ifCond .eq 8, 3) := by decide +kernel
theorem dX10_by_30 : decode cX10_by 30 = .ok (.bipush (-5), 2) := by decide +kernel
theorem dX10_by_32 : decode cX10_by 32 = .ok (.goto 23, 3) := by decide +kernel
theorem dX10_by_35 : decode cX10_by 35 = .ok (.aload_n 0, 1) := by decide +kernel
theorem dX10_by_36 : decode cX10_by 36 = .ok (.aload_n 0, 1) := by decide +kernel
theorem dX10_by_37 : decode cX10_by 37 = .ok (.invokevirtual 266, 3) := by decide +kernel
theorem dX10_by_40 : decode cX10_by 40 = .ok (.iload_n 1, 1) := by decide +kernel
theorem dX10_by_41 : decode cX10_by 41 = .ok (.iconst 0, 1) := by decide +kernel
theorem dX10_by_42 : decode cX10_by 42 = .ok (.aload_n 0, 1) := by decide +kernel
theorem dX10_by_43 : decode cX10_by 43 = .ok (.getfield 13, 3) := by decide +kernel
theorem dX10_by_46 : decode cX10_by 46 = .ok (.bipush 27, 2) := by decide +kernel
theorem dX10_by_48 : decode cX10_by 48 = .ok (.iaload, 1) := by decide +kernel
theorem dX10_by_49 : decode cX10_by 49 = .ok (.invokevirtual 273, 3) := by decide +kernel
theorem dX10_by_52 : decode cX10_by 52 = .ok (.invokestatic 231, 3) := by decide +kernel
theorem dX10_by_55 : decode cX10_by 55 = .ok (.ireturn, 1) := by decide +kernel
theorem dX10_keeps_0 : decode cX10_keeps 0 = .ok (.iconst 0, 1) := by decide +kernel
theorem dX10_keeps_1 : decode cX10_keeps 1 = .ok (.istore_n 1, 1) := by decide +kernel
theorem dX10_keeps_2 : decode cX10_keeps 2 = .ok (.iload_n 1, 1) := by decide +kernel
theorem dX10_keeps_3 : decode cX10_keeps 3 = .ok (.bipush 23, 2) := by decide +kernel
theorem dX10_keeps_5 : decode cX10_keeps 5 = .ok (.if_icmp .ge 24, 3) := by decide +kernel
theorem dX10_keeps_8 : decode cX10_keeps 8 = .ok (.aload_n 0, 1) := by decide +kernel
theorem dX10_keeps_9 : decode cX10_keeps 9 = .ok (.getfield 36, 3) := by decide +kernel
theorem dX10_keeps_12 : decode cX10_keeps 12 = .ok (.iload_n 1, 1) := by decide +kernel
theorem dX10_keeps_13 : decode cX10_keeps 13 = .ok (.aload_n 0, 1) := by decide +kernel
theorem dX10_keeps_14 : decode cX10_keeps 14 = .ok (.getfield 13, 3) := by decide +kernel
theorem dX10_keeps_17 : decode cX10_keeps 17 = .ok (.bipush 22, 2) := by decide +kernel
theorem dX10_keeps_19 : decode cX10_keeps 19 = .ok (.iload_n 1, 1) := by decide +kernel
theorem dX10_keeps_20 : decode cX10_keeps 20 = .ok (.iadd, 1) := by decide +kernel
theorem dX10_keeps_21 : decode cX10_keeps 21 = .ok (.iaload, 1) := by decide +kernel
theorem dX10_keeps_22 : decode cX10_keeps 22 = .ok (.iastore, 1) := by decide +kernel
theorem dX10_keeps_23 : decode cX10_keeps 23 = .ok (.iinc 1 1, 3) := by decide +kernel
theorem dX10_keeps_26 : decode cX10_keeps 26 = .ok (.goto (-24), 3) := by decide +kernel
theorem dX10_keeps_29 : decode cX10_keeps 29 = .ok (.return_, 1) := by decide +kernel
theorem dX10_isAgain_0 : decode cX10_isAgain 0 = .ok (.iconst 0, 1) := by decide +kernel
theorem dX10_isAgain_1 : decode cX10_isAgain 1 = .ok (.istore_n 1, 1) := by decide +kernel
theorem dX10_isAgain_2 : decode cX10_isAgain 2 = .ok (.iload_n 1, 1) := by decide +kernel
theorem dX10_isAgain_3 : decode cX10_isAgain 3 = .ok (.bipush 23, 2) := by decide +kernel
theorem dX10_isAgain_5 : decode cX10_isAgain 5 = .ok (.if_icmp .ge 24, 3) := by decide +kernel
theorem dX10_isAgain_8 : decode cX10_isAgain 8 = .ok (.aload_n 0, 1) := by decide +kernel
theorem dX10_isAgain_9 : decode cX10_isAgain 9 = .ok (.getfield 13, 3) := by decide +kernel
theorem dX10_isAgain_12 : decode cX10_isAgain 12 = .ok (.bipush 22, 2) := by decide +kernel
theorem dX10_isAgain_14 : decode cX10_isAgain 14 = .ok (.iload_n 1, 1) := by decide +kernel
theorem dX10_isAgain_15 : decode cX10_isAgain 15 = .ok (.iadd, 1) := by decide +kernel
theorem dX10_isAgain_16 : decode cX10_isAgain 16 = .ok (.aload_n 0, 1) := by decide +kernel
theorem dX10_isAgain_17 : decode cX10_isAgain 17 = .ok (.getfield 36, 3) := by decide +kernel
theorem dX10_isAgain_20 : decode cX10_isAgain 20 = .ok (.iload_n 1, 1) := by decide +kernel
theorem dX10_isAgain_21 : decode cX10_isAgain 21 = .ok (.iaload, 1) := by decide +kernel
theorem dX10_isAgain_22 : decode cX10_isAgain 22 = .ok (.iastore, 1) := by decide +kernel
theorem dX10_isAgain_23 : decode cX10_isAgain 23 = .ok (.iinc 1 1, 3) := by decide +kernel
theorem dX10_isAgain_26 : decode cX10_isAgain 26 = .ok (.goto (-24), 3) := by decide +kernel
theorem dX10_isAgain_29 : decode cX10_isAgain 29 = .ok (.return_, 1) := by decide +kernel
theorem dX10_notes_0 : decode cX10_notes 0 = .ok (.aload_n 0, 1) := by decide +kernel
theorem dX10_notes_1 : decode cX10_notes 1 = .ok (.getfield 13, 3) := by decide +kernel
theorem dX10_notes_4 : decode cX10_notes 4 = .ok (.bipush 45, 2) := by decide +kernel
theorem dX10_notes_6 : decode cX10_notes 6 = .ok (.iaload, 1) := by decide +kernel
theorem dX10_notes_7 : decode cX10_notes 7 = .ok (.bipush 10, 2) := by decide +kernel
theorem dX10_notes_9 : decode cX10_notes 9 = .ok (.if_icmp .ne 47, 3) := by decide +kernel
theorem dX10_notes_12 : decode cX10_notes 12 = .ok (.iconst 0, 1) := by decide +kernel
theorem dX10_notes_13 : decode cX10_notes 13 = .ok (.istore_n 1, 1) := by decide +kernel
theorem dX10_notes_14 : decode cX10_notes 14 = .ok (.iload_n 1, 1) := by decide +kernel
theorem dX10_notes_15 : decode cX10_notes 15 = .ok (.sipush 207, 3) := by decide +kernel
theorem dX10_notes_18 : decode cX10_notes 18 = .ok (.if_icmp .ge 27, 3) := by decide +kernel
theorem dX10_notes_21 : decode cX10_notes 21 = .ok (.aload_n 0, 1) := by decide +kernel
theorem dX10_notes_22 : decode cX10_notes 22 = .ok (.getfield 13, 3) := by decide +kernel
theorem dX10_notes_25 : decode cX10_notes 25 = .ok (.bipush 46, 2) := by decide +kernel
theorem dX10_notes_27 : decode cX10_notes 27 = .ok (.iload_n 1, 1) := by decide +kernel
theorem dX10_notes_28 : decode cX10_notes 28 = .ok (.iadd, 1) := by decide +kernel
theorem dX10_notes_29 : decode cX10_notes 29 = .ok (.aload_n 0, 1) := by decide +kernel
theorem dX10_notes_30 : decode cX10_notes 30 = .ok (.getfield 13, 3) := by decide +kernel
theorem dX10_notes_33 : decode cX10_notes 33 = .ok (.bipush 69, 2) := by decide +kernel
theorem dX10_notes_35 : decode cX10_notes 35 = .ok (.iload_n 1, 1) := by decide +kernel
theorem dX10_notes_36 : decode cX10_notes 36 = .ok (.iadd, 1) := by decide +kernel
theorem dX10_notes_37 : decode cX10_notes 37 = .ok (.iaload, 1) := by decide +kernel
theorem dX10_notes_38 : decode cX10_notes 38 = .ok (.iastore, 1) := by decide +kernel
theorem dX10_notes_39 : decode cX10_notes 39 = .ok (.iinc 1 1, 3) := by decide +kernel
theorem dX10_notes_42 : decode cX10_notes 42 = .ok (.goto (-28), 3) := by decide +kernel
theorem dX10_notes_45 : decode cX10_notes 45 = .ok (.aload_n 0, 1) := by decide +kernel
theorem dX10_notes_46 : decode cX10_notes 46 = .ok (.getfield 13, 3) := by decide +kernel
theorem dX10_notes_49 : decode cX10_notes 49 = .ok (.bipush 45, 2) := by decide +kernel
theorem dX10_notes_51 : decode cX10_notes 51 = .ok (.dup2, 1) := by decide +kernel
theorem dX10_notes_52 : decode cX10_notes 52 = .ok (.iaload, 1) := by decide +kernel
theorem dX10_notes_53 : decode cX10_notes 53 = .ok (.iconst 1, 1) := by decide +kernel
theorem dX10_notes_54 : decode cX10_notes 54 = .ok (.isub, 1) := by decide +kernel
theorem dX10_notes_55 : decode cX10_notes 55 = .ok (.iastore, 1) := by decide +kernel
theorem dX10_notes_56 : decode cX10_notes 56 = .ok (.iconst 0, 1) := by decide +kernel
theorem dX10_notes_57 : decode cX10_notes 57 = .ok (.istore_n 1, 1) := by decide +kernel
theorem dX10_notes_58 : decode cX10_notes 58 = .ok (.iload_n 1, 1) := by decide +kernel
theorem dX10_notes_59 : decode cX10_notes 59 = .ok (.bipush 23, 2) := by decide +kernel
theorem dX10_notes_61 : decode cX10_notes 61 = .ok (.if_icmp .ge 35, 3) := by decide +kernel
theorem dX10_notes_64 : decode cX10_notes 64 = .ok (.aload_n 0, 1) := by decide +kernel
theorem dX10_notes_65 : decode cX10_notes 65 = .ok (.getfield 13, 3) := by decide +kernel
theorem dX10_notes_68 : decode cX10_notes 68 = .ok (.bipush 46, 2) := by decide +kernel
theorem dX10_notes_70 : decode cX10_notes 70 = .ok (.bipush 23, 2) := by decide +kernel
theorem dX10_notes_72 : decode cX10_notes 72 = .ok (.aload_n 0, 1) := by decide +kernel
theorem dX10_notes_73 : decode cX10_notes 73 = .ok (.getfield 13, 3) := by decide +kernel
theorem dX10_notes_76 : decode cX10_notes 76 = .ok (.bipush 45, 2) := by decide +kernel
theorem dX10_notes_78 : decode cX10_notes 78 = .ok (.iaload, 1) := by decide +kernel
theorem dX10_notes_79 : decode cX10_notes 79 = .ok (.imul, 1) := by decide +kernel
theorem dX10_notes_80 : decode cX10_notes 80 = .ok (.iadd, 1) := by decide +kernel
theorem dX10_notes_81 : decode cX10_notes 81 = .ok (.iload_n 1, 1) := by decide +kernel
theorem dX10_notes_82 : decode cX10_notes 82 = .ok (.iadd, 1) := by decide +kernel
theorem dX10_notes_83 : decode cX10_notes 83 = .ok (.aload_n 0, 1) := by decide +kernel
theorem dX10_notes_84 : decode cX10_notes 84 = .ok (.getfield 36, 3) := by decide +kernel
theorem dX10_notes_87 : decode cX10_notes 87 = .ok (.iload_n 1, 1) := by decide +kernel
theorem dX10_notes_88 : decode cX10_notes 88 = .ok (.iaload, 1) := by decide +kernel
theorem dX10_notes_89 : decode cX10_notes 89 = .ok (.iastore, 1) := by decide +kernel
theorem dX10_notes_90 : decode cX10_notes 90 = .ok (.iinc 1 1, 3) := by decide +kernel
theorem dX10_notes_93 : decode cX10_notes 93 = .ok (.goto (-35), 3) := by decide +kernel
theorem dX10_notes_96 : decode cX10_notes 96 = .ok (.aload_n 0, 1) := by decide +kernel
theorem dX10_notes_97 : decode cX10_notes 97 = .ok (.getfield 13, 3) := by decide +kernel
theorem dX10_notes_100 : decode cX10_notes 100 = .ok (.bipush 45, 2) := by decide +kernel
theorem dX10_notes_102 : decode cX10_notes 102 = .ok (.dup2, 1) := by decide +kernel
theorem dX10_notes_103 : decode cX10_notes 103 = .ok (.iaload, 1) := by decide +kernel
theorem dX10_notes_104 : decode cX10_notes 104 = .ok (.iconst 1, 1) := by decide +kernel
theorem dX10_notes_105 : decode cX10_notes 105 = .ok (.iadd, 1) := by decide +kernel
theorem dX10_notes_106 : decode cX10_notes 106 = .ok (.iastore, 1) := by decide +kernel
theorem dX10_notes_107 : decode cX10_notes 107 = .ok (.return_, 1) := by decide +kernel
theorem dX10_goesHour_0 : decode cX10_goesHour 0 = .ok (.aload_n 0, 1) := by decide +kernel
theorem dX10_goesHour_1 : decode cX10_goesHour 1 = .ok (.aload_n 0, 1) := by decide +kernel
theorem dX10_goesHour_2 : decode cX10_goesHour 2 = .ok (.aload_n 0, 1) := by decide +kernel
theorem dX10_goesHour_3 : decode cX10_goesHour 3 = .ok (.invokevirtual 266, 3) := by decide +kernel
theorem dX10_goesHour_6 : decode cX10_goesHour 6 = .ok (.iload_n 1, 1) := by decide +kernel
theorem dX10_goesHour_7 : decode cX10_goesHour 7 = .ok (.iconst 0, 1) := by decide +kernel

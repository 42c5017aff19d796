theorem dX4_bindLeast_47 : decode cX4_bindLeast 47 = .ok (.iconst 1, 1) := by decide +kernel
theorem dX4_bindLeast_48 : decode cX4_bindLeast 48 = .ok (.iadd, 1) := by decide +kernel
theorem dX4_bindLeast_49 : decode cX4_bindLeast 49 = .ok (.istore 5, 2) := by decide +kernel
theorem dX4_bindLeast_51 : decode cX4_bindLeast 51 = .ok (.iload 5, 2) := by decide +kernel
theorem dX4_bindLeast_53 : decode cX4_bindLeast 53 = .ok (.aload_n 0, 1) := by decide +kernel
theorem dX4_bindLeast_54 : decode cX4_bindLeast 54 = .ok (.getfield 15, 3) := by decide +kernel
theorem dX4_bindLeast_57 : decode cX4_bindLeast 57 = .ok (.if_icmp .ge 71, 3) := by decide +kernel
theorem dX4_bindLeast_60 : decode cX4_bindLeast 60 = .ok (.iload_n 1, 1) := by decide +kernel
theorem dX4_bindLeast_61 : decode cX4_bindLeast 61 = .ok (.iload 5, 2) := by decide +kernel
theorem dX4_bindLeast_63 : decode cX4_bindLeast 63 = .ok (.ishr, 1) := by decide +kernel
theorem dX4_bindLeast_64 : decode cX4_bindLeast 64 = .ok (.iconst 1, 1) := by decide +kernel
theorem dX4_bindLeast_65 : decode cX4_bindLeast 65 = .ok (.iand, 1) := by decide +kernel
theorem dX4_bindLeast_66 : decode cX4_bindLeast 66 = .ok (.iconst 1, 1) := by decide +kernel
theorem dX4_bindLeast_67 : decode cX4_bindLeast 67 = .ok (.if_icmp .ne 55, 3) := by decide +kernel
theorem dX4_bindLeast_70 : decode cX4_bindLeast 70 = .ok (.aload_n 0, 1) := by decide +kernel
theorem dX4_bindLeast_71 : decode cX4_bindLeast 71 = .ok (.iload 4, 2) := by decide +kernel
theorem dX4_bindLeast_73 : decode cX4_bindLeast 73 = .ok (.iload 5, 2) := by decide +kernel
theorem dX4_bindLeast_75 : decode cX4_bindLeast 75 = .ok (.invokevirtual 54, 3) := by decide +kernel
theorem dX4_bindLeast_78 : decode cX4_bindLeast 78 = .ok (.ifCond .eq 44, 3) := by decide +kernel
theorem dX4_bindLeast_81 : decode cX4_bindLeast 81 = .ok (.aload_n 0, 1) := by decide +kernel
theorem dX4_bindLeast_82 : decode cX4_bindLeast 82 = .ok (.getfield 19, 3) := by decide +kernel
theorem dX4_bindLeast_85 : decode cX4_bindLeast 85 = .ok (.iload 4, 2) := by decide +kernel
theorem dX4_bindLeast_87 : decode cX4_bindLeast 87 = .ok (.iload 5, 2) := by decide +kernel
theorem dX4_bindLeast_89 : decode cX4_bindLeast 89 = .ok (.iastore, 1) := by decide +kernel
theorem dX4_bindLeast_90 : decode cX4_bindLeast 90 = .ok (.aload_n 0, 1) := by decide +kernel
theorem dX4_bindLeast_91 : decode cX4_bindLeast 91 = .ok (.getfield 19, 3) := by decide +kernel
theorem dX4_bindLeast_94 : decode cX4_bindLeast 94 = .ok (.iload 5, 2) := by decide +kernel
theorem dX4_bindLeast_96 : decode cX4_bindLeast 96 = .ok (.iload 4, 2) := by decide +kernel
theorem dX4_bindLeast_98 : decode cX4_bindLeast 98 = .ok (.iastore, 1) := by decide +kernel
theorem dX4_bindLeast_99 : decode cX4_bindLeast 99 = .ok (.aload_n 0, 1) := by decide +kernel
theorem dX4_bindLeast_100 : decode cX4_bindLeast 100 = .ok (.iload_n 1, 1) := by decide +kernel
theorem dX4_bindLeast_101 : decode cX4_bindLeast 101 = .ok (.iconst 1, 1) := by decide +kernel
theorem dX4_bindLeast_102 : decode cX4_bindLeast 102 = .ok (.iload 4, 2) := by decide +kernel
theorem dX4_bindLeast_104 : decode cX4_bindLeast 104 = .ok (.ishl, 1) := by decide +kernel
theorem dX4_bindLeast_105 : decode cX4_bindLeast 105 = .ok (.iconst (-1), 1) := by decide +kernel
theorem dX4_bindLeast_106 : decode cX4_bindLeast 106 = .ok (.ixor, 1) := by decide +kernel
theorem dX4_bindLeast_107 : decode cX4_bindLeast 107 = .ok (.iand, 1) := by decide +kernel
theorem dX4_bindLeast_108 : decode cX4_bindLeast 108 = .ok (.iconst 1, 1) := by decide +kernel
theorem dX4_bindLeast_109 : decode cX4_bindLeast 109 = .ok (.iload 5, 2) := by decide +kernel
theorem dX4_bindLeast_111 : decode cX4_bindLeast 111 = .ok (.ishl, 1) := by decide +kernel
theorem dX4_bindLeast_112 : decode cX4_bindLeast 112 = .ok (.iconst (-1), 1) := by decide +kernel
theorem dX4_bindLeast_113 : decode cX4_bindLeast 113 = .ok (.ixor, 1) := by decide +kernel
theorem dX4_bindLeast_114 : decode cX4_bindLeast 114 = .ok (.iand, 1) := by decide +kernel
theorem dX4_bindLeast_115 : decode cX4_bindLeast 115 = .ok (.iload_n 2, 1) := by decide +kernel
theorem dX4_bindLeast_116 : decode cX4_bindLeast 116 = .ok (.iload_n 3, 1) := by decide +kernel
theorem dX4_bindLeast_117 : decode cX4_bindLeast 117 = .ok (.iconst 1, 1) := by decide +kernel
theorem dX4_bindLeast_118 : decode cX4_bindLeast 118 = .ok (.iadd, 1) := by decide +kernel
theorem dX4_bindLeast_119 : decode cX4_bindLeast 119 = .ok (.invokevirtual 47, 3) := by decide +kernel
theorem dX4_bindLeast_122 : decode cX4_bindLeast 122 = .ok (.iinc 5 1, 3) := by decide +kernel
theorem dX4_bindLeast_125 : decode cX4_bindLeast 125 = .ok (.goto (-74), 3) := by decide +kernel
theorem dX4_bindLeast_128 : decode cX4_bindLeast 128 = .ok (.iload_n 2, 1) := by decide +kernel
theorem dX4_bindLeast_129 : decode cX4_bindLeast 129 = .ok (.ifCond .eq 36, 3) := by decide +kernel
theorem dX4_bindLeast_132 : decode cX4_bindLeast 132 = .ok (.aload_n 0, 1) := by decide +kernel
theorem dX4_bindLeast_133 : decode cX4_bindLeast 133 = .ok (.iload 4, 2) := by decide +kernel
theorem dX4_bindLeast_135 : decode cX4_bindLeast 135 = .ok (.invokevirtual 58, 3) := by decide +kernel
theorem dX4_bindLeast_138 : decode cX4_bindLeast 138 = .ok (.ifCond .ne 27, 3) := by decide +kernel
theorem dX4_bindLeast_141 : decode cX4_bindLeast 141 = .ok (.aload_n 0, 1) := by decide +kernel
theorem dX4_bindLeast_142 : decode cX4_bindLeast 142 = .ok (.getfield 19, 3) := by decide +kernel
theorem dX4_bindLeast_145 : decode cX4_bindLeast 145 = .ok (.iload 4, 2) := by decide +kernel
theorem dX4_bindLeast_147 : decode cX4_bindLeast 147 = .ok (.iconst (-1), 1) := by decide +kernel
theorem dX4_bindLeast_148 : decode cX4_bindLeast 148 = .ok (.iastore, 1) := by decide +kernel
theorem dX4_bindLeast_149 : decode cX4_bindLeast 149 = .ok (.aload_n 0, 1) := by decide +kernel
theorem dX4_bindLeast_150 : decode cX4_bindLeast 150 = .ok (.iload_n 1, 1) := by decide +kernel
theorem dX4_bindLeast_151 : decode cX4_bindLeast 151 = .ok (.iconst 1, 1) := by decide +kernel
theorem dX4_bindLeast_152 : decode cX4_bindLeast 152 = .ok (.iload 4, 2) := by decide +kernel
theorem dX4_bindLeast_154 : decode cX4_bindLeast 154 = .ok (.ishl, 1) := by decide +kernel
theorem dX4_bindLeast_155 : decode cX4_bindLeast 155 = .ok (.iconst (-1), 1) := by decide +kernel
theorem dX4_bindLeast_156 : decode cX4_bindLeast 156 = .ok (.ixor, 1) := by decide +kernel
theorem dX4_bindLeast_157 : decode cX4_bindLeast 157 = .ok (.iand, 1) := by decide +kernel
theorem dX4_bindLeast_158 : decode cX4_bindLeast 158 = .ok (.iconst 0, 1) := by decide +kernel
theorem dX4_bindLeast_159 : decode cX4_bindLeast 159 = .ok (.iload_n 3, 1) := by decide +kernel
theorem dX4_bindLeast_160 : decode cX4_bindLeast 160 = .ok (.iconst 1, 1) := by decide +kernel
theorem dX4_bindLeast_161 : decode cX4_bindLeast 161 = .ok (.iadd, 1) := by decide +kernel
theorem dX4_bindLeast_162 : decode cX4_bindLeast 162 = .ok (.invokevirtual 47, 3) := by decide +kernel
theorem dX4_bindLeast_165 : decode cX4_bindLeast 165 = .ok (.return_, 1) := by decide +kernel
theorem dX4_boundTo_0 : decode cX4_boundTo 0 = .ok (.aload_n 0, 1) := by decide +kernel
theorem dX4_boundTo_1 : decode cX4_boundTo 1 = .ok (.getfield 25, 3) := by decide +kernel
theorem dX4_boundTo_4 : decode cX4_boundTo 4 = .ok (.bipush 8, 2) := by decide +kernel
theorem dX4_boundTo_6 : decode cX4_boundTo 6 = .ok (.iload_n 1, 1) := by decide +kernel
theorem dX4_boundTo_7 : decode cX4_boundTo 7 = .ok (.imul, 1) := by decide +kernel
theorem dX4_boundTo_8 : decode cX4_boundTo 8 = .ok (.lushr, 1) := by decide +kernel
theorem dX4_boundTo_9 : decode cX4_boundTo 9 = .ok (.l2i, 1) := by decide +kernel
theorem dX4_boundTo_10 : decode cX4_boundTo 10 = .ok (.sipush 255, 3) := by decide +kernel
theorem dX4_boundTo_13 : decode cX4_boundTo 13 = .ok (.iand, 1) := by decide +kernel
theorem dX4_boundTo_14 : decode cX4_boundTo 14 = .ok (.ireturn, 1) := by decide +kernel
theorem dX4_mayBind_0 : decode cX4_mayBind 0 = .ok (.aload_n 0, 1) := by decide +kernel
theorem dX4_mayBind_1 : decode cX4_mayBind 1 = .ok (.getfield 29, 3) := by decide +kernel
theorem dX4_mayBind_4 : decode cX4_mayBind 4 = .ok (.bipush 8, 2) := by decide +kernel
theorem dX4_mayBind_6 : decode cX4_mayBind 6 = .ok (.iload_n 1, 1) := by decide +kernel
theorem dX4_mayBind_7 : decode cX4_mayBind 7 = .ok (.imul, 1) := by decide +kernel
theorem dX4_mayBind_8 : decode cX4_mayBind 8 = .ok (.iload_n 2, 1) := by decide +kernel
theorem dX4_mayBind_9 : decode cX4_mayBind 9 = .ok (.iadd, 1) := by decide +kernel
theorem dX4_mayBind_10 : decode cX4_mayBind 10 = .ok (.lushr, 1) := by decide +kernel
theorem dX4_mayBind_11 : decode cX4_mayBind 11 = .ok (.lconst 1, 1) := by decide +kernel
theorem dX4_mayBind_12 : decode cX4_mayBind 12 = .ok (.land, 1) := by decide +kernel
theorem dX4_mayBind_13 : decode cX4_mayBind 13 = .ok (.lconst 1, 1) := by decide +kernel
theorem dX4_mayBind_14 : decode cX4_mayBind 14 = .ok (.lcmp, 1) := by decide +kernel
theorem dX4_mayBind_15 : decode cX4_mayBind 15 = .ok (.ifCond .ne 7, 3) := by decide +kernel
theorem dX4_mayBind_18 : decode cX4_mayBind 18 = .ok (.iconst 1, 1) := by decide +kernel
theorem dX4_mayBind_19 : decode cX4_mayBind 19 = .ok (.goto 4, 3) := by decide +kernel
theorem dX4_mayBind_22 : decode cX4_mayBind 22 = .ok (.iconst 0, 1) := by decide +kernel
theorem dX4_mayBind_23 : decode cX4_mayBind 23 = .ok (.istore_n 3, 1) := by decide +kernel
theorem dX4_mayBind_24 : decode cX4_mayBind 24 = .ok (.iload_n 3, 1) := by decide +kernel
theorem dX4_mayBind_25 : decode cX4_mayBind 25 = .ok (.ifCond .ne 35, 3) := by decide +kernel
theorem dX4_mayBind_28 : decode cX4_mayBind 28 = .ok (.aload_n 0, 1) := by decide +kernel
theorem dX4_mayBind_29 : decode cX4_mayBind 29 = .ok (.iload_n 1, 1) := by decide +kernel
theorem dX4_mayBind_30 : decode cX4_mayBind 30 = .ok (.invokevirtual 58, 3) := by decide +kernel
theorem dX4_mayBind_33 : decode cX4_mayBind 33 = .ok (.iconst 1, 1) := by decide +kernel
theorem dX4_mayBind_34 : decode cX4_mayBind 34 = .ok (.iload_n 2, 1) := by decide +kernel
theorem dX4_mayBind_35 : decode cX4_mayBind 35 = .ok (.ishl, 1) := by decide +kernel
theorem dX4_mayBind_36 : decode cX4_mayBind 36 = .ok (.iconst (-1), 1) := by decide +kernel
theorem dX4_mayBind_37 : decode cX4_mayBind 37 = .ok (.ixor, 1) := by decide +kernel
theorem dX4_mayBind_38 : decode cX4_mayBind 38 = .ok (.iand, 1) := by decide +kernel
theorem dX4_mayBind_39 : decode cX4_mayBind 39 = .ok (.ifCond .ne 21, 3) := by decide +kernel
theorem dX4_mayBind_42 : decode cX4_mayBind 42 = .ok (.aload_n 0, 1) := by decide +kernel
theorem dX4_mayBind_43 : decode cX4_mayBind 43 = .ok (.iload_n 2, 1) := by decide +kernel
theorem dX4_mayBind_44 : decode cX4_mayBind 44 = .ok (.invokevirtual 58, 3) := by decide +kernel
theorem dX4_mayBind_47 : decode cX4_mayBind 47 = .ok (.iconst 1, 1) := by decide +kernel
theorem dX4_mayBind_48 : decode cX4_mayBind 48 = .ok (.iload_n 1, 1) := by decide +kernel
theorem dX4_mayBind_49 : decode cX4_mayBind 49 = .ok (.ishl, 1) := by decide +kernel
theorem dX4_mayBind_50 : decode cX4_mayBind 50 = .ok (.iconst (-1), 1) := by decide +kernel
theorem dX4_mayBind_51 : decode cX4_mayBind 51 = .ok (.ixor, 1) := by decide +kernel
theorem dX4_mayBind_52 : decode cX4_mayBind 52 = .ok (.iand, 1) := by decide +kernel
theorem dX4_mayBind_53 : decode cX4_mayBind 53 = .ok (.ifCond .ne 7, 3) := by decide +kernel
theorem dX4_mayBind_56 : decode cX4_mayBind 56 = .ok (.iconst 1, 1) := by decide +kernel
theorem dX4_mayBind_57 : decode cX4_mayBind 57 = .ok (.goto 4, 3) := by decide +kernel
theorem dX4_mayBind_60 : decode cX4_mayBind 60 = .ok (.iconst 0, 1) := by decide +kernel
theorem dX4_mayBind_61 : decode cX4_mayBind 61 = .ok (.ireturn, 1) := by decide +kernel
theorem dX4_addWay_0 : decode cX4_addWay 0 = .ok (.aload_n 0, 1) := by decide +kernel
theorem dX4_addWay_1 : decode cX4_addWay 1 = .ok (.dup, 1) := by decide +kernel
theorem dX4_addWay_2 : decode cX4_addWay 2 = .ok (.getfield 38, 3) := by decide +kernel
theorem dX4_addWay_5 : decode cX4_addWay 5 = .ok (.iconst 1, 1) := by decide +kernel
theorem dX4_addWay_6 : decode cX4_addWay 6 = .ok (.iadd, 1) := by decide +kernel
theorem dX4_addWay_7 : decode cX4_addWay 7 = .ok (.putfield 38, 3) := by decide +kernel
theorem dX4_addWay_10 : decode cX4_addWay 10 = .ok (.iconst 0, 1) := by decide +kernel
theorem dX4_addWay_11 : decode cX4_addWay 11 = .ok (.istore_n 1, 1) := by decide +kernel
theorem dX4_addWay_12 : decode cX4_addWay 12 = .ok (.iload_n 1, 1) := by decide +kernel
theorem dX4_addWay_13 : decode cX4_addWay 13 = .ok (.aload_n 0, 1) := by decide +kernel
theorem dX4_addWay_14 : decode cX4_addWay 14 = .ok (.getfield 15, 3) := by decide +kernel
theorem dX4_addWay_17 : decode cX4_addWay 17 = .ok (.if_icmp .ge 59, 3) := by decide +kernel
theorem dX4_addWay_20 : decode cX4_addWay 20 = .ok (.aload_n 0, 1) := by decide +kernel
theorem dX4_addWay_21 : decode cX4_addWay 21 = .ok (.getfield 38, 3) := by decide +kernel
theorem dX4_addWay_24 : decode cX4_addWay 24 = .ok (.iconst 1, 1) := by decide +kernel
theorem dX4_addWay_25 : decode cX4_addWay 25 = .ok (.if_icmp .ne 15, 3) := by decide +kernel
theorem dX4_addWay_28 : decode cX4_addWay 28 = .ok (.aload_n 0, 1) := by decide +kernel
theorem dX4_addWay_29 : decode cX4_addWay 29 = .ok (.getfield 9, 3) := by decide +kernel
theorem dX4_addWay_32 : decode cX4_addWay 32 = .ok (.iload_n 1, 1) := by decide +kernel
theorem dX4_addWay_33 : decode cX4_addWay 33 = .ok (.aload_n 0, 1) := by decide +kernel
theorem dX4_addWay_34 : decode cX4_addWay 34 = .ok (.getfield 19, 3) := by decide +kernel
theorem dX4_addWay_37 : decode cX4_addWay 37 = .ok (.iload_n 1, 1) := by decide +kernel
theorem dX4_addWay_38 : decode cX4_addWay 38 = .ok (.iaload, 1) := by decide +kernel
theorem dX4_addWay_39 : decode cX4_addWay 39 = .ok (.iastore, 1) := by decide +kernel
theorem dX4_addWay_40 : decode cX4_addWay 40 = .ok (.aload_n 0, 1) := by decide +kernel
theorem dX4_addWay_41 : decode cX4_addWay 41 = .ok (.getfield 19, 3) := by decide +kernel
theorem dX4_addWay_44 : decode cX4_addWay 44 = .ok (.iload_n 1, 1) := by decide +kernel
theorem dX4_addWay_45 : decode cX4_addWay 45 = .ok (.iaload, 1) := by decide +kernel
theorem dX4_addWay_46 : decode cX4_addWay 46 = .ok (.iconst (-1), 1) := by decide +kernel
theorem dX4_addWay_47 : decode cX4_addWay 47 = .ok (.if_icmp .eq 23, 3) := by decide +kernel
theorem dX4_addWay_50 : decode cX4_addWay 50 = .ok (.aload_n 0, 1) := by decide +kernel
theorem dX4_addWay_51 : decode cX4_addWay 51 = .ok (.getfield 22, 3) := by decide +kernel
theorem dX4_addWay_54 : decode cX4_addWay 54 = .ok (.bipush 8, 2) := by decide +kernel
theorem dX4_addWay_56 : decode cX4_addWay 56 = .ok (.iload_n 1, 1) := by decide +kernel
theorem dX4_addWay_57 : decode cX4_addWay 57 = .ok (.imul, 1) := by decide +kernel
theorem dX4_addWay_58 : decode cX4_addWay 58 = .ok (.aload_n 0, 1) := by decide +kernel
theorem dX4_addWay_59 : decode cX4_addWay 59 = .ok (.getfield 19, 3) := by decide +kernel
theorem dX4_addWay_62 : decode cX4_addWay 62 = .ok (.iload_n 1, 1) := by decide +kernel
theorem dX4_addWay_63 : decode cX4_addWay 63 = .ok (.iaload, 1) := by decide +kernel
theorem dX4_addWay_64 : decode cX4_addWay 64 = .ok (.iadd, 1) := by decide +kernel
theorem dX4_addWay_65 : decode cX4_addWay 65 = .ok (.dup2, 1) := by decide +kernel
theorem dX4_addWay_66 : decode cX4_addWay 66 = .ok (.iaload, 1) := by decide +kernel
theorem dX4_addWay_67 : decode cX4_addWay 67 = .ok (.iconst 1, 1) := by decide +kernel
theorem dX4_addWay_68 : decode cX4_addWay 68 = .ok (.iadd, 1) := by decide +kernel
theorem dX4_addWay_69 : decode cX4_addWay 69 = .ok (.iastore, 1) := by decide +kernel
theorem dX4_addWay_70 : decode cX4_addWay 70 = .ok (.iinc 1 1, 3) := by decide +kernel
theorem dX4_addWay_73 : decode cX4_addWay 73 = .ok (.goto (-61), 3) := by decide +kernel
theorem dX4_addWay_76 : decode cX4_addWay 76 = .ok (.return_, 1) := by decide +kernel
theorem dX5_init_0 : decode cX5_init 0 = .ok (.aload_n 0, 1) := by decide +kernel
theorem dX5_init_1 : decode cX5_init 1 = .ok (.invokespecial 1, 3) := by decide +kernel
theorem dX5_init_4 : decode cX5_init 4 = .ok (.return_, 1) := by decide +kernel
theorem dX5_become_0 : decode cX5_become 0 = .ok (.aload_n 0, 1) := by decide +kernel
theorem dX5_become_1 : decode cX5_become 1 = .ok (.aload_n 1, 1) := by decide +kernel
theorem dX5_become_2 : decode cX5_become 2 = .ok (.getfield 7, 3) := by decide +kernel
theorem dX5_become_5 : decode cX5_become 5 = .ok (.putfield 7, 3) := by decide +kernel
theorem dX5_become_8 : decode cX5_become 8 = .ok (.aload_n 0, 1) := by decide +kernel
theorem dX5_become_9 : decode cX5_become 9 = .ok (.aload_n 1, 1) := by decide +kernel
theorem dX5_become_10 : decode cX5_become 10 = .ok (.getfield 13, 3) := by decide +kernel
theorem dX5_become_13 : decode cX5_become 13 = .ok (.putfield 13, 3) := by decide +kernel
theorem dX5_become_16 : decode cX5_become 16 = .ok (.aload_n 0, 1) := by decide +kernel
theorem dX5_become_17 : decode cX5_become 17 = .ok (.aload_n 1, 1) := by decide +kernel
theorem dX5_become_18 : decode cX5_become 18 = .ok (.getfield 16, 3) := by decide +kernel
theorem dX5_become_21 : decode cX5_become 21 = .ok (.putfield 16, 3) := by decide +kernel
theorem dX5_become_24 : decode cX5_become 24 = .ok (.aload_n 0, 1) := by decide +kernel
theorem dX5_become_25 : decode cX5_become 25 = .ok (.aload_n 1, 1) := by decide +kernel
theorem dX5_become_26 : decode cX5_become 26 = .ok (.getfield 20, 3) := by decide +kernel
theorem dX5_become_29 : decode cX5_become 29 = .ok (.putfield 20, 3) := by decide +kernel
theorem dX5_become_32 : decode cX5_become 32 = .ok (.aload_n 0, 1) := by decide +kernel
theorem dX5_become_33 : decode cX5_become 33 = .ok (.aload_n 1, 1) := by decide +kernel
theorem dX5_become_34 : decode cX5_become 34 = .ok (.getfield 23, 3) := by decide +kernel
theorem dX5_become_37 : decode cX5_become 37 = .ok (.putfield 23, 3) := by decide +kernel
theorem dX5_become_40 : decode cX5_become 40 = .ok (.aload_n 0, 1) := by decide +kernel
theorem dX5_become_41 : decode cX5_become 41 = .ok (.aload_n 1, 1) := by decide +kernel
theorem dX5_become_42 : decode cX5_become 42 = .ok (.getfield 26, 3) := by decide +kernel
theorem dX5_become_45 : decode cX5_become 45 = .ok (.putfield 26, 3) := by decide +kernel
theorem dX5_become_48 : decode cX5_become 48 = .ok (.return_, 1) := by decide +kernel
theorem dX5_addHint_0 : decode cX5_addHint 0 = .ok (.lconst 1, 1) := by decide +kernel
theorem dX5_addHint_1 : decode cX5_addHint 1 = .ok (.bipush 8, 2) := by decide +kernel
theorem dX5_addHint_3 : decode cX5_addHint 3 = .ok (.iload_n 1, 1) := by decide +kernel
theorem dX5_addHint_4 : decode cX5_addHint 4 = .ok (.imul, 1) := by decide +kernel
theorem dX5_addHint_5 : decode cX5_addHint 5 = .ok (.iload_n 2, 1) := by decide +kernel
theorem dX5_addHint_6 : decode cX5_addHint 6 = .ok (.iadd, 1) := by decide +kernel
theorem dX5_addHint_7 : decode cX5_addHint 7 = .ok (.lshl, 1) := by decide +kernel
theorem dX5_addHint_8 : decode cX5_addHint 8 = .ok (.lconst 1, 1) := by decide +kernel
theorem dX5_addHint_9 : decode cX5_addHint 9 = .ok (.bipush 8, 2) := by decide +kernel
theorem dX5_addHint_11 : decode cX5_addHint 11 = .ok (.iload_n 2, 1) := by decide +kernel
theorem dX5_addHint_12 : decode cX5_addHint 12 = .ok (.imul, 1) := by decide +kernel
theorem dX5_addHint_13 : decode cX5_addHint 13 = .ok (.iload_n 1, 1) := by decide +kernel
theorem dX5_addHint_14 : decode cX5_addHint 14 = .ok (.iadd, 1) := by decide +kernel
theorem dX5_addHint_15 : decode cX5_addHint 15 = .ok (.lshl, 1) := by decide +kernel
theorem dX5_addHint_16 : decode cX5_addHint 16 = .ok (.lor, 1) := by decide +kernel
theorem dX5_addHint_17 : decode cX5_addHint 17 = .ok (.lstore 4, 2) := by decide +kernel
theorem dX5_addHint_19 : decode cX5_addHint 19 = .ok (.aload_n 0, 1) := by decide +kernel
theorem dX5_addHint_20 : decode cX5_addHint 20 = .ok (.iload_n 3, 1) := by decide +kernel
theorem dX5_addHint_21 : decode cX5_addHint 21 = .ok (.ifCond .eq 13, 3) := by decide +kernel
theorem dX5_addHint_24 : decode cX5_addHint 24 = .ok (.aload_n 0, 1) := by decide +kernel
theorem dX5_addHint_25 : decode cX5_addHint 25 = .ok (.getfield 16, 3) := by decide +kernel
theorem dX5_addHint_28 : decode cX5_addHint 28 = .ok (.lload 4, 2) := by decide +kernel
theorem dX5_addHint_30 : decode cX5_addHint 30 = .ok (.lor, 1) := by decide +kernel
theorem dX5_addHint_31 : decode cX5_addHint 31 = .ok (.goto 14, 3) := by decide +kernel
theorem dX5_addHint_34 : decode cX5_addHint 34 = .ok (.aload_n 0, 1) := by decide +kernel
theorem dX5_addHint_35 : decode cX5_addHint 35 = .ok (.getfield 16, 3) := by decide +kernel
theorem dX5_addHint_38 : decode cX5_addHint 38 = .ok (.lload 4, 2) := by decide +kernel
theorem dX5_addHint_40 : decode cX5_addHint 40 = .ok (.ldc2_w 29, 3) := by decide +kernel
theorem dX5_addHint_43 : decode cX5_addHint 43 = .ok (.lxor, 1) := by decide +kernel
theorem dX5_addHint_44 : decode cX5_addHint 44 = .ok (.land, 1) := by decide +kernel
theorem dX5_addHint_45 : decode cX5_addHint 45 = .ok (.putfield 16, 3) := by decide +kernel
theorem dX5_addHint_48 : decode cX5_addHint 48 = .ok (.aload_n 0, 1) := by decide +kernel
theorem dX5_addHint_49 : decode cX5_addHint 49 = .ok (.iload_n 3, 1) := by decide +kernel
theorem dX5_addHint_50 : decode cX5_addHint 50 = .ok (.ifCond .eq 17, 3) := by decide +kernel
theorem dX5_addHint_53 : decode cX5_addHint 53 = .ok (.aload_n 0, 1) := by decide +kernel
theorem dX5_addHint_54 : decode cX5_addHint 54 = .ok (.getfield 20, 3) := by decide +kernel
theorem dX5_addHint_57 : decode cX5_addHint 57 = .ok (.lload 4, 2) := by decide +kernel
theorem dX5_addHint_59 : decode cX5_addHint 59 = .ok (.ldc2_w 29, 3) := by decide +kernel
theorem dX5_addHint_62 : decode cX5_addHint 62 = .ok (.lxor, 1) := by decide +kernel
theorem dX5_addHint_63 : decode cX5_addHint 63 = .ok (.land, 1) := by decide +kernel
theorem dX5_addHint_64 : decode cX5_addHint 64 = .ok (.goto 10, 3) := by decide +kernel
theorem dX5_addHint_67 : decode cX5_addHint 67 = .ok (.aload_n 0, 1) := by decide +kernel
theorem dX5_addHint_68 : decode cX5_addHint 68 = .ok (.getfield 20, 3) := by decide +kernel
theorem dX5_addHint_71 : decode cX5_addHint 71 = .ok (.lload 4, 2) := by decide +kernel
theorem dX5_addHint_73 : decode cX5_addHint 73 = .ok (.lor, 1) := by decide +kernel
theorem dX5_addHint_74 : decode cX5_addHint 74 = .ok (.putfield 20, 3) := by decide +kernel
theorem dX5_addHint_77 : decode cX5_addHint 77 = .ok (.return_, 1) := by decide +kernel
theorem dX6_init_0 : decode cX6_init 0 = .ok (.aload_n 0, 1) := by decide +kernel
theorem dX6_init_1 : decode cX6_init 1 = .ok (.invokespecial 3, 3) := by decide +kernel
theorem dX6_init_4 : decode cX6_init 4 = .ok (.aload_n 0, 1) := by decide +kernel
theorem dX6_init_5 : decode cX6_init 5 = .ok (.iconst 1, 1) := by decide +kernel
theorem dX6_init_6 : decode cX6_init 6 = .ok (.putfield 9, 3) := by decide +kernel
theorem dX6_init_9 : decode cX6_init 9 = .ok (.aload_n 0, 1) := by decide +kernel
theorem dX6_init_10 : decode cX6_init 10 = .ok (.iconst 4, 1) := by decide +kernel
theorem dX6_init_11 : decode cX6_init 11 = .ok (.newarray .int, 2) := by decide +kernel
theorem dX6_init_13 : decode cX6_init 13 = .ok (.putfield 15, 3) := by decide +kernel
theorem dX6_init_16 : decode cX6_init 16 = .ok (.aload_n 0, 1) := by decide +kernel
theorem dX6_init_17 : decode cX6_init 17 = .ok (.iconst 4, 1) := by decide +kernel
theorem dX6_init_18 : decode cX6_init 18 = .ok (.newarray .int, 2) := by decide +kernel
theorem dX6_init_20 : decode cX6_init 20 = .ok (.putfield 19, 3) := by decide +kernel
theorem dX6_init_23 : decode cX6_init 23 = .ok (.aload_n 0, 1) := by decide +kernel
theorem dX6_init_24 : decode cX6_init 24 = .ok (.new 22, 3) := by decide +kernel
theorem dX6_init_27 : decode cX6_init 27 = .ok (.dup, 1) := by decide +kernel
theorem dX6_init_28 : decode cX6_init 28 = .ok (.invokespecial 24, 3) := by decide +kernel
theorem dX6_init_31 : decode cX6_init 31 = .ok (.putfield 25, 3) := by decide +kernel
theorem dX6_init_34 : decode cX6_init 34 = .ok (.aload_n 0, 1) := by decide +kernel
theorem dX6_init_35 : decode cX6_init 35 = .ok (.iload_n 1, 1) := by decide +kernel
theorem dX6_init_36 : decode cX6_init 36 = .ok (.putfield 29, 3) := by decide +kernel
theorem dX6_init_39 : decode cX6_init 39 = .ok (.aload_n 0, 1) := by decide +kernel
theorem dX6_init_40 : decode cX6_init 40 = .ok (.getfield 25, 3) := by decide +kernel
theorem dX6_init_43 : decode cX6_init 43 = .ok (.bipush 9, 2) := by decide +kernel
theorem dX6_init_45 : decode cX6_init 45 = .ok (.putfield 32, 3) := by decide +kernel
theorem dX6_init_48 : decode cX6_init 48 = .ok (.return_, 1) := by decide +kernel
theorem dX6_pastAt_0 : decode cX6_pastAt 0 = .ok (.iconst 0, 1) := by decide +kernel
theorem dX6_pastAt_1 : decode cX6_pastAt 1 = .ok (.istore_n 2, 1) := by decide +kernel
theorem dX6_pastAt_2 : decode cX6_pastAt 2 = .ok (.iload_n 1, 1) := by decide +kernel
theorem dX6_pastAt_3 : decode cX6_pastAt 3 = .ok (.istore_n 3, 1) := by decide +kernel
theorem dX6_pastAt_4 : decode cX6_pastAt 4 = .ok (.iconst 0, 1) := by decide +kernel
theorem dX6_pastAt_5 : decode cX6_pastAt 5 = .ok (.istore 4, 2) := by decide +kernel
theorem dX6_pastAt_7 : decode cX6_pastAt 7 = .ok (.iload 4, 2) := by decide +kernel
theorem dX6_pastAt_9 : decode cX6_pastAt 9 = .ok (.aload_n 0, 1) := by decide +kernel
theorem dX6_pastAt_10 : decode cX6_pastAt 10 = .ok (.getfield 35, 3) := by decide +kernel
theorem dX6_pastAt_13 : decode cX6_pastAt 13 = .ok (.if_icmp .ge 32, 3) := by decide +kernel
theorem dX6_pastAt_16 : decode cX6_pastAt 16 = .ok (.iload_n 3, 1) := by decide +kernel
theorem dX6_pastAt_17 : decode cX6_pastAt 17 = .ok (.bipush 7, 2) := by decide +kernel
theorem dX6_pastAt_19 : decode cX6_pastAt 19 = .ok (.irem, 1) := by decide +kernel
theorem dX6_pastAt_20 : decode cX6_pastAt 20 = .ok (.aload_n 0, 1) := by decide +kernel
theorem dX6_pastAt_21 : decode cX6_pastAt 21 = .ok (.getfield 9, 3) := by decide +kernel
theorem dX6_pastAt_24 : decode cX6_pastAt 24 = .ok (.if_icmp .lt 10, 3) := by decide +kernel
theorem dX6_pastAt_27 : decode cX6_pastAt 27 = .ok (.iload_n 2, 1) := by decide +kernel
theorem dX6_pastAt_28 : decode cX6_pastAt 28 = .ok (.iconst 1, 1) := by decide +kernel
theorem dX6_pastAt_29 : decode cX6_pastAt 29 = .ok (.iload 4, 2) := by decide +kernel
theorem dX6_pastAt_31 : decode cX6_pastAt 31 = .ok (.ishl, 1) := by decide +kernel
theorem dX6_pastAt_32 : decode cX6_pastAt 32 = .ok (.ior, 1) := by decide +kernel
theorem dX6_pastAt_33 : decode cX6_pastAt 33 = .ok (.istore_n 2, 1) := by decide +kernel
theorem dX6_pastAt_34 : decode cX6_pastAt 34 = .ok (.iload_n 3, 1) := by decide +kernel
theorem dX6_pastAt_35 : decode cX6_pastAt 35 = .ok (.bipush 7, 2) := by decide +kernel
theorem dX6_pastAt_37 : decode cX6_pastAt 37 = .ok (.idiv, 1) := by decide +kernel
theorem dX6_pastAt_38 : decode cX6_pastAt 38 = .ok (.istore_n 3, 1) := by decide +kernel
theorem dX6_pastAt_39 : decode cX6_pastAt 39 = .ok (.iinc 4 1, 3) := by decide +kernel
theorem dX6_pastAt_42 : decode cX6_pastAt 42 = .ok (.goto (-35), 3) := by decide +kernel
theorem dX6_pastAt_45 : decode cX6_pastAt 45 = .ok (.iload_n 2, 1) := by decide +kernel
theorem dX6_pastAt_46 : decode cX6_pastAt 46 = .ok (.ireturn, 1) := by decide +kernel
theorem dX7_init_0 : decode cX7_init 0 = .ok (.aload_n 0, 1) := by decide +kernel
theorem dX7_init_1 : decode cX7_init 1 = .ok (.invokespecial 3, 3) := by decide +kernel
theorem dX7_init_4 : decode cX7_init 4 = .ok (.aload_n 0, 1) := by decide +kernel
theorem dX7_init_5 : decode cX7_init 5 = .ok (.iconst 1, 1) := by decide +kernel
theorem dX7_init_6 : decode cX7_init 6 = .ok (.putfield 9, 3) := by decide +kernel
theorem dX7_init_9 : decode cX7_init 9 = .ok (.aload_n 0, 1) := by decide +kernel
theorem dX7_init_10 : decode cX7_init 10 = .ok (.bipush 40, 2) := by decide +kernel
theorem dX7_init_12 : decode cX7_init 12 = .ok (.newarray .long, 2) := by decide +kernel
theorem dX7_init_14 : decode cX7_init 14 = .ok (.putfield 15, 3) := by decide +kernel
theorem dX7_init_17 : decode cX7_init 17 = .ok (.return_, 1) := by decide +kernel
theorem dX7_lay_0 : decode cX7_lay 0 = .ok (.aload_n 0, 1) := by decide +kernel
theorem dX7_lay_1 : decode cX7_lay 1 = .ok (.iconst 0, 1) := by decide +kernel
theorem dX7_lay_2 : decode cX7_lay 2 = .ok (.putfield 9, 3) := by decide +kernel
theorem dX7_lay_5 : decode cX7_lay 5 = .ok (.aload_n 0, 1) := by decide +kernel
theorem dX7_lay_6 : decode cX7_lay 6 = .ok (.iload_n 1, 1) := by decide +kernel
theorem dX7_lay_7 : decode cX7_lay 7 = .ok (.putfield 19, 3) := by decide +kernel
theorem dX7_lay_10 : decode cX7_lay 10 = .ok (.aload_n 0, 1) := by decide +kernel
theorem dX7_lay_11 : decode cX7_lay 11 = .ok (.iload_n 2, 1) := by decide +kernel
theorem dX7_lay_12 : decode cX7_lay 12 = .ok (.putfield 23, 3) := by decide +kernel
theorem dX7_lay_15 : decode cX7_lay 15 = .ok (.aload_n 0, 1) := by decide +kernel
theorem dX7_lay_16 : decode cX7_lay 16 = .ok (.getfield 15, 3) := by decide +kernel
theorem dX7_lay_19 : decode cX7_lay 19 = .ok (.lconst 0, 1) := by decide +kernel
theorem dX7_lay_20 : decode cX7_lay 20 = .ok (.invokestatic 26, 3) := by decide +kernel
theorem dX7_lay_23 : decode cX7_lay 23 = .ok (.return_, 1) := by decide +kernel
theorem dX7_get_0 : decode cX7_get 0 = .ok (.iload_n 1, 1) := by decide +kernel
theorem dX7_get_1 : decode cX7_get 1 = .ok (.ifCond .lt 26, 3) := by decide +kernel
theorem dX7_get_4 : decode cX7_get 4 = .ok (.iload_n 1, 1) := by decide +kernel
theorem dX7_get_5 : decode cX7_get 5 = .ok (.aload_n 0, 1) := by decide +kernel
theorem dX7_get_6 : decode cX7_get 6 = .ok (.getfield 23, 3) := by decide +kernel
theorem dX7_get_9 : decode cX7_get 9 = .ok (.if_icmp .ge 18, 3) := by decide +kernel
theorem dX7_get_12 : decode cX7_get 12 = .ok (.iload_n 1, 1) := by decide +kernel
theorem dX7_get_13 : decode cX7_get 13 = .ok (.bipush 40, 2) := by decide +kernel
theorem dX7_get_15 : decode cX7_get 15 = .ok (.if_icmp .ge 12, 3) := by decide +kernel
theorem dX7_get_18 : decode cX7_get 18 = .ok (.aload_n 0, 1) := by decide +kernel
theorem dX7_get_19 : decode cX7_get 19 = .ok (.getfield 15, 3) := by decide +kernel
theorem dX7_get_22 : decode cX7_get 22 = .ok (.iload_n 1, 1) := by decide +kernel
theorem dX7_get_23 : decode cX7_get 23 = .ok (.laload, 1) := by decide +kernel
theorem dX7_get_24 : decode cX7_get 24 = .ok (.goto 4, 3) := by decide +kernel
theorem dX7_get_27 : decode cX7_get 27 = .ok (.lconst 0, 1) := by decide +kernel
theorem dX7_get_28 : decode cX7_get 28 = .ok (.lreturn, 1) := by decide +kernel
theorem dX7_put_0 : decode cX7_put 0 = .ok (.iload_n 1, 1) := by decide +kernel
theorem dX7_put_1 : decode cX7_put 1 = .ok (.ifCond .lt 28, 3) := by decide +kernel
theorem dX7_put_4 : decode cX7_put 4 = .ok (.iload_n 1, 1) := by decide +kernel
theorem dX7_put_5 : decode cX7_put 5 = .ok (.aload_n 0, 1) := by decide +kernel
theorem dX7_put_6 : decode cX7_put 6 = .ok (.getfield 23, 3) := by decide +kernel
theorem dX7_put_9 : decode cX7_put 9 = .ok (.if_icmp .ge 20, 3) := by decide +kernel
theorem dX7_put_12 : decode cX7_put 12 = .ok (.iload_n 1, 1) := by decide +kernel
theorem dX7_put_13 : decode cX7_put 13 = .ok (.bipush 40, 2) := by decide +kernel
theorem dX7_put_15 : decode cX7_put 15 = .ok (.if_icmp .ge 14, 3) := by decide +kernel
theorem dX7_put_18 : decode cX7_put 18 = .ok (.aload_n 0, 1) := by decide +kernel
theorem dX7_put_19 : decode cX7_put 19 = .ok (.getfield 15, 3) := by decide +kernel
theorem dX7_put_22 : decode cX7_put 22 = .ok (.iload_n 1, 1) := by decide +kernel
theorem dX7_put_23 : decode cX7_put 23 = .ok (.aload_n 0, 1) := by decide +kernel
theorem dX7_put_24 : decode cX7_put 24 = .ok (.lload_n 2, 1) := by decide +kernel
theorem dX7_put_25 : decode cX7_put 25 = .ok (.invokevirtual 32, 3) := by decide +kernel
theorem dX7_put_28 : decode cX7_put 28 = .ok (.lastore, 1) := by decide +kernel
theorem dX7_put_29 : decode cX7_put 29 = .ok (.return_, 1) := by decide +kernel
theorem dX7_cut_0 : decode cX7_cut 0 = .ok (.aload_n 0, 1) := by decide +kernel
theorem dX7_cut_1 : decode cX7_cut 1 = .ok (.getfield 19, 3) := by decide +kernel
theorem dX7_cut_4 : decode cX7_cut 4 = .ok (.tableswitch 42 0 2 #[28, 33, 38], 28) := by decide +kernel
theorem dX7_cut_32 : decode cX7_cut 32 = .ok (.lload_n 1, 1) := by decide +kernel
theorem dX7_cut_33 : decode cX7_cut 33 = .ok (.l2i, 1) := by decide +kernel
theorem dX7_cut_34 : decode cX7_cut 34 = .ok (.i2b, 1) := by decide +kernel
theorem dX7_cut_35 : decode cX7_cut 35 = .ok (.i2l, 1) := by decide +kernel
theorem dX7_cut_36 : decode cX7_cut 36 = .ok (.lreturn, 1) := by decide +kernel
theorem dX7_cut_37 : decode cX7_cut 37 = .ok (.lload_n 1, 1) := by decide +kernel
theorem dX7_cut_38 : decode cX7_cut 38 = .ok (.l2i, 1) := by decide +kernel
theorem dX7_cut_39 : decode cX7_cut 39 = .ok (.i2s, 1) := by decide +kernel
theorem dX7_cut_40 : decode cX7_cut 40 = .ok (.i2l, 1) := by decide +kernel
theorem dX7_cut_41 : decode cX7_cut 41 = .ok (.lreturn, 1) := by decide +kernel
theorem dX7_cut_42 : decode cX7_cut 42 = .ok (.lload_n 1, 1) := by decide +kernel
theorem dX7_cut_43 : decode cX7_cut 43 = .ok (.l2i, 1) := by decide +kernel
theorem dX7_cut_44 : decode cX7_cut 44 = .ok (.i2l, 1) := by decide +kernel
theorem dX7_cut_45 : decode cX7_cut 45 = .ok (.lreturn, 1) := by decide +kernel
theorem dX7_cut_46 : decode cX7_cut 46 = .ok (.lload_n 1, 1) := by decide +kernel
theorem dX7_cut_47 : decode cX7_cut 47 = .ok (.lreturn, 1) := by decide +kernel
theorem dX8_init_0 : decode cX8_init 0 = .ok (.aload_n 0, 1) := by decide +kernel
theorem dX8_init_1 : decode cX8_init 1 = .ok (.invokespecial 3, 3) := by decide +kernel
theorem dX8_init_4 : decode cX8_init 4 = .ok (.aload_n 0, 1) := by decide +kernel
theorem dX8_init_5 : decode cX8_init 5 = .ok (.iconst (-1), 1) := by decide +kernel
theorem dX8_init_6 : decode cX8_init 6 = .ok (.putfield 9, 3) := by decide +kernel
theorem dX8_init_9 : decode cX8_init 9 = .ok (.aload_n 0, 1) := by decide +kernel
theorem dX8_init_10 : decode cX8_init 10 = .ok (.sipush 24010, 3) := by decide +kernel
theorem dX8_init_13 : decode cX8_init 13 = .ok (.newarray .int, 2) := by decide +kernel
theorem dX8_init_15 : decode cX8_init 15 = .ok (.putfield 15, 3) := by decide +kernel
theorem dX8_init_18 : decode cX8_init 18 = .ok (.aload_n 0, 1) := by decide +kernel
theorem dX8_init_19 : decode cX8_init 19 = .ok (.sipush 24010, 3) := by decide +kernel
theorem dX8_init_22 : decode cX8_init 22 = .ok (.newarray .int, 2) := by decide +kernel
theorem dX8_init_24 : decode cX8_init 24 = .ok (.putfield 19, 3) := by decide +kernel
theorem dX8_init_27 : decode cX8_init 27 = .ok (.aload_n 0, 1) := by decide +kernel
theorem dX8_init_28 : decode cX8_init 28 = .ok (.sipush 24010, 3) := by decide +kernel
theorem dX8_init_31 : decode cX8_init 31 = .ok (.newarray .long, 2) := by decide +kernel
theorem dX8_init_33 : decode cX8_init 33 = .ok (.putfield 22, 3) := by decide +kernel
theorem dX8_init_36 : decode cX8_init 36 = .ok (.aload_n 0, 1) := by decide +kernel
theorem dX8_init_37 : decode cX8_init 37 = .ok (.bipush 10, 2) := by decide +kernel
theorem dX8_init_39 : decode cX8_init 39 = .ok (.newarray .long, 2) := by decide +kernel
theorem dX8_init_41 : decode cX8_init 41 = .ok (.putfield 26, 3) := by decide +kernel
theorem dX8_init_44 : decode cX8_init 44 = .ok (.aload_n 0, 1) := by decide +kernel
theorem dX8_init_45 : decode cX8_init 45 = .ok (.bipush 16, 2) := by decide +kernel
theorem dX8_init_47 : decode cX8_init 47 = .ok (.newarray .int, 2) := by decide +kernel
theorem dX8_init_49 : decode cX8_init 49 = .ok (.putfield 29, 3) := by decide +kernel
theorem dX8_init_52 : decode cX8_init 52 = .ok (.aload_n 0, 1) := by decide +kernel
theorem dX8_init_53 : decode cX8_init 53 = .ok (.bipush 16, 2) := by decide +kernel
theorem dX8_init_55 : decode cX8_init 55 = .ok (.newarray .int, 2) := by decide +kernel
theorem dX8_init_57 : decode cX8_init 57 = .ok (.putfield 32, 3) := by decide +kernel
theorem dX8_init_60 : decode cX8_init 60 = .ok (.aload_n 0, 1) := by decide +kernel
theorem dX8_init_61 : decode cX8_init 61 = .ok (.bipush 16, 2) := by decide +kernel
theorem dX8_init_63 : decode cX8_init 63 = .ok (.newarray .int, 2) := by decide +kernel
theorem dX8_init_65 : decode cX8_init 65 = .ok (.putfield 35, 3) := by decide +kernel
theorem dX8_init_68 : decode cX8_init 68 = .ok (.aload_n 0, 1) := by decide +kernel
theorem dX8_init_69 : decode cX8_init 69 = .ok (.aload_n 1, 1) := by decide +kernel
theorem dX8_init_70 : decode cX8_init 70 = .ok (.putfield 38, 3) := by decide +kernel
theorem dX8_init_73 : decode cX8_init 73 = .ok (.aload_n 0, 1) := by decide +kernel
theorem dX8_init_74 : decode cX8_init 74 = .ok (.aload_n 1, 1) := by decide +kernel
theorem dX8_init_75 : decode cX8_init 75 = .ok (.getfield 42, 3) := by decide +kernel
theorem dX8_init_78 : decode cX8_init 78 = .ok (.putfield 48, 3) := by decide +kernel
theorem dX8_init_81 : decode cX8_init 81 = .ok (.return_, 1) := by decide +kernel
theorem dX8_beginAt_0 : decode cX8_beginAt 0 = .ok (.aload_n 0, 1) := by decide +kernel
theorem dX8_beginAt_1 : decode cX8_beginAt 1 = .ok (.getfield 48, 3) := by decide +kernel
theorem dX8_beginAt_4 : decode cX8_beginAt 4 = .ok (.aload_n 0, 1) := by decide +kernel
theorem dX8_beginAt_5 : decode cX8_beginAt 5 = .ok (.getfield 38, 3) := by decide +kernel
theorem dX8_beginAt_8 : decode cX8_beginAt 8 = .ok (.getfield 42, 3) := by decide +kernel
theorem dX8_beginAt_11 : decode cX8_beginAt 11 = .ok (.if_acmp .ne 21, 3) := by decide +kernel
theorem dX8_beginAt_14 : decode cX8_beginAt 14 = .ok (.aload_n 0, 1) := by decide +kernel
theorem dX8_beginAt_15 : decode cX8_beginAt 15 = .ok (.getfield 49, 3) := by decide +kernel
theorem dX8_beginAt_18 : decode cX8_beginAt 18 = .ok (.aload_n 0, 1) := by decide +kernel
theorem dX8_beginAt_19 : decode cX8_beginAt 19 = .ok (.getfield 38, 3) := by decide +kernel
theorem dX8_beginAt_22 : decode cX8_beginAt 22 = .ok (.getfield 52, 3) := by decide +kernel
theorem dX8_beginAt_25 : decode cX8_beginAt 25 = .ok (.if_icmp .ne 7, 3) := by decide +kernel
theorem dX8_beginAt_28 : decode cX8_beginAt 28 = .ok (.iconst 1, 1) := by decide +kernel
theorem dX8_beginAt_29 : decode cX8_beginAt 29 = .ok (.goto 4, 3) := by decide +kernel
theorem dX8_beginAt_32 : decode cX8_beginAt 32 = .ok (.iconst 0, 1) := by decide +kernel
theorem dX8_beginAt_33 : decode cX8_beginAt 33 = .ok (.istore_n 3, 1) := by decide +kernel
theorem dX8_beginAt_34 : decode cX8_beginAt 34 = .ok (.iload_n 3, 1) := by decide +kernel
theorem dX8_beginAt_35 : decode cX8_beginAt 35 = .ok (.ifCond .eq 20, 3) := by decide +kernel
theorem dX8_beginAt_38 : decode cX8_beginAt 38 = .ok (.aload_n 0, 1) := by decide +kernel
theorem dX8_beginAt_39 : decode cX8_beginAt 39 = .ok (.getfield 9, 3) := by decide +kernel
theorem dX8_beginAt_42 : decode cX8_beginAt 42 = .ok (.iload_n 1, 1) := by decide +kernel
theorem dX8_beginAt_43 : decode cX8_beginAt 43 = .ok (.if_icmp .ne 12, 3) := by decide +kernel
theorem dX8_beginAt_46 : decode cX8_beginAt 46 = .ok (.aload_n 0, 1) := by decide +kernel
theorem dX8_beginAt_47 : decode cX8_beginAt 47 = .ok (.getfield 53, 3) := by decide +kernel
theorem dX8_beginAt_50 : decode cX8_beginAt 50 = .ok (.iload_n 2, 1) := by decide +kernel
theorem dX8_beginAt_51 : decode cX8_beginAt 51 = .ok (.if_icmp .ne 4, 3) := by decide +kernel
theorem dX8_beginAt_54 : decode cX8_beginAt 54 = .ok (.return_, 1) := by decide +kernel
theorem dX8_beginAt_55 : decode cX8_beginAt 55 = .ok (.iconst 0, 1) := by decide +kernel
theorem dX8_beginAt_56 : decode cX8_beginAt 56 = .ok (.istore 4, 2) := by decide +kernel
theorem dX8_beginAt_58 : decode cX8_beginAt 58 = .ok (.iload 4, 2) := by decide +kernel
theorem dX8_beginAt_60 : decode cX8_beginAt 60 = .ok (.aload_n 0, 1) := by decide +kernel
theorem dX8_beginAt_61 : decode cX8_beginAt 61 = .ok (.getfield 56, 3) := by decide +kernel
theorem dX8_beginAt_64 : decode cX8_beginAt 64 = .ok (.if_icmp .ge 22, 3) := by decide +kernel
theorem dX8_beginAt_67 : decode cX8_beginAt 67 = .ok (.aload_n 0, 1) := by decide +kernel
theorem dX8_beginAt_68 : decode cX8_beginAt 68 = .ok (.getfield 15, 3) := by decide +kernel
theorem dX8_beginAt_71 : decode cX8_beginAt 71 = .ok (.aload_n 0, 1) := by decide +kernel
theorem dX8_beginAt_72 : decode cX8_beginAt 72 = .ok (.getfield 19, 3) := by decide +kernel
theorem dX8_beginAt_75 : decode cX8_beginAt 75 = .ok (.iload 4, 2) := by decide +kernel
theorem dX8_beginAt_77 : decode cX8_beginAt 77 = .ok (.iaload, 1) := by decide +kernel
theorem dX8_beginAt_78 : decode cX8_beginAt 78 = .ok (.iconst 0, 1) := by decide +kernel
theorem dX8_beginAt_79 : decode cX8_beginAt 79 = .ok (.iastore, 1) := by decide +kernel
theorem dX8_beginAt_80 : decode cX8_beginAt 80 = .ok (.iinc 4 1, 3) := by decide +kernel
theorem dX8_beginAt_83 : decode cX8_beginAt 83 = .ok (.goto (-25), 3) := by decide +kernel
theorem dX8_beginAt_86 : decode cX8_beginAt 86 = .ok (.aload_n 0, 1) := by decide +kernel
theorem dX8_beginAt_87 : decode cX8_beginAt 87 = .ok (.aload_n 0, 1) := by decide +kernel
theorem dX8_beginAt_88 : decode cX8_beginAt 88 = .ok (.getfield 38, 3) := by decide +kernel
theorem dX8_beginAt_91 : decode cX8_beginAt 91 = .ok (.getfield 42, 3) := by decide +kernel
theorem dX8_beginAt_94 : decode cX8_beginAt 94 = .ok (.putfield 48, 3) := by decide +kernel
theorem dX8_beginAt_97 : decode cX8_beginAt 97 = .ok (.aload_n 0, 1) := by decide +kernel
theorem dX8_beginAt_98 : decode cX8_beginAt 98 = .ok (.aload_n 0, 1) := by decide +kernel
theorem dX8_beginAt_99 : decode cX8_beginAt 99 = .ok (.getfield 38, 3) := by decide +kernel
theorem dX8_beginAt_102 : decode cX8_beginAt 102 = .ok (.getfield 52, 3) := by decide +kernel
theorem dX8_beginAt_105 : decode cX8_beginAt 105 = .ok (.putfield 49, 3) := by decide +kernel
theorem dX8_beginAt_108 : decode cX8_beginAt 108 = .ok (.aload_n 0, 1) := by decide +kernel
theorem dX8_beginAt_109 : decode cX8_beginAt 109 = .ok (.iload_n 1, 1) := by decide +kernel
theorem dX8_beginAt_110 : decode cX8_beginAt 110 = .ok (.putfield 9, 3) := by decide +kernel
theorem dX8_beginAt_113 : decode cX8_beginAt 113 = .ok (.aload_n 0, 1) := by decide +kernel
theorem dX8_beginAt_114 : decode cX8_beginAt 114 = .ok (.iload_n 2, 1) := by decide +kernel
theorem dX8_beginAt_115 : decode cX8_beginAt 115 = .ok (.putfield 53, 3) := by decide +kernel
theorem dX8_beginAt_118 : decode cX8_beginAt 118 = .ok (.aload_n 0, 1) := by decide +kernel
theorem dX8_beginAt_119 : decode cX8_beginAt 119 = .ok (.iconst 0, 1) := by decide +kernel
theorem dX8_beginAt_120 : decode cX8_beginAt 120 = .ok (.putfield 59, 3) := by decide +kernel
theorem dX8_beginAt_123 : decode cX8_beginAt 123 = .ok (.aload_n 0, 1) := by decide +kernel
theorem dX8_beginAt_124 : decode cX8_beginAt 124 = .ok (.iconst 0, 1) := by decide +kernel
theorem dX8_beginAt_125 : decode cX8_beginAt 125 = .ok (.putfield 56, 3) := by decide +kernel
theorem dX8_beginAt_128 : decode cX8_beginAt 128 = .ok (.aload_n 0, 1) := by decide +kernel
theorem dX8_beginAt_129 : decode cX8_beginAt 129 = .ok (.iload_n 1, 1) := by decide +kernel
theorem dX8_beginAt_130 : decode cX8_beginAt 130 = .ok (.bipush 10, 2) := by decide +kernel
theorem dX8_beginAt_132 : decode cX8_beginAt 132 = .ok (.imul, 1) := by decide +kernel
theorem dX8_beginAt_133 : decode cX8_beginAt 133 = .ok (.iload_n 2, 1) := by decide +kernel
theorem dX8_beginAt_134 : decode cX8_beginAt 134 = .ok (.iadd, 1) := by decide +kernel
theorem dX8_beginAt_135 : decode cX8_beginAt 135 = .ok (.iconst (-1), 1) := by decide +kernel
theorem dX8_beginAt_136 : decode cX8_beginAt 136 = .ok (.invokevirtual 62, 3) := by decide +kernel
theorem dX8_beginAt_139 : decode cX8_beginAt 139 = .ok (.return_, 1) := by decide +kernel
theorem dX8_find_0 : decode cX8_find 0 = .ok (.iload_n 1, 1) := by decide +kernel
theorem dX8_find_1 : decode cX8_find 1 = .ok (.ifCond .lt 56, 3) := by decide +kernel
theorem dX8_find_4 : decode cX8_find 4 = .ok (.iload_n 1, 1) := by decide +kernel
theorem dX8_find_5 : decode cX8_find 5 = .ok (.sipush 24010, 3) := by decide +kernel
theorem dX8_find_8 : decode cX8_find 8 = .ok (.if_icmp .ge 49, 3) := by decide +kernel
theorem dX8_find_11 : decode cX8_find 11 = .ok (.aload_n 0, 1) := by decide +kernel
theorem dX8_find_12 : decode cX8_find 12 = .ok (.getfield 56, 3) := by decide +kernel
theorem dX8_find_15 : decode cX8_find 15 = .ok (.sipush 24010, 3) := by decide +kernel
theorem dX8_find_18 : decode cX8_find 18 = .ok (.if_icmp .ge 39, 3) := by decide +kernel
theorem dX8_find_21 : decode cX8_find 21 = .ok (.aload_n 0, 1) := by decide +kernel
theorem dX8_find_22 : decode cX8_find 22 = .ok (.getfield 15, 3) := by decide +kernel
theorem dX8_find_25 : decode cX8_find 25 = .ok (.iload_n 1, 1) := by decide +kernel
theorem dX8_find_26 : decode cX8_find 26 = .ok (.iaload, 1) := by decide +kernel
theorem dX8_find_27 : decode cX8_find 27 = .ok (.ifCond .ne 30, 3) := by decide +kernel
theorem dX8_find_30 : decode cX8_find 30 = .ok (.aload_n 0, 1) := by decide +kernel
theorem dX8_find_31 : decode cX8_find 31 = .ok (.getfield 15, 3) := by decide +kernel
theorem dX8_find_34 : decode cX8_find 34 = .ok (.iload_n 1, 1) := by decide +kernel
theorem dX8_find_35 : decode cX8_find 35 = .ok (.iload_n 2, 1) := by decide +kernel
theorem dX8_find_36 : decode cX8_find 36 = .ok (.iastore, 1) := by decide +kernel
theorem dX8_find_37 : decode cX8_find 37 = .ok (.aload_n 0, 1) := by decide +kernel
theorem dX8_find_38 : decode cX8_find 38 = .ok (.getfield 19, 3) := by decide +kernel
theorem dX8_find_41 : decode cX8_find 41 = .ok (.aload_n 0, 1) := by decide +kernel
theorem dX8_find_42 : decode cX8_find 42 = .ok (.getfield 56, 3) := by decide +kernel
theorem dX8_find_45 : decode cX8_find 45 = .ok (.iload_n 1, 1) := by decide +kernel
theorem dX8_find_46 : decode cX8_find 46 = .ok (.iastore, 1) := by decide +kernel
theorem dX8_find_47 : decode cX8_find 47 = .ok (.aload_n 0, 1) := by decide +kernel
theorem dX8_find_48 : decode cX8_find 48 = .ok (.dup, 1) := by decide +kernel
theorem dX8_find_49 : decode cX8_find 49 = .ok (.getfield 56, 3) := by decide +kernel
theorem dX8_find_52 : decode cX8_find 52 = .ok (.iconst 1, 1) := by decide +kernel
theorem dX8_find_53 : decode cX8_find 53 = .ok (.iadd, 1) := by decide +kernel
theorem dX8_find_54 : decode cX8_find 54 = .ok (.putfield 56, 3) := by decide +kernel
theorem dX8_find_57 : decode cX8_find 57 = .ok (.return_, 1) := by decide +kernel
theorem dX8_laySets_0 : decode cX8_laySets 0 = .ok (.aload_n 0, 1) := by decide +kernel
theorem dX8_laySets_1 : decode cX8_laySets 1 = .ok (.iconst 0, 1) := by decide +kernel
theorem dX8_laySets_2 : decode cX8_laySets 2 = .ok (.putfield 66, 3) := by decide +kernel
theorem dX8_laySets_5 : decode cX8_laySets 5 = .ok (.aload_n 0, 1) := by decide +kernel
theorem dX8_laySets_6 : decode cX8_laySets 6 = .ok (.iconst 0, 1) := by decide +kernel
theorem dX8_laySets_7 : decode cX8_laySets 7 = .ok (.putfield 69, 3) := by decide +kernel
theorem dX8_laySets_10 : decode cX8_laySets 10 = .ok (.iload_n 1, 1) := by decide +kernel
theorem dX8_laySets_11 : decode cX8_laySets 11 = .ok (.istore_n 3, 1) := by decide +kernel
theorem dX8_laySets_12 : decode cX8_laySets 12 = .ok (.iconst 0, 1) := by decide +kernel
theorem dX8_laySets_13 : decode cX8_laySets 13 = .ok (.istore 4, 2) := by decide +kernel
theorem dX8_laySets_15 : decode cX8_laySets 15 = .ok (.iload 4, 2) := by decide +kernel
theorem dX8_laySets_17 : decode cX8_laySets 17 = .ok (.aload_n 0, 1) := by decide +kernel
theorem dX8_laySets_18 : decode cX8_laySets 18 = .ok (.getfield 48, 3) := by decide +kernel
theorem dX8_laySets_21 : decode cX8_laySets 21 = .ok (.getfield 72, 3) := by decide +kernel
theorem dX8_laySets_24 : decode cX8_laySets 24 = .ok (.if_icmp .ge 120, 3) := by decide +kernel
theorem dX8_laySets_27 : decode cX8_laySets 27 = .ok (.iload_n 3, 1) := by decide +kernel
theorem dX8_laySets_28 : decode cX8_laySets 28 = .ok (.bipush 7, 2) := by decide +kernel
theorem dX8_laySets_30 : decode cX8_laySets 30 = .ok (.irem, 1) := by decide +kernel
theorem dX8_laySets_31 : decode cX8_laySets 31 = .ok (.iconst 1, 1) := by decide +kernel
theorem dX8_laySets_32 : decode cX8_laySets 32 = .ok (.iadd, 1) := by decide +kernel
theorem dX8_laySets_33 : decode cX8_laySets 33 = .ok (.istore 5, 2) := by decide +kernel
theorem dX8_laySets_35 : decode cX8_laySets 35 = .ok (.iload_n 3, 1) := by decide +kernel
theorem dX8_laySets_36 : decode cX8_laySets 36 = .ok (.bipush 7, 2) := by decide +kernel
theorem dX8_laySets_38 : decode cX8_laySets 38 = .ok (.idiv, 1) := by decide +kernel
theorem dX8_laySets_39 : decode cX8_laySets 39 = .ok (.istore_n 3, 1) := by decide +kernel
theorem dX8_laySets_40 : decode cX8_laySets 40 = .ok (.iload 5, 2) := by decide +kernel
theorem dX8_laySets_42 : decode cX8_laySets 42 = .ok (.aload_n 0, 1) := by decide +kernel
theorem dX8_laySets_43 : decode cX8_laySets 43 = .ok (.getfield 48, 3) := by decide +kernel
theorem dX8_laySets_46 : decode cX8_laySets 46 = .ok (.getfield 77, 3) := by decide +kernel
theorem dX8_laySets_49 : decode cX8_laySets 49 = .ok (.if_icmp .le 16, 3) := by decide +kernel
theorem dX8_laySets_52 : decode cX8_laySets 52 = .ok (.aload_n 0, 1) := by decide +kernel
theorem dX8_laySets_53 : decode cX8_laySets 53 = .ok (.dup, 1) := by decide +kernel
theorem dX8_laySets_54 : decode cX8_laySets 54 = .ok (.getfield 69, 3) := by decide +kernel
theorem dX8_laySets_57 : decode cX8_laySets 57 = .ok (.iconst 1, 1) := by decide +kernel
theorem dX8_laySets_58 : decode cX8_laySets 58 = .ok (.iadd, 1) := by decide +kernel
theorem dX8_laySets_59 : decode cX8_laySets 59 = .ok (.putfield 69, 3) := by decide +kernel
theorem dX8_laySets_62 : decode cX8_laySets 62 = .ok (.goto 76, 3) := by decide +kernel
theorem dX8_laySets_65 : decode cX8_laySets 65 = .ok (.iconst 1, 1) := by decide +kernel
theorem dX8_laySets_66 : decode cX8_laySets 66 = .ok (.iload 4, 2) := by decide +kernel
theorem dX8_laySets_68 : decode cX8_laySets 68 = .ok (.ishl, 1) := by decide +kernel
theorem dX8_laySets_69 : decode cX8_laySets 69 = .ok (.istore 6, 2) := by decide +kernel
theorem dX8_laySets_71 : decode cX8_laySets 71 = .ok (.aload_n 0, 1) := by decide +kernel
theorem dX8_laySets_72 : decode cX8_laySets 72 = .ok (.dup, 1) := by decide +kernel
theorem dX8_laySets_73 : decode cX8_laySets 73 = .ok (.getfield 66, 3) := by decide +kernel
theorem dX8_laySets_76 : decode cX8_laySets 76 = .ok (.iload 6, 2) := by decide +kernel
theorem dX8_laySets_78 : decode cX8_laySets 78 = .ok (.ior, 1) := by decide +kernel
theorem dX8_laySets_79 : decode cX8_laySets 79 = .ok (.putfield 66, 3) := by decide +kernel
theorem dX8_laySets_82 : decode cX8_laySets 82 = .ok (.aload_n 0, 1) := by decide +kernel
theorem dX8_laySets_83 : decode cX8_laySets 83 = .ok (.getfield 29, 3) := by decide +kernel
theorem dX8_laySets_86 : decode cX8_laySets 86 = .ok (.iload 6, 2) := by decide +kernel
theorem dX8_laySets_88 : decode cX8_laySets 88 = .ok (.aload_n 0, 1) := by decide +kernel
theorem dX8_laySets_89 : decode cX8_laySets 89 = .ok (.getfield 38, 3) := by decide +kernel
theorem dX8_laySets_92 : decode cX8_laySets 92 = .ok (.iload 4, 2) := by decide +kernel
theorem dX8_laySets_94 : decode cX8_laySets 94 = .ok (.iload 5, 2) := by decide +kernel
theorem dX8_laySets_96 : decode cX8_laySets 96 = .ok (.iload_n 2, 1) := by decide +kernel
theorem dX8_laySets_97 : decode cX8_laySets 97 = .ok (.invokevirtual 80, 3) := by decide +kernel
theorem dX8_laySets_100 : decode cX8_laySets 100 = .ok (.iastore, 1) := by decide +kernel
theorem dX8_laySets_101 : decode cX8_laySets 101 = .ok (.aload_n 0, 1) := by decide +kernel
theorem dX8_laySets_102 : decode cX8_laySets 102 = .ok (.getfield 32, 3) := by decide +kernel
theorem dX8_laySets_105 : decode cX8_laySets 105 = .ok (.iload 6, 2) := by decide +kernel
theorem dX8_laySets_107 : decode cX8_laySets 107 = .ok (.getstatic 84, 3) := by decide +kernel
theorem dX8_laySets_110 : decode cX8_laySets 110 = .ok (.iload 4, 2) := by decide +kernel
theorem dX8_laySets_112 : decode cX8_laySets 112 = .ok (.iaload, 1) := by decide +kernel
theorem dX8_laySets_113 : decode cX8_laySets 113 = .ok (.iastore, 1) := by decide +kernel
theorem dX8_laySets_114 : decode cX8_laySets 114 = .ok (.aload_n 0, 1) := by decide +kernel
theorem dX8_laySets_115 : decode cX8_laySets 115 = .ok (.getfield 35, 3) := by decide +kernel
theorem dX8_laySets_118 : decode cX8_laySets 118 = .ok (.iload 6, 2) := by decide +kernel
theorem dX8_laySets_120 : decode cX8_laySets 120 = .ok (.iload 5, 2) := by decide +kernel
theorem dX8_laySets_122 : decode cX8_laySets 122 = .ok (.aload_n 0, 1) := by decide +kernel
theorem dX8_laySets_123 : decode cX8_laySets 123 = .ok (.getfield 48, 3) := by decide +kernel
theorem dX8_laySets_126 : decode cX8_laySets 126 = .ok (.getfield 77, 3) := by decide +kernel
theorem dX8_laySets_129 : decode cX8_laySets 129 = .ok (.if_icmp .ne 7, 3) := by decide +kernel
theorem dX8_laySets_132 : decode cX8_laySets 132 = .ok (.iconst 1, 1) := by decide +kernel
theorem dX8_laySets_133 : decode cX8_laySets 133 = .ok (.goto 4, 3) := by decide +kernel
theorem dX8_laySets_136 : decode cX8_laySets 136 = .ok (.iconst 0, 1) := by decide +kernel
theorem dX8_laySets_137 : decode cX8_laySets 137 = .ok (.iastore, 1) := by decide +kernel
theorem dX8_laySets_138 : decode cX8_laySets 138 = .ok (.iinc 4 1, 3) := by decide +kernel
theorem dX8_laySets_141 : decode cX8_laySets 141 = .ok (.goto (-126), 3) := by decide +kernel
theorem dX8_laySets_144 : decode cX8_laySets 144 = .ok (.iconst 1, 1) := by decide +kernel
theorem dX8_laySets_145 : decode cX8_laySets 145 = .ok (.istore 4, 2) := by decide +kernel
theorem dX8_laySets_147 : decode cX8_laySets 147 = .ok (.iload 4, 2) := by decide +kernel
theorem dX8_laySets_149 : decode cX8_laySets 149 = .ok (.aload_n 0, 1) := by decide +kernel
theorem dX8_laySets_150 : decode cX8_laySets 150 = .ok (.getfield 66, 3) := by decide +kernel
theorem dX8_laySets_153 : decode cX8_laySets 153 = .ok (.if_icmp .gt 107, 3) := by decide +kernel
theorem dX8_laySets_156 : decode cX8_laySets 156 = .ok (.iload 4, 2) := by decide +kernel
theorem dX8_laySets_158 : decode cX8_laySets 158 = .ok (.iload 4, 2) := by decide +kernel
theorem dX8_laySets_160 : decode cX8_laySets 160 = .ok (.ineg, 1) := by decide +kernel
theorem dX8_laySets_161 : decode cX8_laySets 161 = .ok (.iand, 1) := by decide +kernel
theorem dX8_laySets_162 : decode cX8_laySets 162 = .ok (.istore 5, 2) := by decide +kernel
theorem dX8_laySets_164 : decode cX8_laySets 164 = .ok (.iload 4, 2) := by decide +kernel
theorem dX8_laySets_166 : decode cX8_laySets 166 = .ok (.iload 5, 2) := by decide +kernel
theorem dX8_laySets_168 : decode cX8_laySets 168 = .ok (.ixor, 1) := by decide +kernel
theorem dX8_laySets_169 : decode cX8_laySets 169 = .ok (.istore 6, 2) := by decide +kernel
theorem dX8_laySets_171 : decode cX8_laySets 171 = .ok (.iload 6, 2) := by decide +kernel
theorem dX8_laySets_173 : decode cX8_laySets 173 = .ok (.ifCond .eq 81, 3) := by decide +kernel
theorem dX8_laySets_176 : decode cX8_laySets 176 = .ok (.iload 4, 2) := by decide +kernel
theorem dX8_laySets_178 : decode cX8_laySets 178 = .ok (.aload_n 0, 1) := by decide +kernel
theorem dX8_laySets_179 : decode cX8_laySets 179 = .ok (.getfield 66, 3) := by decide +kernel
theorem dX8_laySets_182 : decode cX8_laySets 182 = .ok (.iconst (-1), 1) := by decide +kernel
theorem dX8_laySets_183 : decode cX8_laySets 183 = .ok (.ixor, 1) := by decide +kernel
theorem dX8_laySets_184 : decode cX8_laySets 184 = .ok (.iand, 1) := by decide +kernel
theorem dX8_laySets_185 : decode cX8_laySets 185 = .ok (.ifCond .ne 69, 3) := by decide +kernel
theorem dX8_laySets_188 : decode cX8_laySets 188 = .ok (.aload_n 0, 1) := by decide +kernel
theorem dX8_laySets_189 : decode cX8_laySets 189 = .ok (.getfield 29, 3) := by decide +kernel
theorem dX8_laySets_192 : decode cX8_laySets 192 = .ok (.iload 4, 2) := by decide +kernel
theorem dX8_laySets_194 : decode cX8_laySets 194 = .ok (.aload_n 0, 1) := by decide +kernel
theorem dX8_laySets_195 : decode cX8_laySets 195 = .ok (.getfield 29, 3) := by decide +kernel
theorem dX8_laySets_198 : decode cX8_laySets 198 = .ok (.iload 5, 2) := by decide +kernel
theorem dX8_laySets_200 : decode cX8_laySets 200 = .ok (.iaload, 1) := by decide +kernel
theorem dX8_laySets_201 : decode cX8_laySets 201 = .ok (.aload_n 0, 1) := by decide +kernel
theorem dX8_laySets_202 : decode cX8_laySets 202 = .ok (.getfield 29, 3) := by decide +kernel
theorem dX8_laySets_205 : decode cX8_laySets 205 = .ok (.iload 6, 2) := by decide +kernel
theorem dX8_laySets_207 : decode cX8_laySets 207 = .ok (.iaload, 1) := by decide +kernel
theorem dX8_laySets_208 : decode cX8_laySets 208 = .ok (.iadd, 1) := by decide +kernel
theorem dX8_laySets_209 : decode cX8_laySets 209 = .ok (.iastore, 1) := by decide +kernel
theorem dX8_laySets_210 : decode cX8_laySets 210 = .ok (.aload_n 0, 1) := by decide +kernel
theorem dX8_laySets_211 : decode cX8_laySets 211 = .ok (.getfield 32, 3) := by decide +kernel
theorem dX8_laySets_214 : decode cX8_laySets 214 = .ok (.iload 4, 2) := by decide +kernel
theorem dX8_laySets_216 : decode cX8_laySets 216 = .ok (.aload_n 0, 1) := by decide +kernel
theorem dX8_laySets_217 : decode cX8_laySets 217 = .ok (.getfield 32, 3) := by decide +kernel
theorem dX8_laySets_220 : decode cX8_laySets 220 = .ok (.iload 5, 2) := by decide +kernel
theorem dX8_laySets_222 : decode cX8_laySets 222 = .ok (.iaload, 1) := by decide +kernel
theorem dX8_laySets_223 : decode cX8_laySets 223 = .ok (.aload_n 0, 1) := by decide +kernel
theorem dX8_laySets_224 : decode cX8_laySets 224 = .ok (.getfield 32, 3) := by decide +kernel
theorem dX8_laySets_227 : decode cX8_laySets 227 = .ok (.iload 6, 2) := by decide +kernel
theorem dX8_laySets_229 : decode cX8_laySets 229 = .ok (.iaload, 1) := by decide +kernel
theorem dX8_laySets_230 : decode cX8_laySets 230 = .ok (.iadd, 1) := by decide +kernel
theorem dX8_laySets_231 : decode cX8_laySets 231 = .ok (.iastore, 1) := by decide +kernel
theorem dX8_laySets_232 : decode cX8_laySets 232 = .ok (.aload_n 0, 1) := by decide +kernel
theorem dX8_laySets_233 : decode cX8_laySets 233 = .ok (.getfield 35, 3) := by decide +kernel
theorem dX8_laySets_236 : decode cX8_laySets 236 = .ok (.iload 4, 2) := by decide +kernel
theorem dX8_laySets_238 : decode cX8_laySets 238 = .ok (.aload_n 0, 1) := by decide +kernel
theorem dX8_laySets_239 : decode cX8_laySets 239 = .ok (.getfield 35, 3) := by decide +kernel
theorem dX8_laySets_242 : decode cX8_laySets 242 = .ok (.iload 5, 2) := by decide +kernel
theorem dX8_laySets_244 : decode cX8_laySets 244 = .ok (.iaload, 1) := by decide +kernel
theorem dX8_laySets_245 : decode cX8_laySets 245 = .ok (.aload_n 0, 1) := by decide +kernel
theorem dX8_laySets_246 : decode cX8_laySets 246 = .ok (.getfield 35, 3) := by decide +kernel
theorem dX8_laySets_249 : decode cX8_laySets 249 = .ok (.iload 6, 2) := by decide +kernel
theorem dX8_laySets_251 : decode cX8_laySets 251 = .ok (.iaload, 1) := by decide +kernel
theorem dX8_laySets_252 : decode cX8_laySets 252 = .ok (.iadd, 1) := by decide +kernel
theorem dX8_laySets_253 : decode cX8_laySets 253 = .ok (.iastore, 1) := by decide +kernel
theorem dX8_laySets_254 : decode cX8_laySets 254 = .ok (.iinc 4 1, 3) := by decide +kernel
theorem dX8_laySets_257 : decode cX8_laySets 257 = .ok (.goto (-110), 3) := by decide +kernel
theorem dX8_laySets_260 : decode cX8_laySets 260 = .ok (.return_, 1) := by decide +kernel
theorem dX8_depthThen_0 : decode cX8_depthThen 0 = .ok (.aload_n 0, 1) := by decide +kernel
theorem dX8_depthThen_1 : decode cX8_depthThen 1 = .ok (.getfield 38, 3) := by decide +kernel
theorem dX8_depthThen_4 : decode cX8_depthThen 4 = .ok (.iload_n 1, 1) := by decide +kernel
theorem dX8_depthThen_5 : decode cX8_depthThen 5 = .ok (.aload_n 0, 1) := by decide +kernel
theorem dX8_depthThen_6 : decode cX8_depthThen 6 = .ok (.getfield 29, 3) := by decide +kernel
theorem dX8_depthThen_9 : decode cX8_depthThen 9 = .ok (.iload_n 2, 1) := by decide +kernel
theorem dX8_depthThen_10 : decode cX8_depthThen 10 = .ok (.iaload, 1) := by decide +kernel
theorem dX8_depthThen_11 : decode cX8_depthThen 11 = .ok (.iload_n 2, 1) := by decide +kernel
theorem dX8_depthThen_12 : decode cX8_depthThen 12 = .ok (.invokestatic 87, 3) := by decide +kernel
theorem dX8_depthThen_15 : decode cX8_depthThen 15 = .ok (.aload_n 0, 1) := by decide +kernel
theorem dX8_depthThen_16 : decode cX8_depthThen 16 = .ok (.getfield 69, 3) := by decide +kernel
theorem dX8_depthThen_19 : decode cX8_depthThen 19 = .ok (.aload_n 0, 1) := by decide +kernel
theorem dX8_depthThen_20 : decode cX8_depthThen 20 = .ok (.getfield 35, 3) := by decide +kernel
theorem dX8_depthThen_23 : decode cX8_depthThen 23 = .ok (.iload_n 2, 1) := by decide +kernel
theorem dX8_depthThen_24 : decode cX8_depthThen 24 = .ok (.iaload, 1) := by decide +kernel
theorem dX8_depthThen_25 : decode cX8_depthThen 25 = .ok (.iadd, 1) := by decide +kernel
theorem dX8_depthThen_26 : decode cX8_depthThen 26 = .ok (.invokevirtual 93, 3) := by decide +kernel
theorem dX8_depthThen_29 : decode cX8_depthThen 29 = .ok (.ireturn, 1) := by decide +kernel
theorem dX8_lookOn_0 : decode cX8_lookOn 0 = .ok (.aload_n 0, 1) := by decide +kernel
theorem dX8_lookOn_1 : decode cX8_lookOn 1 = .ok (.getfield 59, 3) := by decide +kernel
theorem dX8_lookOn_4 : decode cX8_lookOn 4 = .ok (.aload_n 0, 1) := by decide +kernel
theorem dX8_lookOn_5 : decode cX8_lookOn 5 = .ok (.getfield 56, 3) := by decide +kernel
theorem dX8_lookOn_8 : decode cX8_lookOn 8 = .ok (.if_icmp .lt 5, 3) := by decide +kernel
theorem dX8_lookOn_11 : decode cX8_lookOn 11 = .ok (.iconst 0, 1) := by decide +kernel
theorem dX8_lookOn_12 : decode cX8_lookOn 12 = .ok (.ireturn, 1) := by decide +kernel
theorem dX8_lookOn_13 : decode cX8_lookOn 13 = .ok (.aload_n 0, 1) := by decide +kernel

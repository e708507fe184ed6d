theorem dX3_init_0 : decode cX3_init 0 = .ok (.aload_n 0, 1) := by decide +kernel
theorem dX3_init_1 : decode cX3_init 1 = .ok (.invokespecial 1, 3) := by decide +kernel
theorem dX3_init_4 : decode cX3_init 4 = .ok (.aload_n 0, 1) := by decide +kernel
theorem dX3_init_5 : decode cX3_init 5 = .ok (.sipush 551, 3) := by decide +kernel
theorem dX3_init_8 : decode cX3_init 8 = .ok (.newarray .int, 2) := by decide +kernel
theorem dX3_init_10 : decode cX3_init 10 = .ok (.putfield 7, 3) := by decide +kernel
theorem dX3_init_13 : decode cX3_init 13 = .ok (.aload_n 0, 1) := by decide +kernel
theorem dX3_init_14 : decode cX3_init 14 = .ok (.sipush 3306, 3) := by decide +kernel
theorem dX3_init_17 : decode cX3_init 17 = .ok (.newarray .int, 2) := by decide +kernel
theorem dX3_init_19 : decode cX3_init 19 = .ok (.putfield 13, 3) := by decide +kernel
theorem dX3_init_22 : decode cX3_init 22 = .ok (.aload_n 0, 1) := by decide +kernel
theorem dX3_init_23 : decode cX3_init 23 = .ok (.bipush 60, 2) := by decide +kernel
theorem dX3_init_25 : decode cX3_init 25 = .ok (.newarray .int, 2) := by decide +kernel
theorem dX3_init_27 : decode cX3_init 27 = .ok (.putfield 16, 3) := by decide +kernel
theorem dX3_init_30 : decode cX3_init 30 = .ok (.aload_n 0, 1) := by decide +kernel
theorem dX3_init_31 : decode cX3_init 31 = .ok (.bipush 40, 2) := by decide +kernel
theorem dX3_init_33 : decode cX3_init 33 = .ok (.newarray .int, 2) := by decide +kernel
theorem dX3_init_35 : decode cX3_init 35 = .ok (.putfield 19, 3) := by decide +kernel
theorem dX3_init_38 : decode cX3_init 38 = .ok (.aload_n 0, 1) := by decide +kernel
theorem dX3_init_39 : decode cX3_init 39 = .ok (.bipush 40, 2) := by decide +kernel
theorem dX3_init_41 : decode cX3_init 41 = .ok (.newarray .int, 2) := by decide +kernel
theorem dX3_init_43 : decode cX3_init 43 = .ok (.putfield 22, 3) := by decide +kernel
theorem dX3_init_46 : decode cX3_init 46 = .ok (.aload_n 0, 1) := by decide +kernel
theorem dX3_init_47 : decode cX3_init 47 = .ok (.bipush 12, 2) := by decide +kernel
theorem dX3_init_49 : decode cX3_init 49 = .ok (.newarray .int, 2) := by decide +kernel
theorem dX3_init_51 : decode cX3_init 51 = .ok (.putfield 25, 3) := by decide +kernel
theorem dX3_init_54 : decode cX3_init 54 = .ok (.aload_n 0, 1) := by decide +kernel
theorem dX3_init_55 : decode cX3_init 55 = .ok (.bipush 12, 2) := by decide +kernel
theorem dX3_init_57 : decode cX3_init 57 = .ok (.newarray .int, 2) := by decide +kernel
theorem dX3_init_59 : decode cX3_init 59 = .ok (.putfield 28, 3) := by decide +kernel
theorem dX3_init_62 : decode cX3_init 62 = .ok (.aload_n 0, 1) := by decide +kernel
theorem dX3_init_63 : decode cX3_init 63 = .ok (.bipush 12, 2) := by decide +kernel
theorem dX3_init_65 : decode cX3_init 65 = .ok (.newarray .int, 2) := by decide +kernel
theorem dX3_init_67 : decode cX3_init 67 = .ok (.putfield 31, 3) := by decide +kernel
theorem dX3_init_70 : decode cX3_init 70 = .ok (.aload_n 0, 1) := by decide +kernel
theorem dX3_init_71 : decode cX3_init 71 = .ok (.bipush 12, 2) := by decide +kernel
theorem dX3_init_73 : decode cX3_init 73 = .ok (.newarray .int, 2) := by decide +kernel
theorem dX3_init_75 : decode cX3_init 75 = .ok (.putfield 34, 3) := by decide +kernel
theorem dX3_init_78 : decode cX3_init 78 = .ok (.aload_n 0, 1) := by decide +kernel
theorem dX3_init_79 : decode cX3_init 79 = .ok (.getfield 7, 3) := by decide +kernel
theorem dX3_init_82 : decode cX3_init 82 = .ok (.iconst 0, 1) := by decide +kernel
theorem dX3_init_83 : decode cX3_init 83 = .ok (.iconst 3, 1) := by decide +kernel
theorem dX3_init_84 : decode cX3_init 84 = .ok (.iastore, 1) := by decide +kernel
theorem dX3_init_85 : decode cX3_init 85 = .ok (.iconst 0, 1) := by decide +kernel
theorem dX3_init_86 : decode cX3_init 86 = .ok (.istore_n 1, 1) := by decide +kernel
theorem dX3_init_87 : decode cX3_init 87 = .ok (.iload_n 1, 1) := by decide +kernel
theorem dX3_init_88 : decode cX3_init 88 = .ok (.bipush 40, 2) := by decide +kernel
theorem dX3_init_90 : decode cX3_init 90 = .ok (.if_icmp .ge 39, 3) := by decide +kernel
theorem dX3_init_93 : decode cX3_init 93 = .ok (.aload_n 0, 1) := by decide +kernel
theorem dX3_init_94 : decode cX3_init 94 = .ok (.getfield 7, 3) := by decide +kernel
theorem dX3_init_97 : decode cX3_init 97 = .ok (.bipush 40, 2) := by decide +kernel
theorem dX3_init_99 : decode cX3_init 99 = .ok (.iload_n 1, 1) := by decide +kernel
theorem dX3_init_100 : decode cX3_init 100 = .ok (.iadd, 1) := by decide +kernel
theorem dX3_init_101 : decode cX3_init 101 = .ok (.iconst (-1), 1) := by decide +kernel
theorem dX3_init_102 : decode cX3_init 102 = .ok (.iastore, 1) := by decide +kernel
theorem dX3_init_103 : decode cX3_init 103 = .ok (.aload_n 0, 1) := by decide +kernel
theorem dX3_init_104 : decode cX3_init 104 = .ok (.getfield 7, 3) := by decide +kernel
theorem dX3_init_107 : decode cX3_init 107 = .ok (.bipush 80, 2) := by decide +kernel
theorem dX3_init_109 : decode cX3_init 109 = .ok (.iload_n 1, 1) := by decide +kernel
theorem dX3_init_110 : decode cX3_init 110 = .ok (.iadd, 1) := by decide +kernel
theorem dX3_init_111 : decode cX3_init 111 = .ok (.iconst (-1), 1) := by decide +kernel
theorem dX3_init_112 : decode cX3_init 112 = .ok (.iastore, 1) := by decide +kernel
theorem dX3_init_113 : decode cX3_init 113 = .ok (.aload_n 0, 1) := by decide +kernel
theorem dX3_init_114 : decode cX3_init 114 = .ok (.getfield 7, 3) := by decide +kernel
theorem dX3_init_117 : decode cX3_init 117 = .ok (.bipush 120, 2) := by decide +kernel
theorem dX3_init_119 : decode cX3_init 119 = .ok (.iload_n 1, 1) := by decide +kernel
theorem dX3_init_120 : decode cX3_init 120 = .ok (.iadd, 1) := by decide +kernel
theorem dX3_init_121 : decode cX3_init 121 = .ok (.iconst (-1), 1) := by decide +kernel
theorem dX3_init_122 : decode cX3_init 122 = .ok (.iastore, 1) := by decide +kernel
theorem dX3_init_123 : decode cX3_init 123 = .ok (.iinc 1 1, 3) := by decide +kernel
theorem dX3_init_126 : decode cX3_init 126 = .ok (.goto (-39), 3) := by decide +kernel
theorem dX3_init_129 : decode cX3_init 129 = .ok (.iconst 0, 1) := by decide +kernel
theorem dX3_init_130 : decode cX3_init 130 = .ok (.istore_n 1, 1) := by decide +kernel
theorem dX3_init_131 : decode cX3_init 131 = .ok (.iload_n 1, 1) := by decide +kernel
theorem dX3_init_132 : decode cX3_init 132 = .ok (.bipush 120, 2) := by decide +kernel
theorem dX3_init_134 : decode cX3_init 134 = .ok (.if_icmp .ge 20, 3) := by decide +kernel
theorem dX3_init_137 : decode cX3_init 137 = .ok (.aload_n 0, 1) := by decide +kernel
theorem dX3_init_138 : decode cX3_init 138 = .ok (.getfield 7, 3) := by decide +kernel
theorem dX3_init_141 : decode cX3_init 141 = .ok (.sipush 160, 3) := by decide +kernel
theorem dX3_init_144 : decode cX3_init 144 = .ok (.iload_n 1, 1) := by decide +kernel
theorem dX3_init_145 : decode cX3_init 145 = .ok (.iadd, 1) := by decide +kernel
theorem dX3_init_146 : decode cX3_init 146 = .ok (.iconst (-1), 1) := by decide +kernel
theorem dX3_init_147 : decode cX3_init 147 = .ok (.iastore, 1) := by decide +kernel
theorem dX3_init_148 : decode cX3_init 148 = .ok (.iinc 1 1, 3) := by decide +kernel
theorem dX3_init_151 : decode cX3_init 151 = .ok (.goto (-20), 3) := by decide +kernel
theorem dX3_init_154 : decode cX3_init 154 = .ok (.iconst 0, 1) := by decide +kernel
theorem dX3_init_155 : decode cX3_init 155 = .ok (.istore_n 1, 1) := by decide +kernel
theorem dX3_init_156 : decode cX3_init 156 = .ok (.iload_n 1, 1) := by decide +kernel
theorem dX3_init_157 : decode cX3_init 157 = .ok (.bipush 10, 2) := by decide +kernel
theorem dX3_init_159 : decode cX3_init 159 = .ok (.if_icmp .ge 20, 3) := by decide +kernel
theorem dX3_init_162 : decode cX3_init 162 = .ok (.aload_n 0, 1) := by decide +kernel
theorem dX3_init_163 : decode cX3_init 163 = .ok (.getfield 7, 3) := by decide +kernel
theorem dX3_init_166 : decode cX3_init 166 = .ok (.sipush 520, 3) := by decide +kernel
theorem dX3_init_169 : decode cX3_init 169 = .ok (.iload_n 1, 1) := by decide +kernel
theorem dX3_init_170 : decode cX3_init 170 = .ok (.iadd, 1) := by decide +kernel
theorem dX3_init_171 : decode cX3_init 171 = .ok (.iconst 1, 1) := by decide +kernel
theorem dX3_init_172 : decode cX3_init 172 = .ok (.iastore, 1) := by decide +kernel
theorem dX3_init_173 : decode cX3_init 173 = .ok (.iinc 1 1, 3) := by decide +kernel
theorem dX3_init_176 : decode cX3_init 176 = .ok (.goto (-20), 3) := by decide +kernel
theorem dX3_init_179 : decode cX3_init 179 = .ok (.return_, 1) := by decide +kernel
theorem dX3_thrown_0 : decode cX3_thrown 0 = .ok (.aload_n 0, 1) := by decide +kernel
theorem dX3_thrown_1 : decode cX3_thrown 1 = .ok (.getfield 37, 3) := by decide +kernel
theorem dX3_thrown_4 : decode cX3_thrown 4 = .ok (.ireturn, 1) := by decide +kernel
theorem dX3_within_0 : decode cX3_within 0 = .ok (.iload_n 0, 1) := by decide +kernel
theorem dX3_within_1 : decode cX3_within 1 = .ok (.iload_n 1, 1) := by decide +kernel
theorem dX3_within_2 : decode cX3_within 2 = .ok (.if_icmp .lt 12, 3) := by decide +kernel
theorem dX3_within_5 : decode cX3_within 5 = .ok (.iload_n 0, 1) := by decide +kernel
theorem dX3_within_6 : decode cX3_within 6 = .ok (.iload_n 2, 1) := by decide +kernel
theorem dX3_within_7 : decode cX3_within 7 = .ok (.if_icmp .gt 7, 3) := by decide +kernel
theorem dX3_within_10 : decode cX3_within 10 = .ok (.iconst 1, 1) := by decide +kernel
theorem dX3_within_11 : decode cX3_within 11 = .ok (.goto 4, 3) := by decide +kernel
theorem dX3_within_14 : decode cX3_within 14 = .ok (.iconst 0, 1) := by decide +kernel
theorem dX3_within_15 : decode cX3_within 15 = .ok (.ireturn, 1) := by decide +kernel
theorem dX3_isPlot_0 : decode cX3_isPlot 0 = .ok (.iload_n 0, 1) := by decide +kernel
theorem dX3_isPlot_1 : decode cX3_isPlot 1 = .ok (.iconst 0, 1) := by decide +kernel
theorem dX3_isPlot_2 : decode cX3_isPlot 2 = .ok (.bipush 39, 2) := by decide +kernel
theorem dX3_isPlot_4 : decode cX3_isPlot 4 = .ok (.invokestatic 41, 3) := by decide +kernel
theorem dX3_isPlot_7 : decode cX3_isPlot 7 = .ok (.ireturn, 1) := by decide +kernel
theorem dX3_isFamily_0 : decode cX3_isFamily 0 = .ok (.iload_n 0, 1) := by decide +kernel
theorem dX3_isFamily_1 : decode cX3_isFamily 1 = .ok (.iconst 0, 1) := by decide +kernel
theorem dX3_isFamily_2 : decode cX3_isFamily 2 = .ok (.bipush 9, 2) := by decide +kernel
theorem dX3_isFamily_4 : decode cX3_isFamily 4 = .ok (.invokestatic 41, 3) := by decide +kernel
theorem dX3_isFamily_7 : decode cX3_isFamily 7 = .ok (.ireturn, 1) := by decide +kernel
theorem dX3_fails_0 : decode cX3_fails 0 = .ok (.aload_n 0, 1) := by decide +kernel
theorem dX3_fails_1 : decode cX3_fails 1 = .ok (.iload_n 1, 1) := by decide +kernel
theorem dX3_fails_2 : decode cX3_fails 2 = .ok (.putfield 37, 3) := by decide +kernel
theorem dX3_fails_5 : decode cX3_fails 5 = .ok (.iconst 0, 1) := by decide +kernel
theorem dX3_fails_6 : decode cX3_fails 6 = .ok (.ireturn, 1) := by decide +kernel
theorem dX3_buried_0 : decode cX3_buried 0 = .ok (.iconst 0, 1) := by decide +kernel
theorem dX3_buried_1 : decode cX3_buried 1 = .ok (.istore_n 2, 1) := by decide +kernel
theorem dX3_buried_2 : decode cX3_buried 2 = .ok (.iconst 0, 1) := by decide +kernel
theorem dX3_buried_3 : decode cX3_buried 3 = .ok (.istore_n 3, 1) := by decide +kernel
theorem dX3_buried_4 : decode cX3_buried 4 = .ok (.iload_n 3, 1) := by decide +kernel
theorem dX3_buried_5 : decode cX3_buried 5 = .ok (.iconst 3, 1) := by decide +kernel
theorem dX3_buried_6 : decode cX3_buried 6 = .ok (.if_icmp .ge 35, 3) := by decide +kernel
theorem dX3_buried_9 : decode cX3_buried 9 = .ok (.iload_n 2, 1) := by decide +kernel
theorem dX3_buried_10 : decode cX3_buried 10 = .ok (.aload_n 0, 1) := by decide +kernel
theorem dX3_buried_11 : decode cX3_buried 11 = .ok (.getfield 7, 3) := by decide +kernel
theorem dX3_buried_14 : decode cX3_buried 14 = .ok (.sipush 160, 3) := by decide +kernel
theorem dX3_buried_17 : decode cX3_buried 17 = .ok (.iconst 3, 1) := by decide +kernel
theorem dX3_buried_18 : decode cX3_buried 18 = .ok (.iload_n 1, 1) := by decide +kernel
theorem dX3_buried_19 : decode cX3_buried 19 = .ok (.imul, 1) := by decide +kernel
theorem dX3_buried_20 : decode cX3_buried 20 = .ok (.iadd, 1) := by decide +kernel
theorem dX3_buried_21 : decode cX3_buried 21 = .ok (.iload_n 3, 1) := by decide +kernel
theorem dX3_buried_22 : decode cX3_buried 22 = .ok (.iadd, 1) := by decide +kernel
theorem dX3_buried_23 : decode cX3_buried 23 = .ok (.iaload, 1) := by decide +kernel
theorem dX3_buried_24 : decode cX3_buried 24 = .ok (.iconst (-1), 1) := by decide +kernel
theorem dX3_buried_25 : decode cX3_buried 25 = .ok (.if_icmp .ne 7, 3) := by decide +kernel
theorem dX3_buried_28 : decode cX3_buried 28 = .ok (.iconst 0, 1) := by decide +kernel
theorem dX3_buried_29 : decode cX3_buried 29 = .ok (.goto 4, 3) := by decide +kernel
theorem dX3_buried_32 : decode cX3_buried 32 = .ok (.iconst 1, 1) := by decide +kernel
theorem dX3_buried_33 : decode cX3_buried 33 = .ok (.iadd, 1) := by decide +kernel
theorem dX3_buried_34 : decode cX3_buried 34 = .ok (.istore_n 2, 1) := by decide +kernel
theorem dX3_buried_35 : decode cX3_buried 35 = .ok (.iinc 3 1, 3) := by decide +kernel
theorem dX3_buried_38 : decode cX3_buried 38 = .ok (.goto (-34), 3) := by decide +kernel
theorem dX3_buried_41 : decode cX3_buried 41 = .ok (.iload_n 2, 1) := by decide +kernel
theorem dX3_buried_42 : decode cX3_buried 42 = .ok (.ireturn, 1) := by decide +kernel
theorem dX3_rest_0 : decode cX3_rest 0 = .ok (.aload_n 0, 1) := by decide +kernel
theorem dX3_rest_1 : decode cX3_rest 1 = .ok (.getfield 7, 3) := by decide +kernel
theorem dX3_rest_4 : decode cX3_rest 4 = .ok (.iload_n 1, 1) := by decide +kernel
theorem dX3_rest_5 : decode cX3_rest 5 = .ok (.iaload, 1) := by decide +kernel
theorem dX3_rest_6 : decode cX3_rest 6 = .ok (.ifCond .ne 8, 3) := by decide +kernel
theorem dX3_rest_9 : decode cX3_rest 9 = .ok (.bipush 30, 2) := by decide +kernel
theorem dX3_rest_11 : decode cX3_rest 11 = .ok (.goto 20, 3) := by decide +kernel
theorem dX3_rest_14 : decode cX3_rest 14 = .ok (.aload_n 0, 1) := by decide +kernel
theorem dX3_rest_15 : decode cX3_rest 15 = .ok (.getfield 7, 3) := by decide +kernel
theorem dX3_rest_18 : decode cX3_rest 18 = .ok (.iload_n 1, 1) := by decide +kernel
theorem dX3_rest_19 : decode cX3_rest 19 = .ok (.iaload, 1) := by decide +kernel
theorem dX3_rest_20 : decode cX3_rest 20 = .ok (.iconst 1, 1) := by decide +kernel
theorem dX3_rest_21 : decode cX3_rest 21 = .ok (.if_icmp .ne 8, 3) := by decide +kernel
theorem dX3_rest_24 : decode cX3_rest 24 = .ok (.bipush 15, 2) := by decide +kernel
theorem dX3_rest_26 : decode cX3_rest 26 = .ok (.goto 5, 3) := by decide +kernel
theorem dX3_rest_29 : decode cX3_rest 29 = .ok (.bipush 60, 2) := by decide +kernel
theorem dX3_rest_31 : decode cX3_rest 31 = .ok (.ireturn, 1) := by decide +kernel
theorem dX3_isOld_0 : decode cX3_isOld 0 = .ok (.aload_n 0, 1) := by decide +kernel
theorem dX3_isOld_1 : decode cX3_isOld 1 = .ok (.getfield 45, 3) := by decide +kernel
theorem dX3_isOld_4 : decode cX3_isOld 4 = .ok (.aload_n 0, 1) := by decide +kernel
theorem dX3_isOld_5 : decode cX3_isOld 5 = .ok (.getfield 7, 3) := by decide +kernel
theorem dX3_isOld_8 : decode cX3_isOld 8 = .ok (.sipush 280, 3) := by decide +kernel
theorem dX3_isOld_11 : decode cX3_isOld 11 = .ok (.iconst 3, 1) := by decide +kernel
theorem dX3_isOld_12 : decode cX3_isOld 12 = .ok (.iload_n 1, 1) := by decide +kernel
theorem dX3_isOld_13 : decode cX3_isOld 13 = .ok (.imul, 1) := by decide +kernel
theorem dX3_isOld_14 : decode cX3_isOld 14 = .ok (.iadd, 1) := by decide +kernel
theorem dX3_isOld_15 : decode cX3_isOld 15 = .ok (.iload_n 2, 1) := by decide +kernel
theorem dX3_isOld_16 : decode cX3_isOld 16 = .ok (.iadd, 1) := by decide +kernel
theorem dX3_isOld_17 : decode cX3_isOld 17 = .ok (.iaload, 1) := by decide +kernel
theorem dX3_isOld_18 : decode cX3_isOld 18 = .ok (.aload_n 0, 1) := by decide +kernel
theorem dX3_isOld_19 : decode cX3_isOld 19 = .ok (.iload_n 1, 1) := by decide +kernel
theorem dX3_isOld_20 : decode cX3_isOld 20 = .ok (.invokevirtual 48, 3) := by decide +kernel
theorem dX3_isOld_23 : decode cX3_isOld 23 = .ok (.iadd, 1) := by decide +kernel
theorem dX3_isOld_24 : decode cX3_isOld 24 = .ok (.if_icmp .lt 7, 3) := by decide +kernel
theorem dX3_isOld_27 : decode cX3_isOld 27 = .ok (.iconst 1, 1) := by decide +kernel
theorem dX3_isOld_28 : decode cX3_isOld 28 = .ok (.goto 4, 3) := by decide +kernel
theorem dX3_isOld_31 : decode cX3_isOld 31 = .ok (.iconst 0, 1) := by decide +kernel
theorem dX3_isOld_32 : decode cX3_isOld 32 = .ok (.ireturn, 1) := by decide +kernel
theorem dX3_fresh_0 : decode cX3_fresh 0 = .ok (.iconst 0, 1) := by decide +kernel
theorem dX3_fresh_1 : decode cX3_fresh 1 = .ok (.istore_n 2, 1) := by decide +kernel
theorem dX3_fresh_2 : decode cX3_fresh 2 = .ok (.iconst 0, 1) := by decide +kernel
theorem dX3_fresh_3 : decode cX3_fresh 3 = .ok (.istore_n 3, 1) := by decide +kernel
theorem dX3_fresh_4 : decode cX3_fresh 4 = .ok (.iload_n 3, 1) := by decide +kernel
theorem dX3_fresh_5 : decode cX3_fresh 5 = .ok (.iconst 3, 1) := by decide +kernel
theorem dX3_fresh_6 : decode cX3_fresh 6 = .ok (.if_icmp .ge 44, 3) := by decide +kernel
theorem dX3_fresh_9 : decode cX3_fresh 9 = .ok (.iload_n 2, 1) := by decide +kernel
theorem dX3_fresh_10 : decode cX3_fresh 10 = .ok (.aload_n 0, 1) := by decide +kernel
theorem dX3_fresh_11 : decode cX3_fresh 11 = .ok (.getfield 7, 3) := by decide +kernel
theorem dX3_fresh_14 : decode cX3_fresh 14 = .ok (.sipush 160, 3) := by decide +kernel
theorem dX3_fresh_17 : decode cX3_fresh 17 = .ok (.iconst 3, 1) := by decide +kernel
theorem dX3_fresh_18 : decode cX3_fresh 18 = .ok (.iload_n 1, 1) := by decide +kernel
theorem dX3_fresh_19 : decode cX3_fresh 19 = .ok (.imul, 1) := by decide +kernel
theorem dX3_fresh_20 : decode cX3_fresh 20 = .ok (.iadd, 1) := by decide +kernel
theorem dX3_fresh_21 : decode cX3_fresh 21 = .ok (.iload_n 3, 1) := by decide +kernel
theorem dX3_fresh_22 : decode cX3_fresh 22 = .ok (.iadd, 1) := by decide +kernel
theorem dX3_fresh_23 : decode cX3_fresh 23 = .ok (.iaload, 1) := by decide +kernel
theorem dX3_fresh_24 : decode cX3_fresh 24 = .ok (.iconst (-1), 1) := by decide +kernel
theorem dX3_fresh_25 : decode cX3_fresh 25 = .ok (.if_icmp .eq 12, 3) := by decide +kernel
theorem dX3_fresh_28 : decode cX3_fresh 28 = .ok (.aload_n 0, 1) := by decide +kernel
theorem dX3_fresh_29 : decode cX3_fresh 29 = .ok (.iload_n 1, 1) := by decide +kernel
theorem dX3_fresh_30 : decode cX3_fresh 30 = .ok (.iload_n 3, 1) := by decide +kernel
theorem dX3_fresh_31 : decode cX3_fresh 31 = .ok (.invokevirtual 52, 3) := by decide +kernel
theorem dX3_fresh_34 : decode cX3_fresh 34 = .ok (.ifCond .eq 7, 3) := by decide +kernel
theorem dX3_fresh_37 : decode cX3_fresh 37 = .ok (.iconst 0, 1) := by decide +kernel
theorem dX3_fresh_38 : decode cX3_fresh 38 = .ok (.goto 4, 3) := by decide +kernel
theorem dX3_fresh_41 : decode cX3_fresh 41 = .ok (.iconst 1, 1) := by decide +kernel
theorem dX3_fresh_42 : decode cX3_fresh 42 = .ok (.iadd, 1) := by decide +kernel
theorem dX3_fresh_43 : decode cX3_fresh 43 = .ok (.istore_n 2, 1) := by decide +kernel
theorem dX3_fresh_44 : decode cX3_fresh 44 = .ok (.iinc 3 1, 3) := by decide +kernel
theorem dX3_fresh_47 : decode cX3_fresh 47 = .ok (.goto (-43), 3) := by decide +kernel
theorem dX3_fresh_50 : decode cX3_fresh 50 = .ok (.iload_n 2, 1) := by decide +kernel
theorem dX3_fresh_51 : decode cX3_fresh 51 = .ok (.ireturn, 1) := by decide +kernel
theorem dX3_isKept_0 : decode cX3_isKept 0 = .ok (.aload_n 0, 1) := by decide +kernel
theorem dX3_isKept_1 : decode cX3_isKept 1 = .ok (.getfield 7, 3) := by decide +kernel
theorem dX3_isKept_4 : decode cX3_isKept 4 = .ok (.bipush 80, 2) := by decide +kernel
theorem dX3_isKept_6 : decode cX3_isKept 6 = .ok (.iload_n 1, 1) := by decide +kernel
theorem dX3_isKept_7 : decode cX3_isKept 7 = .ok (.iadd, 1) := by decide +kernel
theorem dX3_isKept_8 : decode cX3_isKept 8 = .ok (.iaload, 1) := by decide +kernel
theorem dX3_isKept_9 : decode cX3_isKept 9 = .ok (.iconst (-1), 1) := by decide +kernel
theorem dX3_isKept_10 : decode cX3_isKept 10 = .ok (.if_icmp .eq 23, 3) := by decide +kernel
theorem dX3_isKept_13 : decode cX3_isKept 13 = .ok (.aload_n 0, 1) := by decide +kernel
theorem dX3_isKept_14 : decode cX3_isKept 14 = .ok (.getfield 45, 3) := by decide +kernel
theorem dX3_isKept_17 : decode cX3_isKept 17 = .ok (.aload_n 0, 1) := by decide +kernel
theorem dX3_isKept_18 : decode cX3_isKept 18 = .ok (.getfield 7, 3) := by decide +kernel
theorem dX3_isKept_21 : decode cX3_isKept 21 = .ok (.bipush 120, 2) := by decide +kernel
theorem dX3_isKept_23 : decode cX3_isKept 23 = .ok (.iload_n 1, 1) := by decide +kernel
theorem dX3_isKept_24 : decode cX3_isKept 24 = .ok (.iadd, 1) := by decide +kernel
theorem dX3_isKept_25 : decode cX3_isKept 25 = .ok (.iaload, 1) := by decide +kernel
theorem dX3_isKept_26 : decode cX3_isKept 26 = .ok (.if_icmp .gt 7, 3) := by decide +kernel
theorem dX3_isKept_29 : decode cX3_isKept 29 = .ok (.iconst 1, 1) := by decide +kernel
theorem dX3_isKept_30 : decode cX3_isKept 30 = .ok (.goto 4, 3) := by decide +kernel
theorem dX3_isKept_33 : decode cX3_isKept 33 = .ok (.iconst 0, 1) := by decide +kernel
theorem dX3_isKept_34 : decode cX3_isKept 34 = .ok (.ireturn, 1) := by decide +kernel
theorem dX3_holder_0 : decode cX3_holder 0 = .ok (.aload_n 0, 1) := by decide +kernel
theorem dX3_holder_1 : decode cX3_holder 1 = .ok (.getfield 7, 3) := by decide +kernel
theorem dX3_holder_4 : decode cX3_holder 4 = .ok (.bipush 40, 2) := by decide +kernel
theorem dX3_holder_6 : decode cX3_holder 6 = .ok (.iload_n 1, 1) := by decide +kernel
theorem dX3_holder_7 : decode cX3_holder 7 = .ok (.iadd, 1) := by decide +kernel
theorem dX3_holder_8 : decode cX3_holder 8 = .ok (.iaload, 1) := by decide +kernel
theorem dX3_holder_9 : decode cX3_holder 9 = .ok (.iconst (-1), 1) := by decide +kernel
theorem dX3_holder_10 : decode cX3_holder 10 = .ok (.if_icmp .eq 13, 3) := by decide +kernel
theorem dX3_holder_13 : decode cX3_holder 13 = .ok (.aload_n 0, 1) := by decide +kernel
theorem dX3_holder_14 : decode cX3_holder 14 = .ok (.getfield 7, 3) := by decide +kernel
theorem dX3_holder_17 : decode cX3_holder 17 = .ok (.bipush 40, 2) := by decide +kernel
theorem dX3_holder_19 : decode cX3_holder 19 = .ok (.iload_n 1, 1) := by decide +kernel
theorem dX3_holder_20 : decode cX3_holder 20 = .ok (.iadd, 1) := by decide +kernel
theorem dX3_holder_21 : decode cX3_holder 21 = .ok (.iaload, 1) := by decide +kernel
theorem dX3_holder_22 : decode cX3_holder 22 = .ok (.ireturn, 1) := by decide +kernel
theorem dX3_holder_23 : decode cX3_holder 23 = .ok (.aload_n 0, 1) := by decide +kernel
theorem dX3_holder_24 : decode cX3_holder 24 = .ok (.iload_n 1, 1) := by decide +kernel
theorem dX3_holder_25 : decode cX3_holder 25 = .ok (.invokevirtual 56, 3) := by decide +kernel
theorem dX3_holder_28 : decode cX3_holder 28 = .ok (.ifCond .eq 13, 3) := by decide +kernel
theorem dX3_holder_31 : decode cX3_holder 31 = .ok (.aload_n 0, 1) := by decide +kernel
theorem dX3_holder_32 : decode cX3_holder 32 = .ok (.getfield 7, 3) := by decide +kernel
theorem dX3_holder_35 : decode cX3_holder 35 = .ok (.bipush 80, 2) := by decide +kernel
theorem dX3_holder_37 : decode cX3_holder 37 = .ok (.iload_n 1, 1) := by decide +kernel
theorem dX3_holder_38 : decode cX3_holder 38 = .ok (.iadd, 1) := by decide +kernel
theorem dX3_holder_39 : decode cX3_holder 39 = .ok (.iaload, 1) := by decide +kernel
theorem dX3_holder_40 : decode cX3_holder 40 = .ok (.ireturn, 1) := by decide +kernel
theorem dX3_holder_41 : decode cX3_holder 41 = .ok (.iconst 0, 1) := by decide +kernel
theorem dX3_holder_42 : decode cX3_holder 42 = .ok (.istore_n 2, 1) := by decide +kernel
theorem dX3_holder_43 : decode cX3_holder 43 = .ok (.iload_n 2, 1) := by decide +kernel
theorem dX3_holder_44 : decode cX3_holder 44 = .ok (.iconst 3, 1) := by decide +kernel
theorem dX3_holder_45 : decode cX3_holder 45 = .ok (.if_icmp .ge 51, 3) := by decide +kernel
theorem dX3_holder_48 : decode cX3_holder 48 = .ok (.aload_n 0, 1) := by decide +kernel
theorem dX3_holder_49 : decode cX3_holder 49 = .ok (.getfield 7, 3) := by decide +kernel
theorem dX3_holder_52 : decode cX3_holder 52 = .ok (.sipush 160, 3) := by decide +kernel
theorem dX3_holder_55 : decode cX3_holder 55 = .ok (.iconst 3, 1) := by decide +kernel
theorem dX3_holder_56 : decode cX3_holder 56 = .ok (.iload_n 1, 1) := by decide +kernel
theorem dX3_holder_57 : decode cX3_holder 57 = .ok (.imul, 1) := by decide +kernel
theorem dX3_holder_58 : decode cX3_holder 58 = .ok (.iadd, 1) := by decide +kernel
theorem dX3_holder_59 : decode cX3_holder 59 = .ok (.iload_n 2, 1) := by decide +kernel
theorem dX3_holder_60 : decode cX3_holder 60 = .ok (.iadd, 1) := by decide +kernel
theorem dX3_holder_61 : decode cX3_holder 61 = .ok (.iaload, 1) := by decide +kernel
theorem dX3_holder_62 : decode cX3_holder 62 = .ok (.iconst (-1), 1) := by decide +kernel
theorem dX3_holder_63 : decode cX3_holder 63 = .ok (.if_icmp .eq 27, 3) := by decide +kernel
theorem dX3_holder_66 : decode cX3_holder 66 = .ok (.aload_n 0, 1) := by decide +kernel
theorem dX3_holder_67 : decode cX3_holder 67 = .ok (.iload_n 1, 1) := by decide +kernel
theorem dX3_holder_68 : decode cX3_holder 68 = .ok (.iload_n 2, 1) := by decide +kernel
theorem dX3_holder_69 : decode cX3_holder 69 = .ok (.invokevirtual 52, 3) := by decide +kernel
theorem dX3_holder_72 : decode cX3_holder 72 = .ok (.ifCond .ne 18, 3) := by decide +kernel
theorem dX3_holder_75 : decode cX3_holder 75 = .ok (.aload_n 0, 1) := by decide +kernel
theorem dX3_holder_76 : decode cX3_holder 76 = .ok (.getfield 7, 3) := by decide +kernel
theorem dX3_holder_79 : decode cX3_holder 79 = .ok (.sipush 160, 3) := by decide +kernel
theorem dX3_holder_82 : decode cX3_holder 82 = .ok (.iconst 3, 1) := by decide +kernel
theorem dX3_holder_83 : decode cX3_holder 83 = .ok (.iload_n 1, 1) := by decide +kernel
theorem dX3_holder_84 : decode cX3_holder 84 = .ok (.imul, 1) := by decide +kernel
theorem dX3_holder_85 : decode cX3_holder 85 = .ok (.iadd, 1) := by decide +kernel
theorem dX3_holder_86 : decode cX3_holder 86 = .ok (.iload_n 2, 1) := by decide +kernel
theorem dX3_holder_87 : decode cX3_holder 87 = .ok (.iadd, 1) := by decide +kernel
theorem dX3_holder_88 : decode cX3_holder 88 = .ok (.iaload, 1) := by decide +kernel
theorem dX3_holder_89 : decode cX3_holder 89 = .ok (.ireturn, 1) := by decide +kernel
theorem dX3_holder_90 : decode cX3_holder 90 = .ok (.iinc 2 1, 3) := by decide +kernel
theorem dX3_holder_93 : decode cX3_holder 93 = .ok (.goto (-50), 3) := by decide +kernel
theorem dX3_holder_96 : decode cX3_holder 96 = .ok (.iconst (-1), 1) := by decide +kernel
theorem dX3_holder_97 : decode cX3_holder 97 = .ok (.ireturn, 1) := by decide +kernel
theorem dX3_isOthers_0 : decode cX3_isOthers 0 = .ok (.aload_n 0, 1) := by decide +kernel
theorem dX3_isOthers_1 : decode cX3_isOthers 1 = .ok (.iload_n 2, 1) := by decide +kernel
theorem dX3_isOthers_2 : decode cX3_isOthers 2 = .ok (.invokevirtual 60, 3) := by decide +kernel
theorem dX3_isOthers_5 : decode cX3_isOthers 5 = .ok (.iconst (-1), 1) := by decide +kernel
theorem dX3_isOthers_6 : decode cX3_isOthers 6 = .ok (.if_icmp .eq 16, 3) := by decide +kernel
theorem dX3_isOthers_9 : decode cX3_isOthers 9 = .ok (.aload_n 0, 1) := by decide +kernel
theorem dX3_isOthers_10 : decode cX3_isOthers 10 = .ok (.iload_n 2, 1) := by decide +kernel
theorem dX3_isOthers_11 : decode cX3_isOthers 11 = .ok (.invokevirtual 60, 3) := by decide +kernel
theorem dX3_isOthers_14 : decode cX3_isOthers 14 = .ok (.iload_n 1, 1) := by decide +kernel
theorem dX3_isOthers_15 : decode cX3_isOthers 15 = .ok (.if_icmp .eq 7, 3) := by decide +kernel
theorem dX3_isOthers_18 : decode cX3_isOthers 18 = .ok (.iconst 1, 1) := by decide +kernel
theorem dX3_isOthers_19 : decode cX3_isOthers 19 = .ok (.goto 4, 3) := by decide +kernel
theorem dX3_isOthers_22 : decode cX3_isOthers 22 = .ok (.iconst 0, 1) := by decide +kernel
theorem dX3_isOthers_23 : decode cX3_isOthers 23 = .ok (.ireturn, 1) := by decide +kernel
theorem dX3_deep_0 : decode cX3_deep 0 = .ok (.aload_n 0, 1) := by decide +kernel
theorem dX3_deep_1 : decode cX3_deep 1 = .ok (.getfield 7, 3) := by decide +kernel
theorem dX3_deep_4 : decode cX3_deep 4 = .ok (.iload_n 1, 1) := by decide +kernel
theorem dX3_deep_5 : decode cX3_deep 5 = .ok (.iaload, 1) := by decide +kernel
theorem dX3_deep_6 : decode cX3_deep 6 = .ok (.iconst 3, 1) := by decide +kernel
theorem dX3_deep_7 : decode cX3_deep 7 = .ok (.if_icmp .ne 7, 3) := by decide +kernel
theorem dX3_deep_10 : decode cX3_deep 10 = .ok (.iconst 0, 1) := by decide +kernel
theorem dX3_deep_11 : decode cX3_deep 11 = .ok (.goto 44, 3) := by decide +kernel
theorem dX3_deep_14 : decode cX3_deep 14 = .ok (.aload_n 0, 1) := by decide +kernel
theorem dX3_deep_15 : decode cX3_deep 15 = .ok (.getfield 7, 3) := by decide +kernel
theorem dX3_deep_18 : decode cX3_deep 18 = .ok (.bipush 40, 2) := by decide +kernel
theorem dX3_deep_20 : decode cX3_deep 20 = .ok (.iload_n 1, 1) := by decide +kernel
theorem dX3_deep_21 : decode cX3_deep 21 = .ok (.iadd, 1) := by decide +kernel
theorem dX3_deep_22 : decode cX3_deep 22 = .ok (.iaload, 1) := by decide +kernel
theorem dX3_deep_23 : decode cX3_deep 23 = .ok (.iconst (-1), 1) := by decide +kernel
theorem dX3_deep_24 : decode cX3_deep 24 = .ok (.if_icmp .ne 12, 3) := by decide +kernel
theorem dX3_deep_27 : decode cX3_deep 27 = .ok (.aload_n 0, 1) := by decide +kernel
theorem dX3_deep_28 : decode cX3_deep 28 = .ok (.getfield 7, 3) := by decide +kernel
theorem dX3_deep_31 : decode cX3_deep 31 = .ok (.iload_n 1, 1) := by decide +kernel
theorem dX3_deep_32 : decode cX3_deep 32 = .ok (.iaload, 1) := by decide +kernel
theorem dX3_deep_33 : decode cX3_deep 33 = .ok (.ifCond .ne 7, 3) := by decide +kernel
theorem dX3_deep_36 : decode cX3_deep 36 = .ok (.iconst 3, 1) := by decide +kernel
theorem dX3_deep_37 : decode cX3_deep 37 = .ok (.goto 18, 3) := by decide +kernel

theorem dL_spread_70 : decode cL_spread 70 = .ok (.iand, 1) := by decide +kernel
theorem dL_spread_71 : decode cL_spread 71 = .ok (.iconst 3, 1) := by decide +kernel
theorem dL_spread_72 : decode cL_spread 72 = .ok (.if_icmp .eq 12, 3) := by decide +kernel
theorem dL_spread_75 : decode cL_spread 75 = .ok (.aload_n 2, 1) := by decide +kernel
theorem dL_spread_76 : decode cL_spread 76 = .ok (.iload 5, 2) := by decide +kernel
theorem dL_spread_78 : decode cL_spread 78 = .ok (.invokestatic 38, 3) := by decide +kernel
theorem dL_spread_81 : decode cL_spread 81 = .ok (.ifCond .gt 23, 3) := by decide +kernel
theorem dL_spread_84 : decode cL_spread 84 = .ok (.iload 5, 2) := by decide +kernel
theorem dL_spread_86 : decode cL_spread 86 = .ok (.aload_n 3, 1) := by decide +kernel
theorem dL_spread_87 : decode cL_spread 87 = .ok (.invokestatic 42, 3) := by decide +kernel
theorem dL_spread_90 : decode cL_spread 90 = .ok (.ifCond .ne 6, 3) := by decide +kernel
theorem dL_spread_93 : decode cL_spread 93 = .ok (.goto 11, 3) := by decide +kernel
theorem dL_spread_96 : decode cL_spread 96 = .ok (.aload_n 3, 1) := by decide +kernel
theorem dL_spread_97 : decode cL_spread 97 = .ok (.iload 5, 2) := by decide +kernel
theorem dL_spread_99 : decode cL_spread 99 = .ok (.iconst 1, 1) := by decide +kernel
theorem dL_spread_100 : decode cL_spread 100 = .ok (.iastore, 1) := by decide +kernel
theorem dL_spread_101 : decode cL_spread 101 = .ok (.iconst 1, 1) := by decide +kernel
theorem dL_spread_102 : decode cL_spread 102 = .ok (.istore 4, 2) := by decide +kernel
theorem dL_spread_104 : decode cL_spread 104 = .ok (.iinc 5 1, 3) := by decide +kernel
theorem dL_spread_107 : decode cL_spread 107 = .ok (.goto (-63), 3) := by decide +kernel
theorem dL_spread_110 : decode cL_spread 110 = .ok (.goto (-77), 3) := by decide +kernel
theorem dL_spread_113 : decode cL_spread 113 = .ok (.return_, 1) := by decide +kernel
theorem dL_beside_0 : decode cL_beside 0 = .ok (.iload_n 0, 1) := by decide +kernel
theorem dL_beside_1 : decode cL_beside 1 = .ok (.bipush 7, 2) := by decide +kernel
theorem dL_beside_3 : decode cL_beside 3 = .ok (.if_icmp .le 13, 3) := by decide +kernel
theorem dL_beside_6 : decode cL_beside 6 = .ok (.aload_n 1, 1) := by decide +kernel
theorem dL_beside_7 : decode cL_beside 7 = .ok (.iload_n 0, 1) := by decide +kernel
theorem dL_beside_8 : decode cL_beside 8 = .ok (.bipush 8, 2) := by decide +kernel
theorem dL_beside_10 : decode cL_beside 10 = .ok (.isub, 1) := by decide +kernel
theorem dL_beside_11 : decode cL_beside 11 = .ok (.iaload, 1) := by decide +kernel
theorem dL_beside_12 : decode cL_beside 12 = .ok (.iconst 1, 1) := by decide +kernel
theorem dL_beside_13 : decode cL_beside 13 = .ok (.if_icmp .eq 19, 3) := by decide +kernel
theorem dL_beside_16 : decode cL_beside 16 = .ok (.iload_n 0, 1) := by decide +kernel
theorem dL_beside_17 : decode cL_beside 17 = .ok (.bipush 32, 2) := by decide +kernel
theorem dL_beside_19 : decode cL_beside 19 = .ok (.if_icmp .ge 17, 3) := by decide +kernel
theorem dL_beside_22 : decode cL_beside 22 = .ok (.aload_n 1, 1) := by decide +kernel
theorem dL_beside_23 : decode cL_beside 23 = .ok (.iload_n 0, 1) := by decide +kernel
theorem dL_beside_24 : decode cL_beside 24 = .ok (.bipush 8, 2) := by decide +kernel
theorem dL_beside_26 : decode cL_beside 26 = .ok (.iadd, 1) := by decide +kernel
theorem dL_beside_27 : decode cL_beside 27 = .ok (.iaload, 1) := by decide +kernel
theorem dL_beside_28 : decode cL_beside 28 = .ok (.iconst 1, 1) := by decide +kernel
theorem dL_beside_29 : decode cL_beside 29 = .ok (.if_icmp .ne 7, 3) := by decide +kernel
theorem dL_beside_32 : decode cL_beside 32 = .ok (.iconst 1, 1) := by decide +kernel
theorem dL_beside_33 : decode cL_beside 33 = .ok (.goto 4, 3) := by decide +kernel
theorem dL_beside_36 : decode cL_beside 36 = .ok (.iconst 0, 1) := by decide +kernel
theorem dL_beside_37 : decode cL_beside 37 = .ok (.istore_n 2, 1) := by decide +kernel
theorem dL_beside_38 : decode cL_beside 38 = .ok (.iload_n 2, 1) := by decide +kernel
theorem dL_beside_39 : decode cL_beside 39 = .ok (.ifCond .ne 37, 3) := by decide +kernel
theorem dL_beside_42 : decode cL_beside 42 = .ok (.iload_n 0, 1) := by decide +kernel
theorem dL_beside_43 : decode cL_beside 43 = .ok (.bipush 8, 2) := by decide +kernel
theorem dL_beside_45 : decode cL_beside 45 = .ok (.irem, 1) := by decide +kernel
theorem dL_beside_46 : decode cL_beside 46 = .ok (.ifCond .le 12, 3) := by decide +kernel
theorem dL_beside_49 : decode cL_beside 49 = .ok (.aload_n 1, 1) := by decide +kernel
theorem dL_beside_50 : decode cL_beside 50 = .ok (.iload_n 0, 1) := by decide +kernel
theorem dL_beside_51 : decode cL_beside 51 = .ok (.iconst 1, 1) := by decide +kernel
theorem dL_beside_52 : decode cL_beside 52 = .ok (.isub, 1) := by decide +kernel
theorem dL_beside_53 : decode cL_beside 53 = .ok (.iaload, 1) := by decide +kernel
theorem dL_beside_54 : decode cL_beside 54 = .ok (.iconst 1, 1) := by decide +kernel
theorem dL_beside_55 : decode cL_beside 55 = .ok (.if_icmp .eq 21, 3) := by decide +kernel
theorem dL_beside_58 : decode cL_beside 58 = .ok (.iload_n 0, 1) := by decide +kernel
theorem dL_beside_59 : decode cL_beside 59 = .ok (.bipush 8, 2) := by decide +kernel
theorem dL_beside_61 : decode cL_beside 61 = .ok (.irem, 1) := by decide +kernel
theorem dL_beside_62 : decode cL_beside 62 = .ok (.bipush 7, 2) := by decide +kernel
theorem dL_beside_64 : decode cL_beside 64 = .ok (.if_icmp .ge 16, 3) := by decide +kernel
theorem dL_beside_67 : decode cL_beside 67 = .ok (.aload_n 1, 1) := by decide +kernel
theorem dL_beside_68 : decode cL_beside 68 = .ok (.iload_n 0, 1) := by decide +kernel
theorem dL_beside_69 : decode cL_beside 69 = .ok (.iconst 1, 1) := by decide +kernel
theorem dL_beside_70 : decode cL_beside 70 = .ok (.iadd, 1) := by decide +kernel
theorem dL_beside_71 : decode cL_beside 71 = .ok (.iaload, 1) := by decide +kernel
theorem dL_beside_72 : decode cL_beside 72 = .ok (.iconst 1, 1) := by decide +kernel
theorem dL_beside_73 : decode cL_beside 73 = .ok (.if_icmp .ne 7, 3) := by decide +kernel
theorem dL_beside_76 : decode cL_beside 76 = .ok (.iconst 1, 1) := by decide +kernel
theorem dL_beside_77 : decode cL_beside 77 = .ok (.goto 4, 3) := by decide +kernel
theorem dL_beside_80 : decode cL_beside 80 = .ok (.iconst 0, 1) := by decide +kernel
theorem dL_beside_81 : decode cL_beside 81 = .ok (.ireturn, 1) := by decide +kernel
theorem dL_why_0 : decode cL_why 0 = .ok (.aload 4, 2) := by decide +kernel
theorem dL_why_2 : decode cL_why 2 = .ok (.iload_n 1, 1) := by decide +kernel
theorem dL_why_3 : decode cL_why 3 = .ok (.iaload, 1) := by decide +kernel
theorem dL_why_4 : decode cL_why 4 = .ok (.iconst 3, 1) := by decide +kernel
theorem dL_why_5 : decode cL_why 5 = .ok (.iand, 1) := by decide +kernel
theorem dL_why_6 : decode cL_why 6 = .ok (.iconst 3, 1) := by decide +kernel
theorem dL_why_7 : decode cL_why 7 = .ok (.if_icmp .ne 5, 3) := by decide +kernel
theorem dL_why_10 : decode cL_why 10 = .ok (.iconst 1, 1) := by decide +kernel
theorem dL_why_11 : decode cL_why 11 = .ok (.ireturn, 1) := by decide +kernel
theorem dL_why_12 : decode cL_why 12 = .ok (.iload_n 1, 1) := by decide +kernel
theorem dL_why_13 : decode cL_why 13 = .ok (.iload_n 3, 1) := by decide +kernel
theorem dL_why_14 : decode cL_why 14 = .ok (.aload 4, 2) := by decide +kernel
theorem dL_why_16 : decode cL_why 16 = .ok (.aload 5, 2) := by decide +kernel
theorem dL_why_18 : decode cL_why 18 = .ok (.invokestatic 46, 3) := by decide +kernel
theorem dL_why_21 : decode cL_why 21 = .ok (.istore 7, 2) := by decide +kernel
theorem dL_why_23 : decode cL_why 23 = .ok (.iload 7, 2) := by decide +kernel
theorem dL_why_25 : decode cL_why 25 = .ok (.ifCond .lt 11, 3) := by decide +kernel
theorem dL_why_28 : decode cL_why 28 = .ok (.iload 7, 2) := by decide +kernel
theorem dL_why_30 : decode cL_why 30 = .ok (.iload_n 0, 1) := by decide +kernel
theorem dL_why_31 : decode cL_why 31 = .ok (.if_icmp .eq 5, 3) := by decide +kernel
theorem dL_why_34 : decode cL_why 34 = .ok (.iconst 2, 1) := by decide +kernel
theorem dL_why_35 : decode cL_why 35 = .ok (.ireturn, 1) := by decide +kernel
theorem dL_why_36 : decode cL_why 36 = .ok (.iload_n 2, 1) := by decide +kernel
theorem dL_why_37 : decode cL_why 37 = .ok (.aload 4, 2) := by decide +kernel
theorem dL_why_39 : decode cL_why 39 = .ok (.iload_n 1, 1) := by decide +kernel
theorem dL_why_40 : decode cL_why 40 = .ok (.invokestatic 50, 3) := by decide +kernel
theorem dL_why_43 : decode cL_why 43 = .ok (.if_icmp .le 5, 3) := by decide +kernel
theorem dL_why_46 : decode cL_why 46 = .ok (.iconst 3, 1) := by decide +kernel
theorem dL_why_47 : decode cL_why 47 = .ok (.ireturn, 1) := by decide +kernel
theorem dL_why_48 : decode cL_why 48 = .ok (.aload 5, 2) := by decide +kernel
theorem dL_why_50 : decode cL_why 50 = .ok (.iload_n 1, 1) := by decide +kernel
theorem dL_why_51 : decode cL_why 51 = .ok (.iconst 1, 1) := by decide +kernel
theorem dL_why_52 : decode cL_why 52 = .ok (.invokestatic 14, 3) := by decide +kernel
theorem dL_why_55 : decode cL_why 55 = .ok (.ifCond .eq 7, 3) := by decide +kernel
theorem dL_why_58 : decode cL_why 58 = .ok (.iconst 1, 1) := by decide +kernel
theorem dL_why_59 : decode cL_why 59 = .ok (.goto 32, 3) := by decide +kernel
theorem dL_why_62 : decode cL_why 62 = .ok (.aload 5, 2) := by decide +kernel
theorem dL_why_64 : decode cL_why 64 = .ok (.iload_n 1, 1) := by decide +kernel
theorem dL_why_65 : decode cL_why 65 = .ok (.iconst 2, 1) := by decide +kernel
theorem dL_why_66 : decode cL_why 66 = .ok (.invokestatic 14, 3) := by decide +kernel
theorem dL_why_69 : decode cL_why 69 = .ok (.ifCond .eq 7, 3) := by decide +kernel
theorem dL_why_72 : decode cL_why 72 = .ok (.iconst 2, 1) := by decide +kernel
theorem dL_why_73 : decode cL_why 73 = .ok (.goto 18, 3) := by decide +kernel
theorem dL_why_76 : decode cL_why 76 = .ok (.aload 5, 2) := by decide +kernel
theorem dL_why_78 : decode cL_why 78 = .ok (.iload_n 1, 1) := by decide +kernel
theorem dL_why_79 : decode cL_why 79 = .ok (.iconst 3, 1) := by decide +kernel
theorem dL_why_80 : decode cL_why 80 = .ok (.invokestatic 14, 3) := by decide +kernel
theorem dL_why_83 : decode cL_why 83 = .ok (.ifCond .eq 7, 3) := by decide +kernel
theorem dL_why_86 : decode cL_why 86 = .ok (.iconst 3, 1) := by decide +kernel
theorem dL_why_87 : decode cL_why 87 = .ok (.goto 4, 3) := by decide +kernel
theorem dL_why_90 : decode cL_why 90 = .ok (.iconst 4, 1) := by decide +kernel
theorem dL_why_91 : decode cL_why 91 = .ok (.istore 8, 2) := by decide +kernel
theorem dL_why_93 : decode cL_why 93 = .ok (.iload 8, 2) := by decide +kernel
theorem dL_why_95 : decode cL_why 95 = .ok (.iload_n 2, 1) := by decide +kernel
theorem dL_why_96 : decode cL_why 96 = .ok (.if_icmp .gt 5, 3) := by decide +kernel
theorem dL_why_99 : decode cL_why 99 = .ok (.iconst 4, 1) := by decide +kernel
theorem dL_why_100 : decode cL_why 100 = .ok (.ireturn, 1) := by decide +kernel
theorem dL_why_101 : decode cL_why 101 = .ok (.iload_n 1, 1) := by decide +kernel
theorem dL_why_102 : decode cL_why 102 = .ok (.ifCond .le 14, 3) := by decide +kernel
theorem dL_why_105 : decode cL_why 105 = .ok (.iload_n 1, 1) := by decide +kernel
theorem dL_why_106 : decode cL_why 106 = .ok (.aload 6, 2) := by decide +kernel
theorem dL_why_108 : decode cL_why 108 = .ok (.invokestatic 42, 3) := by decide +kernel
theorem dL_why_111 : decode cL_why 111 = .ok (.ifCond .ne 5, 3) := by decide +kernel
theorem dL_why_114 : decode cL_why 114 = .ok (.iconst 5, 1) := by decide +kernel
theorem dL_why_115 : decode cL_why 115 = .ok (.ireturn, 1) := by decide +kernel
theorem dL_why_116 : decode cL_why 116 = .ok (.aload 4, 2) := by decide +kernel
theorem dL_why_118 : decode cL_why 118 = .ok (.iload_n 1, 1) := by decide +kernel
theorem dL_why_119 : decode cL_why 119 = .ok (.invokestatic 35, 3) := by decide +kernel
theorem dL_why_122 : decode cL_why 122 = .ok (.ifCond .ge 5, 3) := by decide +kernel
theorem dL_why_125 : decode cL_why 125 = .ok (.iconst 0, 1) := by decide +kernel
theorem dL_why_126 : decode cL_why 126 = .ok (.ireturn, 1) := by decide +kernel
theorem dL_why_127 : decode cL_why 127 = .ok (.iconst 1, 1) := by decide +kernel
theorem dL_why_128 : decode cL_why 128 = .ok (.istore 9, 2) := by decide +kernel
theorem dL_why_130 : decode cL_why 130 = .ok (.iload 9, 2) := by decide +kernel
theorem dL_why_132 : decode cL_why 132 = .ok (.iconst 4, 1) := by decide +kernel
theorem dL_why_133 : decode cL_why 133 = .ok (.if_icmp .ge 37, 3) := by decide +kernel
theorem dL_why_136 : decode cL_why 136 = .ok (.aload 5, 2) := by decide +kernel
theorem dL_why_138 : decode cL_why 138 = .ok (.iload_n 1, 1) := by decide +kernel
theorem dL_why_139 : decode cL_why 139 = .ok (.iload 9, 2) := by decide +kernel
theorem dL_why_141 : decode cL_why 141 = .ok (.invokestatic 14, 3) := by decide +kernel
theorem dL_why_144 : decode cL_why 144 = .ok (.ifCond .eq 20, 3) := by decide +kernel
theorem dL_why_147 : decode cL_why 147 = .ok (.iload_n 3, 1) := by decide +kernel
theorem dL_why_148 : decode cL_why 148 = .ok (.aload 5, 2) := by decide +kernel
theorem dL_why_150 : decode cL_why 150 = .ok (.iload_n 1, 1) := by decide +kernel
theorem dL_why_151 : decode cL_why 151 = .ok (.iload 9, 2) := by decide +kernel
theorem dL_why_153 : decode cL_why 153 = .ok (.invokestatic 22, 3) := by decide +kernel
theorem dL_why_156 : decode cL_why 156 = .ok (.iconst 2, 1) := by decide +kernel
theorem dL_why_157 : decode cL_why 157 = .ok (.iadd, 1) := by decide +kernel
theorem dL_why_158 : decode cL_why 158 = .ok (.if_icmp .ge 6, 3) := by decide +kernel
theorem dL_why_161 : decode cL_why 161 = .ok (.bipush 6, 2) := by decide +kernel
theorem dL_why_163 : decode cL_why 163 = .ok (.ireturn, 1) := by decide +kernel
theorem dL_why_164 : decode cL_why 164 = .ok (.iinc 9 1, 3) := by decide +kernel
theorem dL_why_167 : decode cL_why 167 = .ok (.goto (-37), 3) := by decide +kernel
theorem dL_why_170 : decode cL_why 170 = .ok (.iload_n 2, 1) := by decide +kernel
theorem dL_why_171 : decode cL_why 171 = .ok (.iload 8, 2) := by decide +kernel
theorem dL_why_173 : decode cL_why 173 = .ok (.iconst 3, 1) := by decide +kernel
theorem dL_why_174 : decode cL_why 174 = .ok (.if_icmp .le 12, 3) := by decide +kernel
theorem dL_why_177 : decode cL_why 177 = .ok (.aload 4, 2) := by decide +kernel
theorem dL_why_179 : decode cL_why 179 = .ok (.iload_n 1, 1) := by decide +kernel
theorem dL_why_180 : decode cL_why 180 = .ok (.invokestatic 50, 3) := by decide +kernel
theorem dL_why_183 : decode cL_why 183 = .ok (.goto 7, 3) := by decide +kernel
theorem dL_why_186 : decode cL_why 186 = .ok (.iload 8, 2) := by decide +kernel
theorem dL_why_188 : decode cL_why 188 = .ok (.iconst 1, 1) := by decide +kernel
theorem dL_why_189 : decode cL_why 189 = .ok (.isub, 1) := by decide +kernel
theorem dL_why_190 : decode cL_why 190 = .ok (.if_icmp .ne 7, 3) := by decide +kernel
theorem dL_why_193 : decode cL_why 193 = .ok (.iconst 0, 1) := by decide +kernel
theorem dL_why_194 : decode cL_why 194 = .ok (.goto 5, 3) := by decide +kernel
theorem dL_why_197 : decode cL_why 197 = .ok (.bipush 7, 2) := by decide +kernel
theorem dL_why_199 : decode cL_why 199 = .ok (.ireturn, 1) := by decide +kernel
theorem dL_fee_0 : decode cL_fee 0 = .ok (.bipush 20, 2) := by decide +kernel
theorem dL_fee_2 : decode cL_fee 2 = .ok (.bipush 10, 2) := by decide +kernel
theorem dL_fee_4 : decode cL_fee 4 = .ok (.iload_n 2, 1) := by decide +kernel
theorem dL_fee_5 : decode cL_fee 5 = .ok (.imul, 1) := by decide +kernel
theorem dL_fee_6 : decode cL_fee 6 = .ok (.iadd, 1) := by decide +kernel
theorem dL_fee_7 : decode cL_fee 7 = .ok (.istore 5, 2) := by decide +kernel
theorem dL_fee_9 : decode cL_fee 9 = .ok (.aload_n 3, 1) := by decide +kernel
theorem dL_fee_10 : decode cL_fee 10 = .ok (.iload_n 1, 1) := by decide +kernel
theorem dL_fee_11 : decode cL_fee 11 = .ok (.invokestatic 35, 3) := by decide +kernel
theorem dL_fee_14 : decode cL_fee 14 = .ok (.ifCond .lt 6, 3) := by decide +kernel
theorem dL_fee_17 : decode cL_fee 17 = .ok (.iinc 5 30, 3) := by decide +kernel
theorem dL_fee_20 : decode cL_fee 20 = .ok (.aload 4, 2) := by decide +kernel
theorem dL_fee_22 : decode cL_fee 22 = .ok (.iload_n 0, 1) := by decide +kernel
theorem dL_fee_23 : decode cL_fee 23 = .ok (.iaload, 1) := by decide +kernel
theorem dL_fee_24 : decode cL_fee 24 = .ok (.ifCond .ne 10, 3) := by decide +kernel
theorem dL_fee_27 : decode cL_fee 27 = .ok (.iload 5, 2) := by decide +kernel
theorem dL_fee_29 : decode cL_fee 29 = .ok (.iload 5, 2) := by decide +kernel
theorem dL_fee_31 : decode cL_fee 31 = .ok (.iadd, 1) := by decide +kernel
theorem dL_fee_32 : decode cL_fee 32 = .ok (.istore 5, 2) := by decide +kernel
theorem dL_fee_34 : decode cL_fee 34 = .ok (.aload_n 3, 1) := by decide +kernel
theorem dL_fee_35 : decode cL_fee 35 = .ok (.iload_n 1, 1) := by decide +kernel
theorem dL_fee_36 : decode cL_fee 36 = .ok (.invokestatic 8, 3) := by decide +kernel
theorem dL_fee_39 : decode cL_fee 39 = .ok (.iload_n 0, 1) := by decide +kernel
theorem dL_fee_40 : decode cL_fee 40 = .ok (.if_icmp .ne 23, 3) := by decide +kernel
theorem dL_fee_43 : decode cL_fee 43 = .ok (.aload_n 3, 1) := by decide +kernel
theorem dL_fee_44 : decode cL_fee 44 = .ok (.iload_n 1, 1) := by decide +kernel
theorem dL_fee_45 : decode cL_fee 45 = .ok (.invokestatic 32, 3) := by decide +kernel
theorem dL_fee_48 : decode cL_fee 48 = .ok (.aload 4, 2) := by decide +kernel
theorem dL_fee_50 : decode cL_fee 50 = .ok (.bipush 30, 2) := by decide +kernel
theorem dL_fee_52 : decode cL_fee 52 = .ok (.iaload, 1) := by decide +kernel
theorem dL_fee_53 : decode cL_fee 53 = .ok (.if_icmp .lt 10, 3) := by decide +kernel
theorem dL_fee_56 : decode cL_fee 56 = .ok (.iload 5, 2) := by decide +kernel
theorem dL_fee_58 : decode cL_fee 58 = .ok (.iconst 5, 1) := by decide +kernel
theorem dL_fee_59 : decode cL_fee 59 = .ok (.isub, 1) := by decide +kernel
theorem dL_fee_60 : decode cL_fee 60 = .ok (.goto 5, 3) := by decide +kernel
theorem dL_fee_63 : decode cL_fee 63 = .ok (.iload 5, 2) := by decide +kernel
theorem dL_fee_65 : decode cL_fee 65 = .ok (.ireturn, 1) := by decide +kernel
theorem dL_lapsed_0 : decode cL_lapsed 0 = .ok (.iconst 0, 1) := by decide +kernel
theorem dL_lapsed_1 : decode cL_lapsed 1 = .ok (.istore_n 2, 1) := by decide +kernel
theorem dL_lapsed_2 : decode cL_lapsed 2 = .ok (.iconst 0, 1) := by decide +kernel
theorem dL_lapsed_3 : decode cL_lapsed 3 = .ok (.istore_n 3, 1) := by decide +kernel
theorem dL_lapsed_4 : decode cL_lapsed 4 = .ok (.iload_n 3, 1) := by decide +kernel
theorem dL_lapsed_5 : decode cL_lapsed 5 = .ok (.bipush 40, 2) := by decide +kernel
theorem dL_lapsed_7 : decode cL_lapsed 7 = .ok (.if_icmp .ge 34, 3) := by decide +kernel
theorem dL_lapsed_10 : decode cL_lapsed 10 = .ok (.iload_n 2, 1) := by decide +kernel
theorem dL_lapsed_11 : decode cL_lapsed 11 = .ok (.aload_n 1, 1) := by decide +kernel
theorem dL_lapsed_12 : decode cL_lapsed 12 = .ok (.iload_n 3, 1) := by decide +kernel
theorem dL_lapsed_13 : decode cL_lapsed 13 = .ok (.invokestatic 8, 3) := by decide +kernel
theorem dL_lapsed_16 : decode cL_lapsed 16 = .ok (.ifCond .lt 16, 3) := by decide +kernel
theorem dL_lapsed_19 : decode cL_lapsed 19 = .ok (.aload_n 1, 1) := by decide +kernel
theorem dL_lapsed_20 : decode cL_lapsed 20 = .ok (.iload_n 3, 1) := by decide +kernel
theorem dL_lapsed_21 : decode cL_lapsed 21 = .ok (.invokestatic 32, 3) := by decide +kernel
theorem dL_lapsed_24 : decode cL_lapsed 24 = .ok (.iload_n 0, 1) := by decide +kernel
theorem dL_lapsed_25 : decode cL_lapsed 25 = .ok (.if_icmp .ge 7, 3) := by decide +kernel
theorem dL_lapsed_28 : decode cL_lapsed 28 = .ok (.iconst 1, 1) := by decide +kernel
theorem dL_lapsed_29 : decode cL_lapsed 29 = .ok (.goto 4, 3) := by decide +kernel
theorem dL_lapsed_32 : decode cL_lapsed 32 = .ok (.iconst 0, 1) := by decide +kernel
theorem dL_lapsed_33 : decode cL_lapsed 33 = .ok (.iadd, 1) := by decide +kernel
theorem dL_lapsed_34 : decode cL_lapsed 34 = .ok (.istore_n 2, 1) := by decide +kernel
theorem dL_lapsed_35 : decode cL_lapsed 35 = .ok (.iinc 3 1, 3) := by decide +kernel
theorem dL_lapsed_38 : decode cL_lapsed 38 = .ok (.goto (-34), 3) := by decide +kernel
theorem dL_lapsed_41 : decode cL_lapsed 41 = .ok (.iload_n 2, 1) := by decide +kernel
theorem dL_lapsed_42 : decode cL_lapsed 42 = .ok (.ireturn, 1) := by decide +kernel
theorem dL_counted_0 : decode cL_counted 0 = .ok (.iconst 0, 1) := by decide +kernel
theorem dL_counted_1 : decode cL_counted 1 = .ok (.istore 5, 2) := by decide +kernel
theorem dL_counted_3 : decode cL_counted 3 = .ok (.iconst 0, 1) := by decide +kernel
theorem dL_counted_4 : decode cL_counted 4 = .ok (.istore 6, 2) := by decide +kernel
theorem dL_counted_6 : decode cL_counted 6 = .ok (.iload 6, 2) := by decide +kernel
theorem dL_counted_8 : decode cL_counted 8 = .ok (.bipush 40, 2) := by decide +kernel
theorem dL_counted_10 : decode cL_counted 10 = .ok (.if_icmp .ge 184, 3) := by decide +kernel
theorem dL_counted_13 : decode cL_counted 13 = .ok (.aload_n 1, 1) := by decide +kernel
theorem dL_counted_14 : decode cL_counted 14 = .ok (.iload 6, 2) := by decide +kernel
theorem dL_counted_16 : decode cL_counted 16 = .ok (.iaload, 1) := by decide +kernel
theorem dL_counted_17 : decode cL_counted 17 = .ok (.iconst 3, 1) := by decide +kernel
theorem dL_counted_18 : decode cL_counted 18 = .ok (.iand, 1) := by decide +kernel
theorem dL_counted_19 : decode cL_counted 19 = .ok (.iconst 3, 1) := by decide +kernel
theorem dL_counted_20 : decode cL_counted 20 = .ok (.if_icmp .ne 7, 3) := by decide +kernel
theorem dL_counted_23 : decode cL_counted 23 = .ok (.iconst 1, 1) := by decide +kernel
theorem dL_counted_24 : decode cL_counted 24 = .ok (.goto 4, 3) := by decide +kernel
theorem dL_counted_27 : decode cL_counted 27 = .ok (.iconst 0, 1) := by decide +kernel
theorem dL_counted_28 : decode cL_counted 28 = .ok (.istore 7, 2) := by decide +kernel
theorem dL_counted_30 : decode cL_counted 30 = .ok (.iload_n 0, 1) := by decide +kernel
theorem dL_counted_31 : decode cL_counted 31 = .ok (.iconst 1, 1) := by decide +kernel
theorem dL_counted_32 : decode cL_counted 32 = .ok (.if_icmp .ne 14, 3) := by decide +kernel
theorem dL_counted_35 : decode cL_counted 35 = .ok (.iload 5, 2) := by decide +kernel
theorem dL_counted_37 : decode cL_counted 37 = .ok (.aload_n 2, 1) := by decide +kernel
theorem dL_counted_38 : decode cL_counted 38 = .ok (.iload 6, 2) := by decide +kernel
theorem dL_counted_40 : decode cL_counted 40 = .ok (.invokestatic 38, 3) := by decide +kernel
theorem dL_counted_43 : decode cL_counted 43 = .ok (.iadd, 1) := by decide +kernel
theorem dL_counted_44 : decode cL_counted 44 = .ok (.istore 5, 2) := by decide +kernel
theorem dL_counted_46 : decode cL_counted 46 = .ok (.iload_n 0, 1) := by decide +kernel
theorem dL_counted_47 : decode cL_counted 47 = .ok (.iconst 2, 1) := by decide +kernel
theorem dL_counted_48 : decode cL_counted 48 = .ok (.if_icmp .ne 19, 3) := by decide +kernel
theorem dL_counted_51 : decode cL_counted 51 = .ok (.iload 5, 2) := by decide +kernel
theorem dL_counted_53 : decode cL_counted 53 = .ok (.iload 6, 2) := by decide +kernel
theorem dL_counted_55 : decode cL_counted 55 = .ok (.aload_n 3, 1) := by decide +kernel
theorem dL_counted_56 : decode cL_counted 56 = .ok (.bipush 30, 2) := by decide +kernel
theorem dL_counted_58 : decode cL_counted 58 = .ok (.iaload, 1) := by decide +kernel
theorem dL_counted_59 : decode cL_counted 59 = .ok (.aload_n 1, 1) := by decide +kernel
theorem dL_counted_60 : decode cL_counted 60 = .ok (.aload_n 2, 1) := by decide +kernel
theorem dL_counted_61 : decode cL_counted 61 = .ok (.invokestatic 53, 3) := by decide +kernel
theorem dL_counted_64 : decode cL_counted 64 = .ok (.iadd, 1) := by decide +kernel
theorem dL_counted_65 : decode cL_counted 65 = .ok (.istore 5, 2) := by decide +kernel
theorem dL_counted_67 : decode cL_counted 67 = .ok (.iload_n 0, 1) := by decide +kernel
theorem dL_counted_68 : decode cL_counted 68 = .ok (.iconst 3, 1) := by decide +kernel
theorem dL_counted_69 : decode cL_counted 69 = .ok (.if_icmp .ne 27, 3) := by decide +kernel
theorem dL_counted_72 : decode cL_counted 72 = .ok (.iload 5, 2) := by decide +kernel
theorem dL_counted_74 : decode cL_counted 74 = .ok (.iload 7, 2) := by decide +kernel
theorem dL_counted_76 : decode cL_counted 76 = .ok (.ifCond .ne 16, 3) := by decide +kernel
theorem dL_counted_79 : decode cL_counted 79 = .ok (.aload_n 2, 1) := by decide +kernel
theorem dL_counted_80 : decode cL_counted 80 = .ok (.iload 6, 2) := by decide +kernel
theorem dL_counted_82 : decode cL_counted 82 = .ok (.invokestatic 38, 3) := by decide +kernel
theorem dL_counted_85 : decode cL_counted 85 = .ok (.ifCond .ne 7, 3) := by decide +kernel
theorem dL_counted_88 : decode cL_counted 88 = .ok (.iconst 1, 1) := by decide +kernel
theorem dL_counted_89 : decode cL_counted 89 = .ok (.goto 4, 3) := by decide +kernel
theorem dL_counted_92 : decode cL_counted 92 = .ok (.iconst 0, 1) := by decide +kernel
theorem dL_counted_93 : decode cL_counted 93 = .ok (.iadd, 1) := by decide +kernel
theorem dL_counted_94 : decode cL_counted 94 = .ok (.istore 5, 2) := by decide +kernel
theorem dL_counted_96 : decode cL_counted 96 = .ok (.iload_n 0, 1) := by decide +kernel
theorem dL_counted_97 : decode cL_counted 97 = .ok (.iconst 4, 1) := by decide +kernel
theorem dL_counted_98 : decode cL_counted 98 = .ok (.if_icmp .ne 28, 3) := by decide +kernel
theorem dL_counted_101 : decode cL_counted 101 = .ok (.iload 5, 2) := by decide +kernel
theorem dL_counted_103 : decode cL_counted 103 = .ok (.iload 7, 2) := by decide +kernel
theorem dL_counted_105 : decode cL_counted 105 = .ok (.ifCond .ne 17, 3) := by decide +kernel
theorem dL_counted_108 : decode cL_counted 108 = .ok (.iload 6, 2) := by decide +kernel
theorem dL_counted_110 : decode cL_counted 110 = .ok (.aload 4, 2) := by decide +kernel
theorem dL_counted_112 : decode cL_counted 112 = .ok (.invokestatic 42, 3) := by decide +kernel
theorem dL_counted_115 : decode cL_counted 115 = .ok (.ifCond .ne 7, 3) := by decide +kernel
theorem dL_counted_118 : decode cL_counted 118 = .ok (.iconst 1, 1) := by decide +kernel
theorem dL_counted_119 : decode cL_counted 119 = .ok (.goto 4, 3) := by decide +kernel
theorem dL_counted_122 : decode cL_counted 122 = .ok (.iconst 0, 1) := by decide +kernel
theorem dL_counted_123 : decode cL_counted 123 = .ok (.iadd, 1) := by decide +kernel
theorem dL_counted_124 : decode cL_counted 124 = .ok (.istore 5, 2) := by decide +kernel
theorem dL_counted_126 : decode cL_counted 126 = .ok (.iload_n 0, 1) := by decide +kernel
theorem dL_counted_127 : decode cL_counted 127 = .ok (.iconst 5, 1) := by decide +kernel
theorem dL_counted_128 : decode cL_counted 128 = .ok (.if_icmp .ne 35, 3) := by decide +kernel
theorem dL_counted_131 : decode cL_counted 131 = .ok (.iload 5, 2) := by decide +kernel
theorem dL_counted_133 : decode cL_counted 133 = .ok (.aload_n 1, 1) := by decide +kernel
theorem dL_counted_134 : decode cL_counted 134 = .ok (.iload 6, 2) := by decide +kernel
theorem dL_counted_136 : decode cL_counted 136 = .ok (.invokestatic 8, 3) := by decide +kernel
theorem dL_counted_139 : decode cL_counted 139 = .ok (.ifCond .lt 20, 3) := by decide +kernel
theorem dL_counted_142 : decode cL_counted 142 = .ok (.aload_n 1, 1) := by decide +kernel
theorem dL_counted_143 : decode cL_counted 143 = .ok (.iload 6, 2) := by decide +kernel
theorem dL_counted_145 : decode cL_counted 145 = .ok (.invokestatic 32, 3) := by decide +kernel
theorem dL_counted_148 : decode cL_counted 148 = .ok (.aload_n 3, 1) := by decide +kernel
theorem dL_counted_149 : decode cL_counted 149 = .ok (.bipush 30, 2) := by decide +kernel
theorem dL_counted_151 : decode cL_counted 151 = .ok (.iaload, 1) := by decide +kernel
theorem dL_counted_152 : decode cL_counted 152 = .ok (.if_icmp .lt 7, 3) := by decide +kernel
theorem dL_counted_155 : decode cL_counted 155 = .ok (.iconst 1, 1) := by decide +kernel
theorem dL_counted_156 : decode cL_counted 156 = .ok (.goto 4, 3) := by decide +kernel
theorem dL_counted_159 : decode cL_counted 159 = .ok (.iconst 0, 1) := by decide +kernel
theorem dL_counted_160 : decode cL_counted 160 = .ok (.iadd, 1) := by decide +kernel
theorem dL_counted_161 : decode cL_counted 161 = .ok (.istore 5, 2) := by decide +kernel
theorem dL_counted_163 : decode cL_counted 163 = .ok (.iload_n 0, 1) := by decide +kernel
theorem dL_counted_164 : decode cL_counted 164 = .ok (.bipush 6, 2) := by decide +kernel
theorem dL_counted_166 : decode cL_counted 166 = .ok (.if_icmp .ne 22, 3) := by decide +kernel
theorem dL_counted_169 : decode cL_counted 169 = .ok (.iload 5, 2) := by decide +kernel
theorem dL_counted_171 : decode cL_counted 171 = .ok (.aload_n 1, 1) := by decide +kernel
theorem dL_counted_172 : decode cL_counted 172 = .ok (.iload 6, 2) := by decide +kernel
theorem dL_counted_174 : decode cL_counted 174 = .ok (.invokestatic 35, 3) := by decide +kernel
theorem dL_counted_177 : decode cL_counted 177 = .ok (.ifCond .lt 7, 3) := by decide +kernel
theorem dL_counted_180 : decode cL_counted 180 = .ok (.iconst 1, 1) := by decide +kernel
theorem dL_counted_181 : decode cL_counted 181 = .ok (.goto 4, 3) := by decide +kernel
theorem dL_counted_184 : decode cL_counted 184 = .ok (.iconst 0, 1) := by decide +kernel
theorem dL_counted_185 : decode cL_counted 185 = .ok (.iadd, 1) := by decide +kernel
theorem dL_counted_186 : decode cL_counted 186 = .ok (.istore 5, 2) := by decide +kernel

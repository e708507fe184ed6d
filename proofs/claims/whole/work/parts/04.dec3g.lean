theorem dX3_counted_140 : decode cX3_counted 140 = .ok (.ifCond .eq 21, 3) := by decide +kernel
theorem dX3_counted_143 : decode cX3_counted 143 = .ok (.iload_n 1, 1) := by decide +kernel
theorem dX3_counted_144 : decode cX3_counted 144 = .ok (.iconst 4, 1) := by decide +kernel
theorem dX3_counted_145 : decode cX3_counted 145 = .ok (.if_icmp .ne 20, 3) := by decide +kernel
theorem dX3_counted_148 : decode cX3_counted 148 = .ok (.iload 4, 2) := by decide +kernel
theorem dX3_counted_150 : decode cX3_counted 150 = .ok (.ifCond .eq 15, 3) := by decide +kernel
theorem dX3_counted_153 : decode cX3_counted 153 = .ok (.aload_n 0, 1) := by decide +kernel
theorem dX3_counted_154 : decode cX3_counted 154 = .ok (.iload_n 3, 1) := by decide +kernel
theorem dX3_counted_155 : decode cX3_counted 155 = .ok (.invokevirtual 79, 3) := by decide +kernel
theorem dX3_counted_158 : decode cX3_counted 158 = .ok (.ifCond .ne 7, 3) := by decide +kernel
theorem dX3_counted_161 : decode cX3_counted 161 = .ok (.iconst 1, 1) := by decide +kernel
theorem dX3_counted_162 : decode cX3_counted 162 = .ok (.goto 4, 3) := by decide +kernel
theorem dX3_counted_165 : decode cX3_counted 165 = .ok (.iconst 0, 1) := by decide +kernel
theorem dX3_counted_166 : decode cX3_counted 166 = .ok (.iadd, 1) := by decide +kernel
theorem dX3_counted_167 : decode cX3_counted 167 = .ok (.istore_n 2, 1) := by decide +kernel
theorem dX3_counted_168 : decode cX3_counted 168 = .ok (.iload_n 2, 1) := by decide +kernel
theorem dX3_counted_169 : decode cX3_counted 169 = .ok (.iload_n 1, 1) := by decide +kernel
theorem dX3_counted_170 : decode cX3_counted 170 = .ok (.iconst 5, 1) := by decide +kernel
theorem dX3_counted_171 : decode cX3_counted 171 = .ok (.if_icmp .ne 11, 3) := by decide +kernel
theorem dX3_counted_174 : decode cX3_counted 174 = .ok (.aload_n 0, 1) := by decide +kernel
theorem dX3_counted_175 : decode cX3_counted 175 = .ok (.iload_n 3, 1) := by decide +kernel
theorem dX3_counted_176 : decode cX3_counted 176 = .ok (.invokevirtual 56, 3) := by decide +kernel
theorem dX3_counted_179 : decode cX3_counted 179 = .ok (.ifCond .ne 22, 3) := by decide +kernel
theorem dX3_counted_182 : decode cX3_counted 182 = .ok (.iload_n 1, 1) := by decide +kernel
theorem dX3_counted_183 : decode cX3_counted 183 = .ok (.bipush 6, 2) := by decide +kernel
theorem dX3_counted_185 : decode cX3_counted 185 = .ok (.if_icmp .ne 20, 3) := by decide +kernel
theorem dX3_counted_188 : decode cX3_counted 188 = .ok (.aload_n 0, 1) := by decide +kernel
theorem dX3_counted_189 : decode cX3_counted 189 = .ok (.getfield 7, 3) := by decide +kernel
theorem dX3_counted_192 : decode cX3_counted 192 = .ok (.bipush 40, 2) := by decide +kernel
theorem dX3_counted_194 : decode cX3_counted 194 = .ok (.iload_n 3, 1) := by decide +kernel
theorem dX3_counted_195 : decode cX3_counted 195 = .ok (.iadd, 1) := by decide +kernel
theorem dX3_counted_196 : decode cX3_counted 196 = .ok (.iaload, 1) := by decide +kernel
theorem dX3_counted_197 : decode cX3_counted 197 = .ok (.iconst (-1), 1) := by decide +kernel
theorem dX3_counted_198 : decode cX3_counted 198 = .ok (.if_icmp .eq 7, 3) := by decide +kernel
theorem dX3_counted_201 : decode cX3_counted 201 = .ok (.iconst 1, 1) := by decide +kernel
theorem dX3_counted_202 : decode cX3_counted 202 = .ok (.goto 4, 3) := by decide +kernel
theorem dX3_counted_205 : decode cX3_counted 205 = .ok (.iconst 0, 1) := by decide +kernel
theorem dX3_counted_206 : decode cX3_counted 206 = .ok (.iadd, 1) := by decide +kernel
theorem dX3_counted_207 : decode cX3_counted 207 = .ok (.istore_n 2, 1) := by decide +kernel
theorem dX3_counted_208 : decode cX3_counted 208 = .ok (.iinc 3 1, 3) := by decide +kernel
theorem dX3_counted_211 : decode cX3_counted 211 = .ok (.goto (-140), 3) := by decide +kernel
theorem dX3_counted_214 : decode cX3_counted 214 = .ok (.iload_n 2, 1) := by decide +kernel
theorem dX3_counted_215 : decode cX3_counted 215 = .ok (.ireturn, 1) := by decide +kernel
theorem dX3_count_0 : decode cX3_count 0 = .ok (.aload_n 0, 1) := by decide +kernel
theorem dX3_count_1 : decode cX3_count 1 = .ok (.invokevirtual 92, 3) := by decide +kernel
theorem dX3_count_4 : decode cX3_count 4 = .ok (.iload_n 1, 1) := by decide +kernel
theorem dX3_count_5 : decode cX3_count 5 = .ok (.iconst 0, 1) := by decide +kernel
theorem dX3_count_6 : decode cX3_count 6 = .ok (.bipush 8, 2) := by decide +kernel
theorem dX3_count_8 : decode cX3_count 8 = .ok (.invokestatic 41, 3) := by decide +kernel
theorem dX3_count_11 : decode cX3_count 11 = .ok (.ifCond .eq 11, 3) := by decide +kernel
theorem dX3_count_14 : decode cX3_count 14 = .ok (.aload_n 0, 1) := by decide +kernel
theorem dX3_count_15 : decode cX3_count 15 = .ok (.iload_n 1, 1) := by decide +kernel
theorem dX3_count_16 : decode cX3_count 16 = .ok (.invokevirtual 155, 3) := by decide +kernel
theorem dX3_count_19 : decode cX3_count 19 = .ok (.goto 8, 3) := by decide +kernel
theorem dX3_count_22 : decode cX3_count 22 = .ok (.aload_n 0, 1) := by decide +kernel
theorem dX3_count_23 : decode cX3_count 23 = .ok (.iconst 1, 1) := by decide +kernel
theorem dX3_count_24 : decode cX3_count 24 = .ok (.invokevirtual 95, 3) := by decide +kernel
theorem dX3_count_27 : decode cX3_count 27 = .ok (.ireturn, 1) := by decide +kernel
theorem dX3_why_0 : decode cX3_why 0 = .ok (.aload_n 0, 1) := by decide +kernel
theorem dX3_why_1 : decode cX3_why 1 = .ok (.invokevirtual 92, 3) := by decide +kernel
theorem dX3_why_4 : decode cX3_why 4 = .ok (.iload_n 1, 1) := by decide +kernel
theorem dX3_why_5 : decode cX3_why 5 = .ok (.invokestatic 105, 3) := by decide +kernel
theorem dX3_why_8 : decode cX3_why 8 = .ok (.ifCond .eq 10, 3) := by decide +kernel
theorem dX3_why_11 : decode cX3_why 11 = .ok (.iload_n 2, 1) := by decide +kernel
theorem dX3_why_12 : decode cX3_why 12 = .ok (.invokestatic 112, 3) := by decide +kernel
theorem dX3_why_15 : decode cX3_why 15 = .ok (.ifCond .ne 9, 3) := by decide +kernel
theorem dX3_why_18 : decode cX3_why 18 = .ok (.aload_n 0, 1) := by decide +kernel
theorem dX3_why_19 : decode cX3_why 19 = .ok (.iconst 1, 1) := by decide +kernel
theorem dX3_why_20 : decode cX3_why 20 = .ok (.invokevirtual 95, 3) := by decide +kernel
theorem dX3_why_23 : decode cX3_why 23 = .ok (.ireturn, 1) := by decide +kernel
theorem dX3_why_24 : decode cX3_why 24 = .ok (.iload_n 3, 1) := by decide +kernel
theorem dX3_why_25 : decode cX3_why 25 = .ok (.iconst 1, 1) := by decide +kernel
theorem dX3_why_26 : decode cX3_why 26 = .ok (.iconst 3, 1) := by decide +kernel
theorem dX3_why_27 : decode cX3_why 27 = .ok (.invokestatic 41, 3) := by decide +kernel
theorem dX3_why_30 : decode cX3_why 30 = .ok (.ifCond .eq 13, 3) := by decide +kernel
theorem dX3_why_33 : decode cX3_why 33 = .ok (.aload_n 0, 1) := by decide +kernel
theorem dX3_why_34 : decode cX3_why 34 = .ok (.iload_n 1, 1) := by decide +kernel
theorem dX3_why_35 : decode cX3_why 35 = .ok (.iload_n 2, 1) := by decide +kernel
theorem dX3_why_36 : decode cX3_why 36 = .ok (.iload_n 3, 1) := by decide +kernel
theorem dX3_why_37 : decode cX3_why 37 = .ok (.invokevirtual 115, 3) := by decide +kernel
theorem dX3_why_40 : decode cX3_why 40 = .ok (.goto 8, 3) := by decide +kernel
theorem dX3_why_43 : decode cX3_why 43 = .ok (.aload_n 0, 1) := by decide +kernel
theorem dX3_why_44 : decode cX3_why 44 = .ok (.iconst 2, 1) := by decide +kernel
theorem dX3_why_45 : decode cX3_why 45 = .ok (.invokevirtual 95, 3) := by decide +kernel
theorem dX3_why_48 : decode cX3_why 48 = .ok (.ireturn, 1) := by decide +kernel
theorem dX3_fee_0 : decode cX3_fee 0 = .ok (.aload_n 0, 1) := by decide +kernel
theorem dX3_fee_1 : decode cX3_fee 1 = .ok (.invokevirtual 92, 3) := by decide +kernel
theorem dX3_fee_4 : decode cX3_fee 4 = .ok (.iload_n 1, 1) := by decide +kernel
theorem dX3_fee_5 : decode cX3_fee 5 = .ok (.invokestatic 105, 3) := by decide +kernel
theorem dX3_fee_8 : decode cX3_fee 8 = .ok (.ifCond .eq 10, 3) := by decide +kernel
theorem dX3_fee_11 : decode cX3_fee 11 = .ok (.iload_n 2, 1) := by decide +kernel
theorem dX3_fee_12 : decode cX3_fee 12 = .ok (.invokestatic 112, 3) := by decide +kernel
theorem dX3_fee_15 : decode cX3_fee 15 = .ok (.ifCond .ne 9, 3) := by decide +kernel
theorem dX3_fee_18 : decode cX3_fee 18 = .ok (.aload_n 0, 1) := by decide +kernel
theorem dX3_fee_19 : decode cX3_fee 19 = .ok (.iconst 1, 1) := by decide +kernel
theorem dX3_fee_20 : decode cX3_fee 20 = .ok (.invokevirtual 95, 3) := by decide +kernel
theorem dX3_fee_23 : decode cX3_fee 23 = .ok (.ireturn, 1) := by decide +kernel
theorem dX3_fee_24 : decode cX3_fee 24 = .ok (.iload_n 3, 1) := by decide +kernel
theorem dX3_fee_25 : decode cX3_fee 25 = .ok (.iconst 1, 1) := by decide +kernel
theorem dX3_fee_26 : decode cX3_fee 26 = .ok (.iconst 3, 1) := by decide +kernel
theorem dX3_fee_27 : decode cX3_fee 27 = .ok (.invokestatic 41, 3) := by decide +kernel
theorem dX3_fee_30 : decode cX3_fee 30 = .ok (.ifCond .eq 13, 3) := by decide +kernel
theorem dX3_fee_33 : decode cX3_fee 33 = .ok (.aload_n 0, 1) := by decide +kernel
theorem dX3_fee_34 : decode cX3_fee 34 = .ok (.iload_n 1, 1) := by decide +kernel
theorem dX3_fee_35 : decode cX3_fee 35 = .ok (.iload_n 2, 1) := by decide +kernel
theorem dX3_fee_36 : decode cX3_fee 36 = .ok (.iload_n 3, 1) := by decide +kernel
theorem dX3_fee_37 : decode cX3_fee 37 = .ok (.invokevirtual 108, 3) := by decide +kernel
theorem dX3_fee_40 : decode cX3_fee 40 = .ok (.goto 8, 3) := by decide +kernel
theorem dX3_fee_43 : decode cX3_fee 43 = .ok (.aload_n 0, 1) := by decide +kernel
theorem dX3_fee_44 : decode cX3_fee 44 = .ok (.iconst 2, 1) := by decide +kernel
theorem dX3_fee_45 : decode cX3_fee 45 = .ok (.invokevirtual 95, 3) := by decide +kernel
theorem dX3_fee_48 : decode cX3_fee 48 = .ok (.ireturn, 1) := by decide +kernel
theorem dX3_deepest_0 : decode cX3_deepest 0 = .ok (.aload_n 0, 1) := by decide +kernel
theorem dX3_deepest_1 : decode cX3_deepest 1 = .ok (.invokevirtual 92, 3) := by decide +kernel
theorem dX3_deepest_4 : decode cX3_deepest 4 = .ok (.iload_n 1, 1) := by decide +kernel
theorem dX3_deepest_5 : decode cX3_deepest 5 = .ok (.invokestatic 105, 3) := by decide +kernel
theorem dX3_deepest_8 : decode cX3_deepest 8 = .ok (.ifCond .eq 10, 3) := by decide +kernel
theorem dX3_deepest_11 : decode cX3_deepest 11 = .ok (.iload_n 2, 1) := by decide +kernel
theorem dX3_deepest_12 : decode cX3_deepest 12 = .ok (.invokestatic 112, 3) := by decide +kernel
theorem dX3_deepest_15 : decode cX3_deepest 15 = .ok (.ifCond .ne 9, 3) := by decide +kernel
theorem dX3_deepest_18 : decode cX3_deepest 18 = .ok (.aload_n 0, 1) := by decide +kernel
theorem dX3_deepest_19 : decode cX3_deepest 19 = .ok (.iconst 1, 1) := by decide +kernel
theorem dX3_deepest_20 : decode cX3_deepest 20 = .ok (.invokevirtual 95, 3) := by decide +kernel
theorem dX3_deepest_23 : decode cX3_deepest 23 = .ok (.ireturn, 1) := by decide +kernel
theorem dX3_deepest_24 : decode cX3_deepest 24 = .ok (.iconst (-1), 1) := by decide +kernel
theorem dX3_deepest_25 : decode cX3_deepest 25 = .ok (.istore_n 3, 1) := by decide +kernel
theorem dX3_deepest_26 : decode cX3_deepest 26 = .ok (.iconst 1, 1) := by decide +kernel
theorem dX3_deepest_27 : decode cX3_deepest 27 = .ok (.istore 4, 2) := by decide +kernel
theorem dX3_deepest_29 : decode cX3_deepest 29 = .ok (.iload 4, 2) := by decide +kernel
theorem dX3_deepest_31 : decode cX3_deepest 31 = .ok (.iconst 4, 1) := by decide +kernel
theorem dX3_deepest_32 : decode cX3_deepest 32 = .ok (.if_icmp .ge 27, 3) := by decide +kernel
theorem dX3_deepest_35 : decode cX3_deepest 35 = .ok (.aload_n 0, 1) := by decide +kernel
theorem dX3_deepest_36 : decode cX3_deepest 36 = .ok (.iload_n 1, 1) := by decide +kernel
theorem dX3_deepest_37 : decode cX3_deepest 37 = .ok (.iload_n 2, 1) := by decide +kernel
theorem dX3_deepest_38 : decode cX3_deepest 38 = .ok (.iload 4, 2) := by decide +kernel
theorem dX3_deepest_40 : decode cX3_deepest 40 = .ok (.invokevirtual 115, 3) := by decide +kernel
theorem dX3_deepest_43 : decode cX3_deepest 43 = .ok (.ifCond .ne 8, 3) := by decide +kernel
theorem dX3_deepest_46 : decode cX3_deepest 46 = .ok (.iload 4, 2) := by decide +kernel
theorem dX3_deepest_48 : decode cX3_deepest 48 = .ok (.goto 4, 3) := by decide +kernel
theorem dX3_deepest_51 : decode cX3_deepest 51 = .ok (.iload_n 3, 1) := by decide +kernel
theorem dX3_deepest_52 : decode cX3_deepest 52 = .ok (.istore_n 3, 1) := by decide +kernel
theorem dX3_deepest_53 : decode cX3_deepest 53 = .ok (.iinc 4 1, 3) := by decide +kernel
theorem dX3_deepest_56 : decode cX3_deepest 56 = .ok (.goto (-27), 3) := by decide +kernel
theorem dX3_deepest_59 : decode cX3_deepest 59 = .ok (.iload_n 3, 1) := by decide +kernel
theorem dX3_deepest_60 : decode cX3_deepest 60 = .ok (.ireturn, 1) := by decide +kernel
theorem dX3_bestNow_0 : decode cX3_bestNow 0 = .ok (.iconst (-1), 1) := by decide +kernel
theorem dX3_bestNow_1 : decode cX3_bestNow 1 = .ok (.istore_n 2, 1) := by decide +kernel
theorem dX3_bestNow_2 : decode cX3_bestNow 2 = .ok (.iconst 0, 1) := by decide +kernel
theorem dX3_bestNow_3 : decode cX3_bestNow 3 = .ok (.istore_n 3, 1) := by decide +kernel
theorem dX3_bestNow_4 : decode cX3_bestNow 4 = .ok (.iconst 0, 1) := by decide +kernel
theorem dX3_bestNow_5 : decode cX3_bestNow 5 = .ok (.istore 4, 2) := by decide +kernel
theorem dX3_bestNow_7 : decode cX3_bestNow 7 = .ok (.iload 4, 2) := by decide +kernel
theorem dX3_bestNow_9 : decode cX3_bestNow 9 = .ok (.bipush 40, 2) := by decide +kernel
theorem dX3_bestNow_11 : decode cX3_bestNow 11 = .ok (.if_icmp .ge 109, 3) := by decide +kernel
theorem dX3_bestNow_14 : decode cX3_bestNow 14 = .ok (.iconst (-1), 1) := by decide +kernel
theorem dX3_bestNow_15 : decode cX3_bestNow 15 = .ok (.istore 5, 2) := by decide +kernel
theorem dX3_bestNow_17 : decode cX3_bestNow 17 = .ok (.iconst 3, 1) := by decide +kernel
theorem dX3_bestNow_18 : decode cX3_bestNow 18 = .ok (.istore 6, 2) := by decide +kernel
theorem dX3_bestNow_20 : decode cX3_bestNow 20 = .ok (.iload 6, 2) := by decide +kernel
theorem dX3_bestNow_22 : decode cX3_bestNow 22 = .ok (.ifCond .le 37, 3) := by decide +kernel
theorem dX3_bestNow_25 : decode cX3_bestNow 25 = .ok (.aload_n 0, 1) := by decide +kernel
theorem dX3_bestNow_26 : decode cX3_bestNow 26 = .ok (.iload_n 1, 1) := by decide +kernel
theorem dX3_bestNow_27 : decode cX3_bestNow 27 = .ok (.iload 4, 2) := by decide +kernel
theorem dX3_bestNow_29 : decode cX3_bestNow 29 = .ok (.iload 6, 2) := by decide +kernel
theorem dX3_bestNow_31 : decode cX3_bestNow 31 = .ok (.invokevirtual 115, 3) := by decide +kernel
theorem dX3_bestNow_34 : decode cX3_bestNow 34 = .ok (.ifCond .ne 15, 3) := by decide +kernel
theorem dX3_bestNow_37 : decode cX3_bestNow 37 = .ok (.aload_n 0, 1) := by decide +kernel
theorem dX3_bestNow_38 : decode cX3_bestNow 38 = .ok (.iload_n 1, 1) := by decide +kernel
theorem dX3_bestNow_39 : decode cX3_bestNow 39 = .ok (.iload 4, 2) := by decide +kernel
theorem dX3_bestNow_41 : decode cX3_bestNow 41 = .ok (.iload 6, 2) := by decide +kernel
theorem dX3_bestNow_43 : decode cX3_bestNow 43 = .ok (.invokevirtual 108, 3) := by decide +kernel
theorem dX3_bestNow_46 : decode cX3_bestNow 46 = .ok (.goto 5, 3) := by decide +kernel
theorem dX3_bestNow_49 : decode cX3_bestNow 49 = .ok (.iload 5, 2) := by decide +kernel
theorem dX3_bestNow_51 : decode cX3_bestNow 51 = .ok (.istore 5, 2) := by decide +kernel
theorem dX3_bestNow_53 : decode cX3_bestNow 53 = .ok (.iinc 6 (-1), 3) := by decide +kernel
theorem dX3_bestNow_56 : decode cX3_bestNow 56 = .ok (.goto (-36), 3) := by decide +kernel
theorem dX3_bestNow_59 : decode cX3_bestNow 59 = .ok (.iload_n 2, 1) := by decide +kernel
theorem dX3_bestNow_60 : decode cX3_bestNow 60 = .ok (.iconst (-1), 1) := by decide +kernel
theorem dX3_bestNow_61 : decode cX3_bestNow 61 = .ok (.if_icmp .eq 29, 3) := by decide +kernel
theorem dX3_bestNow_64 : decode cX3_bestNow 64 = .ok (.iload 5, 2) := by decide +kernel
theorem dX3_bestNow_66 : decode cX3_bestNow 66 = .ok (.iload_n 3, 1) := by decide +kernel
theorem dX3_bestNow_67 : decode cX3_bestNow 67 = .ok (.if_icmp .lt 23, 3) := by decide +kernel
theorem dX3_bestNow_70 : decode cX3_bestNow 70 = .ok (.iload 5, 2) := by decide +kernel
theorem dX3_bestNow_72 : decode cX3_bestNow 72 = .ok (.iload_n 3, 1) := by decide +kernel
theorem dX3_bestNow_73 : decode cX3_bestNow 73 = .ok (.if_icmp .ne 21, 3) := by decide +kernel
theorem dX3_bestNow_76 : decode cX3_bestNow 76 = .ok (.aload_n 0, 1) := by decide +kernel
theorem dX3_bestNow_77 : decode cX3_bestNow 77 = .ok (.iload 4, 2) := by decide +kernel
theorem dX3_bestNow_79 : decode cX3_bestNow 79 = .ok (.invokevirtual 67, 3) := by decide +kernel
theorem dX3_bestNow_82 : decode cX3_bestNow 82 = .ok (.aload_n 0, 1) := by decide +kernel
theorem dX3_bestNow_83 : decode cX3_bestNow 83 = .ok (.iload_n 2, 1) := by decide +kernel
theorem dX3_bestNow_84 : decode cX3_bestNow 84 = .ok (.invokevirtual 67, 3) := by decide +kernel
theorem dX3_bestNow_87 : decode cX3_bestNow 87 = .ok (.if_icmp .ge 7, 3) := by decide +kernel
theorem dX3_bestNow_90 : decode cX3_bestNow 90 = .ok (.iconst 1, 1) := by decide +kernel
theorem dX3_bestNow_91 : decode cX3_bestNow 91 = .ok (.goto 4, 3) := by decide +kernel
theorem dX3_bestNow_94 : decode cX3_bestNow 94 = .ok (.iconst 0, 1) := by decide +kernel
theorem dX3_bestNow_95 : decode cX3_bestNow 95 = .ok (.istore 6, 2) := by decide +kernel
theorem dX3_bestNow_97 : decode cX3_bestNow 97 = .ok (.iload 5, 2) := by decide +kernel
theorem dX3_bestNow_99 : decode cX3_bestNow 99 = .ok (.iconst (-1), 1) := by decide +kernel
theorem dX3_bestNow_100 : decode cX3_bestNow 100 = .ok (.if_icmp .eq 14, 3) := by decide +kernel
theorem dX3_bestNow_103 : decode cX3_bestNow 103 = .ok (.iload 6, 2) := by decide +kernel
theorem dX3_bestNow_105 : decode cX3_bestNow 105 = .ok (.ifCond .eq 9, 3) := by decide +kernel
theorem dX3_bestNow_108 : decode cX3_bestNow 108 = .ok (.iload 4, 2) := by decide +kernel
theorem dX3_bestNow_110 : decode cX3_bestNow 110 = .ok (.istore_n 2, 1) := by decide +kernel
theorem dX3_bestNow_111 : decode cX3_bestNow 111 = .ok (.iload 5, 2) := by decide +kernel
theorem dX3_bestNow_113 : decode cX3_bestNow 113 = .ok (.istore_n 3, 1) := by decide +kernel
theorem dX3_bestNow_114 : decode cX3_bestNow 114 = .ok (.iinc 4 1, 3) := by decide +kernel
theorem dX3_bestNow_117 : decode cX3_bestNow 117 = .ok (.goto (-110), 3) := by decide +kernel
theorem dX3_bestNow_120 : decode cX3_bestNow 120 = .ok (.iload_n 2, 1) := by decide +kernel
theorem dX3_bestNow_121 : decode cX3_bestNow 121 = .ok (.ireturn, 1) := by decide +kernel
theorem dX3_bestPlot_0 : decode cX3_bestPlot 0 = .ok (.aload_n 0, 1) := by decide +kernel
theorem dX3_bestPlot_1 : decode cX3_bestPlot 1 = .ok (.invokevirtual 92, 3) := by decide +kernel
theorem dX3_bestPlot_4 : decode cX3_bestPlot 4 = .ok (.iload_n 1, 1) := by decide +kernel
theorem dX3_bestPlot_5 : decode cX3_bestPlot 5 = .ok (.invokestatic 105, 3) := by decide +kernel
theorem dX3_bestPlot_8 : decode cX3_bestPlot 8 = .ok (.ifCond .eq 11, 3) := by decide +kernel
theorem dX3_bestPlot_11 : decode cX3_bestPlot 11 = .ok (.aload_n 0, 1) := by decide +kernel
theorem dX3_bestPlot_12 : decode cX3_bestPlot 12 = .ok (.iload_n 1, 1) := by decide +kernel
theorem dX3_bestPlot_13 : decode cX3_bestPlot 13 = .ok (.invokevirtual 158, 3) := by decide +kernel
theorem dX3_bestPlot_16 : decode cX3_bestPlot 16 = .ok (.goto 8, 3) := by decide +kernel
theorem dX3_bestPlot_19 : decode cX3_bestPlot 19 = .ok (.aload_n 0, 1) := by decide +kernel
theorem dX3_bestPlot_20 : decode cX3_bestPlot 20 = .ok (.iconst 1, 1) := by decide +kernel
theorem dX3_bestPlot_21 : decode cX3_bestPlot 21 = .ok (.invokevirtual 95, 3) := by decide +kernel
theorem dX3_bestPlot_24 : decode cX3_bestPlot 24 = .ok (.ireturn, 1) := by decide +kernel
theorem dX3_yearFor_0 : decode cX3_yearFor 0 = .ok (.aload_n 0, 1) := by decide +kernel
theorem dX3_yearFor_1 : decode cX3_yearFor 1 = .ok (.invokevirtual 92, 3) := by decide +kernel
theorem dX3_yearFor_4 : decode cX3_yearFor 4 = .ok (.iload_n 1, 1) := by decide +kernel
theorem dX3_yearFor_5 : decode cX3_yearFor 5 = .ok (.invokestatic 105, 3) := by decide +kernel
theorem dX3_yearFor_8 : decode cX3_yearFor 8 = .ok (.ifCond .eq 10, 3) := by decide +kernel
theorem dX3_yearFor_11 : decode cX3_yearFor 11 = .ok (.iload_n 2, 1) := by decide +kernel
theorem dX3_yearFor_12 : decode cX3_yearFor 12 = .ok (.invokestatic 112, 3) := by decide +kernel
theorem dX3_yearFor_15 : decode cX3_yearFor 15 = .ok (.ifCond .ne 9, 3) := by decide +kernel
theorem dX3_yearFor_18 : decode cX3_yearFor 18 = .ok (.aload_n 0, 1) := by decide +kernel
theorem dX3_yearFor_19 : decode cX3_yearFor 19 = .ok (.iconst 1, 1) := by decide +kernel
theorem dX3_yearFor_20 : decode cX3_yearFor 20 = .ok (.invokevirtual 95, 3) := by decide +kernel
theorem dX3_yearFor_23 : decode cX3_yearFor 23 = .ok (.ireturn, 1) := by decide +kernel
theorem dX3_yearFor_24 : decode cX3_yearFor 24 = .ok (.iload_n 3, 1) := by decide +kernel
theorem dX3_yearFor_25 : decode cX3_yearFor 25 = .ok (.iconst 1, 1) := by decide +kernel
theorem dX3_yearFor_26 : decode cX3_yearFor 26 = .ok (.iconst 3, 1) := by decide +kernel
theorem dX3_yearFor_27 : decode cX3_yearFor 27 = .ok (.invokestatic 41, 3) := by decide +kernel
theorem dX3_yearFor_30 : decode cX3_yearFor 30 = .ok (.ifCond .ne 9, 3) := by decide +kernel
theorem dX3_yearFor_33 : decode cX3_yearFor 33 = .ok (.aload_n 0, 1) := by decide +kernel
theorem dX3_yearFor_34 : decode cX3_yearFor 34 = .ok (.iconst 2, 1) := by decide +kernel
theorem dX3_yearFor_35 : decode cX3_yearFor 35 = .ok (.invokevirtual 95, 3) := by decide +kernel
theorem dX3_yearFor_38 : decode cX3_yearFor 38 = .ok (.ireturn, 1) := by decide +kernel
theorem dX3_yearFor_39 : decode cX3_yearFor 39 = .ok (.aload_n 0, 1) := by decide +kernel
theorem dX3_yearFor_40 : decode cX3_yearFor 40 = .ok (.getfield 45, 3) := by decide +kernel
theorem dX3_yearFor_43 : decode cX3_yearFor 43 = .ok (.aload_n 0, 1) := by decide +kernel
theorem dX3_yearFor_44 : decode cX3_yearFor 44 = .ok (.getfield 7, 3) := by decide +kernel
theorem dX3_yearFor_47 : decode cX3_yearFor 47 = .ok (.sipush 550, 3) := by decide +kernel
theorem dX3_yearFor_50 : decode cX3_yearFor 50 = .ok (.iaload, 1) := by decide +kernel
theorem dX3_yearFor_51 : decode cX3_yearFor 51 = .ok (.bipush 100, 2) := by decide +kernel
theorem dX3_yearFor_53 : decode cX3_yearFor 53 = .ok (.iadd, 1) := by decide +kernel
theorem dX3_yearFor_54 : decode cX3_yearFor 54 = .ok (.if_icmp .gt 31, 3) := by decide +kernel
theorem dX3_yearFor_57 : decode cX3_yearFor 57 = .ok (.aload_n 0, 1) := by decide +kernel
theorem dX3_yearFor_58 : decode cX3_yearFor 58 = .ok (.iload_n 1, 1) := by decide +kernel
theorem dX3_yearFor_59 : decode cX3_yearFor 59 = .ok (.iload_n 2, 1) := by decide +kernel
theorem dX3_yearFor_60 : decode cX3_yearFor 60 = .ok (.iload_n 3, 1) := by decide +kernel
theorem dX3_yearFor_61 : decode cX3_yearFor 61 = .ok (.invokevirtual 115, 3) := by decide +kernel
theorem dX3_yearFor_64 : decode cX3_yearFor 64 = .ok (.ifCond .ne 8, 3) := by decide +kernel
theorem dX3_yearFor_67 : decode cX3_yearFor 67 = .ok (.aload_n 0, 1) := by decide +kernel
theorem dX3_yearFor_68 : decode cX3_yearFor 68 = .ok (.getfield 45, 3) := by decide +kernel
theorem dX3_yearFor_71 : decode cX3_yearFor 71 = .ok (.ireturn, 1) := by decide +kernel
theorem dX3_yearFor_72 : decode cX3_yearFor 72 = .ok (.aload_n 0, 1) := by decide +kernel
theorem dX3_yearFor_73 : decode cX3_yearFor 73 = .ok (.dup, 1) := by decide +kernel
theorem dX3_yearFor_74 : decode cX3_yearFor 74 = .ok (.getfield 45, 3) := by decide +kernel
theorem dX3_yearFor_77 : decode cX3_yearFor 77 = .ok (.iconst 1, 1) := by decide +kernel
theorem dX3_yearFor_78 : decode cX3_yearFor 78 = .ok (.iadd, 1) := by decide +kernel
theorem dX3_yearFor_79 : decode cX3_yearFor 79 = .ok (.putfield 45, 3) := by decide +kernel
theorem dX3_yearFor_82 : decode cX3_yearFor 82 = .ok (.goto (-43), 3) := by decide +kernel
theorem dX3_yearFor_85 : decode cX3_yearFor 85 = .ok (.iconst (-1), 1) := by decide +kernel
theorem dX3_yearFor_86 : decode cX3_yearFor 86 = .ok (.ireturn, 1) := by decide +kernel
theorem dX3_clearNow_0 : decode cX3_clearNow 0 = .ok (.aload_n 0, 1) := by decide +kernel
theorem dX3_clearNow_1 : decode cX3_clearNow 1 = .ok (.getfield 7, 3) := by decide +kernel
theorem dX3_clearNow_4 : decode cX3_clearNow 4 = .ok (.sipush 550, 3) := by decide +kernel
theorem dX3_clearNow_7 : decode cX3_clearNow 7 = .ok (.iaload, 1) := by decide +kernel
theorem dX3_clearNow_8 : decode cX3_clearNow 8 = .ok (.istore_n 2, 1) := by decide +kernel
theorem dX3_clearNow_9 : decode cX3_clearNow 9 = .ok (.iconst 0, 1) := by decide +kernel
theorem dX3_clearNow_10 : decode cX3_clearNow 10 = .ok (.istore_n 3, 1) := by decide +kernel
theorem dX3_clearNow_11 : decode cX3_clearNow 11 = .ok (.iload_n 3, 1) := by decide +kernel
theorem dX3_clearNow_12 : decode cX3_clearNow 12 = .ok (.iconst 3, 1) := by decide +kernel
theorem dX3_clearNow_13 : decode cX3_clearNow 13 = .ok (.if_icmp .ge 62, 3) := by decide +kernel
theorem dX3_clearNow_16 : decode cX3_clearNow 16 = .ok (.aload_n 0, 1) := by decide +kernel
theorem dX3_clearNow_17 : decode cX3_clearNow 17 = .ok (.getfield 7, 3) := by decide +kernel
theorem dX3_clearNow_20 : decode cX3_clearNow 20 = .ok (.sipush 280, 3) := by decide +kernel
theorem dX3_clearNow_23 : decode cX3_clearNow 23 = .ok (.iconst 3, 1) := by decide +kernel
theorem dX3_clearNow_24 : decode cX3_clearNow 24 = .ok (.iload_n 1, 1) := by decide +kernel
theorem dX3_clearNow_25 : decode cX3_clearNow 25 = .ok (.imul, 1) := by decide +kernel
theorem dX3_clearNow_26 : decode cX3_clearNow 26 = .ok (.iadd, 1) := by decide +kernel
theorem dX3_clearNow_27 : decode cX3_clearNow 27 = .ok (.iload_n 3, 1) := by decide +kernel
theorem dX3_clearNow_28 : decode cX3_clearNow 28 = .ok (.iadd, 1) := by decide +kernel
theorem dX3_clearNow_29 : decode cX3_clearNow 29 = .ok (.iaload, 1) := by decide +kernel
theorem dX3_clearNow_30 : decode cX3_clearNow 30 = .ok (.aload_n 0, 1) := by decide +kernel
theorem dX3_clearNow_31 : decode cX3_clearNow 31 = .ok (.iload_n 1, 1) := by decide +kernel
theorem dX3_clearNow_32 : decode cX3_clearNow 32 = .ok (.invokevirtual 48, 3) := by decide +kernel
theorem dX3_clearNow_35 : decode cX3_clearNow 35 = .ok (.iadd, 1) := by decide +kernel
theorem dX3_clearNow_36 : decode cX3_clearNow 36 = .ok (.istore 4, 2) := by decide +kernel
theorem dX3_clearNow_38 : decode cX3_clearNow 38 = .ok (.aload_n 0, 1) := by decide +kernel
theorem dX3_clearNow_39 : decode cX3_clearNow 39 = .ok (.getfield 7, 3) := by decide +kernel
theorem dX3_clearNow_42 : decode cX3_clearNow 42 = .ok (.sipush 160, 3) := by decide +kernel
theorem dX3_clearNow_45 : decode cX3_clearNow 45 = .ok (.iconst 3, 1) := by decide +kernel
theorem dX3_clearNow_46 : decode cX3_clearNow 46 = .ok (.iload_n 1, 1) := by decide +kernel
theorem dX3_clearNow_47 : decode cX3_clearNow 47 = .ok (.imul, 1) := by decide +kernel
theorem dX3_clearNow_48 : decode cX3_clearNow 48 = .ok (.iadd, 1) := by decide +kernel
theorem dX3_clearNow_49 : decode cX3_clearNow 49 = .ok (.iload_n 3, 1) := by decide +kernel
theorem dX3_clearNow_50 : decode cX3_clearNow 50 = .ok (.iadd, 1) := by decide +kernel
theorem dX3_clearNow_51 : decode cX3_clearNow 51 = .ok (.iaload, 1) := by decide +kernel
theorem dX3_clearNow_52 : decode cX3_clearNow 52 = .ok (.iconst (-1), 1) := by decide +kernel
theorem dX3_clearNow_53 : decode cX3_clearNow 53 = .ok (.if_icmp .eq 14, 3) := by decide +kernel
theorem dX3_clearNow_56 : decode cX3_clearNow 56 = .ok (.iload 4, 2) := by decide +kernel
theorem dX3_clearNow_58 : decode cX3_clearNow 58 = .ok (.iload_n 2, 1) := by decide +kernel
theorem dX3_clearNow_59 : decode cX3_clearNow 59 = .ok (.if_icmp .le 8, 3) := by decide +kernel
theorem dX3_clearNow_62 : decode cX3_clearNow 62 = .ok (.iload 4, 2) := by decide +kernel
theorem dX3_clearNow_64 : decode cX3_clearNow 64 = .ok (.goto 4, 3) := by decide +kernel
theorem dX3_clearNow_67 : decode cX3_clearNow 67 = .ok (.iload_n 2, 1) := by decide +kernel
theorem dX3_clearNow_68 : decode cX3_clearNow 68 = .ok (.istore_n 2, 1) := by decide +kernel
theorem dX3_clearNow_69 : decode cX3_clearNow 69 = .ok (.iinc 3 1, 3) := by decide +kernel
theorem dX3_clearNow_72 : decode cX3_clearNow 72 = .ok (.goto (-61), 3) := by decide +kernel
theorem dX3_clearNow_75 : decode cX3_clearNow 75 = .ok (.iload_n 2, 1) := by decide +kernel
theorem dX3_clearNow_76 : decode cX3_clearNow 76 = .ok (.ireturn, 1) := by decide +kernel
theorem dX3_clearYear_0 : decode cX3_clearYear 0 = .ok (.aload_n 0, 1) := by decide +kernel
theorem dX3_clearYear_1 : decode cX3_clearYear 1 = .ok (.invokevirtual 92, 3) := by decide +kernel
theorem dX3_clearYear_4 : decode cX3_clearYear 4 = .ok (.iload_n 1, 1) := by decide +kernel
theorem dX3_clearYear_5 : decode cX3_clearYear 5 = .ok (.invokestatic 112, 3) := by decide +kernel
theorem dX3_clearYear_8 : decode cX3_clearYear 8 = .ok (.ifCond .eq 11, 3) := by decide +kernel
theorem dX3_clearYear_11 : decode cX3_clearYear 11 = .ok (.aload_n 0, 1) := by decide +kernel
theorem dX3_clearYear_12 : decode cX3_clearYear 12 = .ok (.iload_n 1, 1) := by decide +kernel
theorem dX3_clearYear_13 : decode cX3_clearYear 13 = .ok (.invokevirtual 161, 3) := by decide +kernel
theorem dX3_clearYear_16 : decode cX3_clearYear 16 = .ok (.goto 8, 3) := by decide +kernel
theorem dX3_clearYear_19 : decode cX3_clearYear 19 = .ok (.aload_n 0, 1) := by decide +kernel
theorem dX3_clearYear_20 : decode cX3_clearYear 20 = .ok (.iconst 1, 1) := by decide +kernel
theorem dX3_clearYear_21 : decode cX3_clearYear 21 = .ok (.invokevirtual 95, 3) := by decide +kernel
theorem dX3_clearYear_24 : decode cX3_clearYear 24 = .ok (.ireturn, 1) := by decide +kernel
theorem dX3_cutNow_0 : decode cX3_cutNow 0 = .ok (.iconst 0, 1) := by decide +kernel
theorem dX3_cutNow_1 : decode cX3_cutNow 1 = .ok (.istore_n 2, 1) := by decide +kernel
theorem dX3_cutNow_2 : decode cX3_cutNow 2 = .ok (.iconst 0, 1) := by decide +kernel
theorem dX3_cutNow_3 : decode cX3_cutNow 3 = .ok (.istore_n 3, 1) := by decide +kernel
theorem dX3_cutNow_4 : decode cX3_cutNow 4 = .ok (.iconst 0, 1) := by decide +kernel
theorem dX3_cutNow_5 : decode cX3_cutNow 5 = .ok (.istore 4, 2) := by decide +kernel
theorem dX3_cutNow_7 : decode cX3_cutNow 7 = .ok (.iload 4, 2) := by decide +kernel
theorem dX3_cutNow_9 : decode cX3_cutNow 9 = .ok (.bipush 40, 2) := by decide +kernel
theorem dX3_cutNow_11 : decode cX3_cutNow 11 = .ok (.if_icmp .ge 43, 3) := by decide +kernel
theorem dX3_cutNow_14 : decode cX3_cutNow 14 = .ok (.iload_n 2, 1) := by decide +kernel
theorem dX3_cutNow_15 : decode cX3_cutNow 15 = .ok (.iload 4, 2) := by decide +kernel
theorem dX3_cutNow_17 : decode cX3_cutNow 17 = .ok (.iload_n 1, 1) := by decide +kernel
theorem dX3_cutNow_18 : decode cX3_cutNow 18 = .ok (.if_icmp .eq 27, 3) := by decide +kernel
theorem dX3_cutNow_21 : decode cX3_cutNow 21 = .ok (.aload_n 0, 1) := by decide +kernel
theorem dX3_cutNow_22 : decode cX3_cutNow 22 = .ok (.getfield 7, 3) := by decide +kernel
theorem dX3_cutNow_25 : decode cX3_cutNow 25 = .ok (.iload 4, 2) := by decide +kernel
theorem dX3_cutNow_27 : decode cX3_cutNow 27 = .ok (.iaload, 1) := by decide +kernel
theorem dX3_cutNow_28 : decode cX3_cutNow 28 = .ok (.iconst 3, 1) := by decide +kernel
theorem dX3_cutNow_29 : decode cX3_cutNow 29 = .ok (.if_icmp .eq 16, 3) := by decide +kernel

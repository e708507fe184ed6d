theorem dJ13_bitCount_95d88_0 : decode cJ13_bitCount_95d88 0 = .ok (.lload_n 0, 1) := by decide +kernel
theorem dJ13_bitCount_95d88_1 : decode cJ13_bitCount_95d88 1 = .ok (.lload_n 0, 1) := by decide +kernel
theorem dJ13_bitCount_95d88_2 : decode cJ13_bitCount_95d88 2 = .ok (.iconst 1, 1) := by decide +kernel
theorem dJ13_bitCount_95d88_3 : decode cJ13_bitCount_95d88 3 = .ok (.lushr, 1) := by decide +kernel
theorem dJ13_bitCount_95d88_4 : decode cJ13_bitCount_95d88 4 = .ok (.ldc2_w 314, 3) := by decide +kernel
theorem dJ13_bitCount_95d88_7 : decode cJ13_bitCount_95d88 7 = .ok (.land, 1) := by decide +kernel
theorem dJ13_bitCount_95d88_8 : decode cJ13_bitCount_95d88 8 = .ok (.lsub, 1) := by decide +kernel
theorem dJ13_bitCount_95d88_9 : decode cJ13_bitCount_95d88 9 = .ok (.lstore_n 0, 1) := by decide +kernel
theorem dJ13_bitCount_95d88_10 : decode cJ13_bitCount_95d88 10 = .ok (.lload_n 0, 1) := by decide +kernel
theorem dJ13_bitCount_95d88_11 : decode cJ13_bitCount_95d88 11 = .ok (.ldc2_w 316, 3) := by decide +kernel
theorem dJ13_bitCount_95d88_14 : decode cJ13_bitCount_95d88 14 = .ok (.land, 1) := by decide +kernel
theorem dJ13_bitCount_95d88_15 : decode cJ13_bitCount_95d88 15 = .ok (.lload_n 0, 1) := by decide +kernel
theorem dJ13_bitCount_95d88_16 : decode cJ13_bitCount_95d88 16 = .ok (.iconst 2, 1) := by decide +kernel
theorem dJ13_bitCount_95d88_17 : decode cJ13_bitCount_95d88 17 = .ok (.lushr, 1) := by decide +kernel
theorem dJ13_bitCount_95d88_18 : decode cJ13_bitCount_95d88 18 = .ok (.ldc2_w 316, 3) := by decide +kernel
theorem dJ13_bitCount_95d88_21 : decode cJ13_bitCount_95d88 21 = .ok (.land, 1) := by decide +kernel
theorem dJ13_bitCount_95d88_22 : decode cJ13_bitCount_95d88 22 = .ok (.ladd, 1) := by decide +kernel
theorem dJ13_bitCount_95d88_23 : decode cJ13_bitCount_95d88 23 = .ok (.lstore_n 0, 1) := by decide +kernel
theorem dJ13_bitCount_95d88_24 : decode cJ13_bitCount_95d88 24 = .ok (.lload_n 0, 1) := by decide +kernel
theorem dJ13_bitCount_95d88_25 : decode cJ13_bitCount_95d88 25 = .ok (.lload_n 0, 1) := by decide +kernel
theorem dJ13_bitCount_95d88_26 : decode cJ13_bitCount_95d88 26 = .ok (.iconst 4, 1) := by decide +kernel
theorem dJ13_bitCount_95d88_27 : decode cJ13_bitCount_95d88 27 = .ok (.lushr, 1) := by decide +kernel
theorem dJ13_bitCount_95d88_28 : decode cJ13_bitCount_95d88 28 = .ok (.ladd, 1) := by decide +kernel
theorem dJ13_bitCount_95d88_29 : decode cJ13_bitCount_95d88 29 = .ok (.ldc2_w 318, 3) := by decide +kernel
theorem dJ13_bitCount_95d88_32 : decode cJ13_bitCount_95d88 32 = .ok (.land, 1) := by decide +kernel
theorem dJ13_bitCount_95d88_33 : decode cJ13_bitCount_95d88 33 = .ok (.lstore_n 0, 1) := by decide +kernel
theorem dJ13_bitCount_95d88_34 : decode cJ13_bitCount_95d88 34 = .ok (.lload_n 0, 1) := by decide +kernel
theorem dJ13_bitCount_95d88_35 : decode cJ13_bitCount_95d88 35 = .ok (.lload_n 0, 1) := by decide +kernel
theorem dJ13_bitCount_95d88_36 : decode cJ13_bitCount_95d88 36 = .ok (.bipush 8, 2) := by decide +kernel
theorem dJ13_bitCount_95d88_38 : decode cJ13_bitCount_95d88 38 = .ok (.lushr, 1) := by decide +kernel
theorem dJ13_bitCount_95d88_39 : decode cJ13_bitCount_95d88 39 = .ok (.ladd, 1) := by decide +kernel
theorem dJ13_bitCount_95d88_40 : decode cJ13_bitCount_95d88 40 = .ok (.lstore_n 0, 1) := by decide +kernel
theorem dJ13_bitCount_95d88_41 : decode cJ13_bitCount_95d88 41 = .ok (.lload_n 0, 1) := by decide +kernel
theorem dJ13_bitCount_95d88_42 : decode cJ13_bitCount_95d88 42 = .ok (.lload_n 0, 1) := by decide +kernel
theorem dJ13_bitCount_95d88_43 : decode cJ13_bitCount_95d88 43 = .ok (.bipush 16, 2) := by decide +kernel
theorem dJ13_bitCount_95d88_45 : decode cJ13_bitCount_95d88 45 = .ok (.lushr, 1) := by decide +kernel
theorem dJ13_bitCount_95d88_46 : decode cJ13_bitCount_95d88 46 = .ok (.ladd, 1) := by decide +kernel
theorem dJ13_bitCount_95d88_47 : decode cJ13_bitCount_95d88 47 = .ok (.lstore_n 0, 1) := by decide +kernel
theorem dJ13_bitCount_95d88_48 : decode cJ13_bitCount_95d88 48 = .ok (.lload_n 0, 1) := by decide +kernel
theorem dJ13_bitCount_95d88_49 : decode cJ13_bitCount_95d88 49 = .ok (.lload_n 0, 1) := by decide +kernel
theorem dJ13_bitCount_95d88_50 : decode cJ13_bitCount_95d88 50 = .ok (.bipush 32, 2) := by decide +kernel
theorem dJ13_bitCount_95d88_52 : decode cJ13_bitCount_95d88 52 = .ok (.lushr, 1) := by decide +kernel
theorem dJ13_bitCount_95d88_53 : decode cJ13_bitCount_95d88 53 = .ok (.ladd, 1) := by decide +kernel
theorem dJ13_bitCount_95d88_54 : decode cJ13_bitCount_95d88 54 = .ok (.lstore_n 0, 1) := by decide +kernel
theorem dJ13_bitCount_95d88_55 : decode cJ13_bitCount_95d88 55 = .ok (.lload_n 0, 1) := by decide +kernel
theorem dJ13_bitCount_95d88_56 : decode cJ13_bitCount_95d88 56 = .ok (.l2i, 1) := by decide +kernel
theorem dJ13_bitCount_95d88_57 : decode cJ13_bitCount_95d88 57 = .ok (.bipush 127, 2) := by decide +kernel
theorem dJ13_bitCount_95d88_59 : decode cJ13_bitCount_95d88 59 = .ok (.iand, 1) := by decide +kernel
theorem dJ13_bitCount_95d88_60 : decode cJ13_bitCount_95d88 60 = .ok (.ireturn, 1) := by decide +kernel
theorem dJ9_max_7cf53_0 : decode cJ9_max_7cf53 0 = .ok (.iload_n 0, 1) := by decide +kernel
theorem dJ9_max_7cf53_1 : decode cJ9_max_7cf53 1 = .ok (.iload_n 1, 1) := by decide +kernel
theorem dJ9_max_7cf53_2 : decode cJ9_max_7cf53 2 = .ok (.if_icmp .lt 7, 3) := by decide +kernel
theorem dJ9_max_7cf53_5 : decode cJ9_max_7cf53 5 = .ok (.iload_n 0, 1) := by decide +kernel
theorem dJ9_max_7cf53_6 : decode cJ9_max_7cf53 6 = .ok (.goto 4, 3) := by decide +kernel
theorem dJ9_max_7cf53_9 : decode cJ9_max_7cf53 9 = .ok (.iload_n 1, 1) := by decide +kernel
theorem dJ9_max_7cf53_10 : decode cJ9_max_7cf53 10 = .ok (.ireturn, 1) := by decide +kernel
theorem dJ9_min_7cf53_0 : decode cJ9_min_7cf53 0 = .ok (.iload_n 0, 1) := by decide +kernel
theorem dJ9_min_7cf53_1 : decode cJ9_min_7cf53 1 = .ok (.iload_n 1, 1) := by decide +kernel
theorem dJ9_min_7cf53_2 : decode cJ9_min_7cf53 2 = .ok (.if_icmp .gt 7, 3) := by decide +kernel
theorem dJ9_min_7cf53_5 : decode cJ9_min_7cf53 5 = .ok (.iload_n 0, 1) := by decide +kernel
theorem dJ9_min_7cf53_6 : decode cJ9_min_7cf53 6 = .ok (.goto 4, 3) := by decide +kernel
theorem dJ9_min_7cf53_9 : decode cJ9_min_7cf53 9 = .ok (.iload_n 1, 1) := by decide +kernel
theorem dJ9_min_7cf53_10 : decode cJ9_min_7cf53 10 = .ok (.ireturn, 1) := by decide +kernel
theorem dL_cell_0 : decode cL_cell 0 = .ok (.iload_n 1, 1) := by decide +kernel
theorem dL_cell_1 : decode cL_cell 1 = .ok (.aload_n 0, 1) := by decide +kernel
theorem dL_cell_2 : decode cL_cell 2 = .ok (.arraylength, 1) := by decide +kernel
theorem dL_cell_3 : decode cL_cell 3 = .ok (.if_icmp .ge 9, 3) := by decide +kernel
theorem dL_cell_6 : decode cL_cell 6 = .ok (.aload_n 0, 1) := by decide +kernel
theorem dL_cell_7 : decode cL_cell 7 = .ok (.iload_n 1, 1) := by decide +kernel
theorem dL_cell_8 : decode cL_cell 8 = .ok (.iaload, 1) := by decide +kernel
theorem dL_cell_9 : decode cL_cell 9 = .ok (.goto 9, 3) := by decide +kernel
theorem dL_cell_12 : decode cL_cell 12 = .ok (.ldc 7, 2) := by decide +kernel
theorem dL_cell_14 : decode cL_cell 14 = .ok (.iload_n 1, 1) := by decide +kernel
theorem dL_cell_15 : decode cL_cell 15 = .ok (.iconst 1, 1) := by decide +kernel
theorem dL_cell_16 : decode cL_cell 16 = .ok (.iadd, 1) := by decide +kernel
theorem dL_cell_17 : decode cL_cell 17 = .ok (.imul, 1) := by decide +kernel
theorem dL_cell_18 : decode cL_cell 18 = .ok (.ireturn, 1) := by decide +kernel
theorem dL_at_0 : decode cL_at 0 = .ok (.iload_n 0, 1) := by decide +kernel
theorem dL_at_1 : decode cL_at 1 = .ok (.iconst 1, 1) := by decide +kernel
theorem dL_at_2 : decode cL_at 2 = .ok (.iushr, 1) := by decide +kernel
theorem dL_at_3 : decode cL_at 3 = .ok (.iload_n 1, 1) := by decide +kernel
theorem dL_at_4 : decode cL_at 4 = .ok (.irem, 1) := by decide +kernel
theorem dL_at_5 : decode cL_at 5 = .ok (.ireturn, 1) := by decide +kernel
theorem dL_vault_0 : decode cL_vault 0 = .ok (.aload_n 0, 1) := by decide +kernel
theorem dL_vault_1 : decode cL_vault 1 = .ok (.iload_n 1, 1) := by decide +kernel
theorem dL_vault_2 : decode cL_vault 2 = .ok (.iaload, 1) := by decide +kernel
theorem dL_vault_3 : decode cL_vault 3 = .ok (.iconst 2, 1) := by decide +kernel
theorem dL_vault_4 : decode cL_vault 4 = .ok (.ishr, 1) := by decide +kernel
theorem dL_vault_5 : decode cL_vault 5 = .ok (.bipush 15, 2) := by decide +kernel
theorem dL_vault_7 : decode cL_vault 7 = .ok (.iand, 1) := by decide +kernel
theorem dL_vault_8 : decode cL_vault 8 = .ok (.iconst 1, 1) := by decide +kernel
theorem dL_vault_9 : decode cL_vault 9 = .ok (.isub, 1) := by decide +kernel
theorem dL_vault_10 : decode cL_vault 10 = .ok (.ireturn, 1) := by decide +kernel
theorem dL_keeps_0 : decode cL_keeps 0 = .ok (.aload_n 0, 1) := by decide +kernel
theorem dL_keeps_1 : decode cL_keeps 1 = .ok (.iload_n 1, 1) := by decide +kernel
theorem dL_keeps_2 : decode cL_keeps 2 = .ok (.iaload, 1) := by decide +kernel
theorem dL_keeps_3 : decode cL_keeps 3 = .ok (.bipush 6, 2) := by decide +kernel
theorem dL_keeps_5 : decode cL_keeps 5 = .ok (.ishr, 1) := by decide +kernel
theorem dL_keeps_6 : decode cL_keeps 6 = .ok (.bipush 15, 2) := by decide +kernel
theorem dL_keeps_8 : decode cL_keeps 8 = .ok (.iand, 1) := by decide +kernel
theorem dL_keeps_9 : decode cL_keeps 9 = .ok (.iconst 1, 1) := by decide +kernel
theorem dL_keeps_10 : decode cL_keeps 10 = .ok (.isub, 1) := by decide +kernel
theorem dL_keeps_11 : decode cL_keeps 11 = .ok (.ireturn, 1) := by decide +kernel
theorem dL_upto_0 : decode cL_upto 0 = .ok (.aload_n 0, 1) := by decide +kernel
theorem dL_upto_1 : decode cL_upto 1 = .ok (.iload_n 1, 1) := by decide +kernel
theorem dL_upto_2 : decode cL_upto 2 = .ok (.invokestatic 8, 3) := by decide +kernel
theorem dL_upto_5 : decode cL_upto 5 = .ok (.ifCond .ge 7, 3) := by decide +kernel
theorem dL_upto_8 : decode cL_upto 8 = .ok (.iconst (-1), 1) := by decide +kernel
theorem dL_upto_9 : decode cL_upto 9 = .ok (.goto 9, 3) := by decide +kernel
theorem dL_upto_12 : decode cL_upto 12 = .ok (.aload_n 0, 1) := by decide +kernel
theorem dL_upto_13 : decode cL_upto 13 = .ok (.iload_n 1, 1) := by decide +kernel
theorem dL_upto_14 : decode cL_upto 14 = .ok (.iaload, 1) := by decide +kernel
theorem dL_upto_15 : decode cL_upto 15 = .ok (.bipush 10, 2) := by decide +kernel
theorem dL_upto_17 : decode cL_upto 17 = .ok (.ishr, 1) := by decide +kernel
theorem dL_upto_18 : decode cL_upto 18 = .ok (.ireturn, 1) := by decide +kernel
theorem dL_isThere_0 : decode cL_isThere 0 = .ok (.aload_n 0, 1) := by decide +kernel
theorem dL_isThere_1 : decode cL_isThere 1 = .ok (.iload_n 1, 1) := by decide +kernel
theorem dL_isThere_2 : decode cL_isThere 2 = .ok (.laload, 1) := by decide +kernel
theorem dL_isThere_3 : decode cL_isThere 3 = .ok (.bipush 16, 2) := by decide +kernel
theorem dL_isThere_5 : decode cL_isThere 5 = .ok (.iload_n 2, 1) := by decide +kernel
theorem dL_isThere_6 : decode cL_isThere 6 = .ok (.imul, 1) := by decide +kernel
theorem dL_isThere_7 : decode cL_isThere 7 = .ok (.iconst 1, 1) := by decide +kernel
theorem dL_isThere_8 : decode cL_isThere 8 = .ok (.isub, 1) := by decide +kernel
theorem dL_isThere_9 : decode cL_isThere 9 = .ok (.lshr, 1) := by decide +kernel
theorem dL_isThere_10 : decode cL_isThere 10 = .ok (.lconst 1, 1) := by decide +kernel
theorem dL_isThere_11 : decode cL_isThere 11 = .ok (.land, 1) := by decide +kernel
theorem dL_isThere_12 : decode cL_isThere 12 = .ok (.lconst 1, 1) := by decide +kernel
theorem dL_isThere_13 : decode cL_isThere 13 = .ok (.lcmp, 1) := by decide +kernel
theorem dL_isThere_14 : decode cL_isThere 14 = .ok (.ifCond .ne 7, 3) := by decide +kernel
theorem dL_isThere_17 : decode cL_isThere 17 = .ok (.iconst 1, 1) := by decide +kernel
theorem dL_isThere_18 : decode cL_isThere 18 = .ok (.goto 4, 3) := by decide +kernel
theorem dL_isThere_21 : decode cL_isThere 21 = .ok (.iconst 0, 1) := by decide +kernel
theorem dL_isThere_22 : decode cL_isThere 22 = .ok (.ireturn, 1) := by decide +kernel
theorem dL_buried_0 : decode cL_buried 0 = .ok (.aload_n 0, 1) := by decide +kernel
theorem dL_buried_1 : decode cL_buried 1 = .ok (.iload_n 1, 1) := by decide +kernel
theorem dL_buried_2 : decode cL_buried 2 = .ok (.iconst 1, 1) := by decide +kernel
theorem dL_buried_3 : decode cL_buried 3 = .ok (.invokestatic 14, 3) := by decide +kernel
theorem dL_buried_6 : decode cL_buried 6 = .ok (.ifCond .eq 7, 3) := by decide +kernel
theorem dL_buried_9 : decode cL_buried 9 = .ok (.iconst 1, 1) := by decide +kernel
theorem dL_buried_10 : decode cL_buried 10 = .ok (.goto 4, 3) := by decide +kernel
theorem dL_buried_13 : decode cL_buried 13 = .ok (.iconst 0, 1) := by decide +kernel
theorem dL_buried_14 : decode cL_buried 14 = .ok (.aload_n 0, 1) := by decide +kernel
theorem dL_buried_15 : decode cL_buried 15 = .ok (.iload_n 1, 1) := by decide +kernel
theorem dL_buried_16 : decode cL_buried 16 = .ok (.iconst 2, 1) := by decide +kernel
theorem dL_buried_17 : decode cL_buried 17 = .ok (.invokestatic 14, 3) := by decide +kernel
theorem dL_buried_20 : decode cL_buried 20 = .ok (.ifCond .eq 7, 3) := by decide +kernel
theorem dL_buried_23 : decode cL_buried 23 = .ok (.iconst 1, 1) := by decide +kernel
theorem dL_buried_24 : decode cL_buried 24 = .ok (.goto 4, 3) := by decide +kernel
theorem dL_buried_27 : decode cL_buried 27 = .ok (.iconst 0, 1) := by decide +kernel
theorem dL_buried_28 : decode cL_buried 28 = .ok (.iadd, 1) := by decide +kernel
theorem dL_buried_29 : decode cL_buried 29 = .ok (.aload_n 0, 1) := by decide +kernel
theorem dL_buried_30 : decode cL_buried 30 = .ok (.iload_n 1, 1) := by decide +kernel
theorem dL_buried_31 : decode cL_buried 31 = .ok (.iconst 3, 1) := by decide +kernel
theorem dL_buried_32 : decode cL_buried 32 = .ok (.invokestatic 14, 3) := by decide +kernel
theorem dL_buried_35 : decode cL_buried 35 = .ok (.ifCond .eq 7, 3) := by decide +kernel
theorem dL_buried_38 : decode cL_buried 38 = .ok (.iconst 1, 1) := by decide +kernel
theorem dL_buried_39 : decode cL_buried 39 = .ok (.goto 4, 3) := by decide +kernel
theorem dL_buried_42 : decode cL_buried 42 = .ok (.iconst 0, 1) := by decide +kernel
theorem dL_buried_43 : decode cL_buried 43 = .ok (.iadd, 1) := by decide +kernel
theorem dL_buried_44 : decode cL_buried 44 = .ok (.ireturn, 1) := by decide +kernel
theorem dL_who_0 : decode cL_who 0 = .ok (.aload_n 0, 1) := by decide +kernel
theorem dL_who_1 : decode cL_who 1 = .ok (.iload_n 1, 1) := by decide +kernel
theorem dL_who_2 : decode cL_who 2 = .ok (.laload, 1) := by decide +kernel
theorem dL_who_3 : decode cL_who 3 = .ok (.bipush 16, 2) := by decide +kernel
theorem dL_who_5 : decode cL_who 5 = .ok (.iload_n 2, 1) := by decide +kernel
theorem dL_who_6 : decode cL_who 6 = .ok (.imul, 1) := by decide +kernel
theorem dL_who_7 : decode cL_who 7 = .ok (.bipush 16, 2) := by decide +kernel
theorem dL_who_9 : decode cL_who 9 = .ok (.isub, 1) := by decide +kernel
theorem dL_who_10 : decode cL_who 10 = .ok (.lshr, 1) := by decide +kernel
theorem dL_who_11 : decode cL_who 11 = .ok (.ldc2_w 18, 3) := by decide +kernel
theorem dL_who_14 : decode cL_who 14 = .ok (.land, 1) := by decide +kernel
theorem dL_who_15 : decode cL_who 15 = .ok (.l2i, 1) := by decide +kernel
theorem dL_who_16 : decode cL_who 16 = .ok (.ireturn, 1) := by decide +kernel
theorem dL_when_0 : decode cL_when 0 = .ok (.aload_n 0, 1) := by decide +kernel
theorem dL_when_1 : decode cL_when 1 = .ok (.iload_n 1, 1) := by decide +kernel
theorem dL_when_2 : decode cL_when 2 = .ok (.laload, 1) := by decide +kernel
theorem dL_when_3 : decode cL_when 3 = .ok (.bipush 16, 2) := by decide +kernel
theorem dL_when_5 : decode cL_when 5 = .ok (.iload_n 2, 1) := by decide +kernel
theorem dL_when_6 : decode cL_when 6 = .ok (.imul, 1) := by decide +kernel
theorem dL_when_7 : decode cL_when 7 = .ok (.bipush 12, 2) := by decide +kernel
theorem dL_when_9 : decode cL_when 9 = .ok (.isub, 1) := by decide +kernel
theorem dL_when_10 : decode cL_when 10 = .ok (.lshr, 1) := by decide +kernel
theorem dL_when_11 : decode cL_when 11 = .ok (.ldc2_w 20, 3) := by decide +kernel
theorem dL_when_14 : decode cL_when 14 = .ok (.land, 1) := by decide +kernel
theorem dL_when_15 : decode cL_when 15 = .ok (.l2i, 1) := by decide +kernel
theorem dL_when_16 : decode cL_when 16 = .ok (.ireturn, 1) := by decide +kernel
theorem dL_rest_0 : decode cL_rest 0 = .ok (.aload_n 0, 1) := by decide +kernel
theorem dL_rest_1 : decode cL_rest 1 = .ok (.iload_n 1, 1) := by decide +kernel
theorem dL_rest_2 : decode cL_rest 2 = .ok (.iaload, 1) := by decide +kernel
theorem dL_rest_3 : decode cL_rest 3 = .ok (.iconst 3, 1) := by decide +kernel
theorem dL_rest_4 : decode cL_rest 4 = .ok (.iand, 1) := by decide +kernel
theorem dL_rest_5 : decode cL_rest 5 = .ok (.ifCond .ne 8, 3) := by decide +kernel
theorem dL_rest_8 : decode cL_rest 8 = .ok (.bipush 30, 2) := by decide +kernel
theorem dL_rest_10 : decode cL_rest 10 = .ok (.goto 19, 3) := by decide +kernel
theorem dL_rest_13 : decode cL_rest 13 = .ok (.aload_n 0, 1) := by decide +kernel
theorem dL_rest_14 : decode cL_rest 14 = .ok (.iload_n 1, 1) := by decide +kernel
theorem dL_rest_15 : decode cL_rest 15 = .ok (.iaload, 1) := by decide +kernel
theorem dL_rest_16 : decode cL_rest 16 = .ok (.iconst 3, 1) := by decide +kernel
theorem dL_rest_17 : decode cL_rest 17 = .ok (.iand, 1) := by decide +kernel
theorem dL_rest_18 : decode cL_rest 18 = .ok (.iconst 1, 1) := by decide +kernel
theorem dL_rest_19 : decode cL_rest 19 = .ok (.if_icmp .ne 8, 3) := by decide +kernel
theorem dL_rest_22 : decode cL_rest 22 = .ok (.bipush 15, 2) := by decide +kernel
theorem dL_rest_24 : decode cL_rest 24 = .ok (.goto 5, 3) := by decide +kernel
theorem dL_rest_27 : decode cL_rest 27 = .ok (.bipush 60, 2) := by decide +kernel
theorem dL_rest_29 : decode cL_rest 29 = .ok (.ireturn, 1) := by decide +kernel
theorem dL_fresh_0 : decode cL_fresh 0 = .ok (.iconst 0, 1) := by decide +kernel
theorem dL_fresh_1 : decode cL_fresh 1 = .ok (.istore 4, 2) := by decide +kernel
theorem dL_fresh_3 : decode cL_fresh 3 = .ok (.iconst 1, 1) := by decide +kernel
theorem dL_fresh_4 : decode cL_fresh 4 = .ok (.istore 5, 2) := by decide +kernel
theorem dL_fresh_6 : decode cL_fresh 6 = .ok (.iload 5, 2) := by decide +kernel
theorem dL_fresh_8 : decode cL_fresh 8 = .ok (.iconst 4, 1) := by decide +kernel
theorem dL_fresh_9 : decode cL_fresh 9 = .ok (.if_icmp .ge 46, 3) := by decide +kernel
theorem dL_fresh_12 : decode cL_fresh 12 = .ok (.iload 4, 2) := by decide +kernel
theorem dL_fresh_14 : decode cL_fresh 14 = .ok (.aload_n 3, 1) := by decide +kernel
theorem dL_fresh_15 : decode cL_fresh 15 = .ok (.iload_n 0, 1) := by decide +kernel
theorem dL_fresh_16 : decode cL_fresh 16 = .ok (.iload 5, 2) := by decide +kernel
theorem dL_fresh_18 : decode cL_fresh 18 = .ok (.invokestatic 14, 3) := by decide +kernel
theorem dL_fresh_21 : decode cL_fresh 21 = .ok (.ifCond .eq 24, 3) := by decide +kernel
theorem dL_fresh_24 : decode cL_fresh 24 = .ok (.iload_n 1, 1) := by decide +kernel
theorem dL_fresh_25 : decode cL_fresh 25 = .ok (.aload_n 3, 1) := by decide +kernel
theorem dL_fresh_26 : decode cL_fresh 26 = .ok (.iload_n 0, 1) := by decide +kernel
theorem dL_fresh_27 : decode cL_fresh 27 = .ok (.iload 5, 2) := by decide +kernel
theorem dL_fresh_29 : decode cL_fresh 29 = .ok (.invokestatic 22, 3) := by decide +kernel
theorem dL_fresh_32 : decode cL_fresh 32 = .ok (.isub, 1) := by decide +kernel
theorem dL_fresh_33 : decode cL_fresh 33 = .ok (.aload_n 2, 1) := by decide +kernel
theorem dL_fresh_34 : decode cL_fresh 34 = .ok (.iload_n 0, 1) := by decide +kernel
theorem dL_fresh_35 : decode cL_fresh 35 = .ok (.invokestatic 26, 3) := by decide +kernel
theorem dL_fresh_38 : decode cL_fresh 38 = .ok (.if_icmp .ge 7, 3) := by decide +kernel
theorem dL_fresh_41 : decode cL_fresh 41 = .ok (.iconst 1, 1) := by decide +kernel
theorem dL_fresh_42 : decode cL_fresh 42 = .ok (.goto 4, 3) := by decide +kernel
theorem dL_fresh_45 : decode cL_fresh 45 = .ok (.iconst 0, 1) := by decide +kernel
theorem dL_fresh_46 : decode cL_fresh 46 = .ok (.iadd, 1) := by decide +kernel
theorem dL_fresh_47 : decode cL_fresh 47 = .ok (.istore 4, 2) := by decide +kernel
theorem dL_fresh_49 : decode cL_fresh 49 = .ok (.iinc 5 1, 3) := by decide +kernel
theorem dL_fresh_52 : decode cL_fresh 52 = .ok (.goto (-46), 3) := by decide +kernel
theorem dL_fresh_55 : decode cL_fresh 55 = .ok (.iload 4, 2) := by decide +kernel
theorem dL_fresh_57 : decode cL_fresh 57 = .ok (.ireturn, 1) := by decide +kernel
theorem dL_holder_0 : decode cL_holder 0 = .ok (.iconst (-1), 1) := by decide +kernel
theorem dL_holder_1 : decode cL_holder 1 = .ok (.istore 4, 2) := by decide +kernel
theorem dL_holder_3 : decode cL_holder 3 = .ok (.iconst 3, 1) := by decide +kernel
theorem dL_holder_4 : decode cL_holder 4 = .ok (.istore 5, 2) := by decide +kernel
theorem dL_holder_6 : decode cL_holder 6 = .ok (.iload 5, 2) := by decide +kernel
theorem dL_holder_8 : decode cL_holder 8 = .ok (.ifCond .le 45, 3) := by decide +kernel
theorem dL_holder_11 : decode cL_holder 11 = .ok (.aload_n 3, 1) := by decide +kernel
theorem dL_holder_12 : decode cL_holder 12 = .ok (.iload_n 0, 1) := by decide +kernel
theorem dL_holder_13 : decode cL_holder 13 = .ok (.iload 5, 2) := by decide +kernel
theorem dL_holder_15 : decode cL_holder 15 = .ok (.invokestatic 14, 3) := by decide +kernel
theorem dL_holder_18 : decode cL_holder 18 = .ok (.ifCond .eq 29, 3) := by decide +kernel
theorem dL_holder_21 : decode cL_holder 21 = .ok (.iload_n 1, 1) := by decide +kernel
theorem dL_holder_22 : decode cL_holder 22 = .ok (.aload_n 3, 1) := by decide +kernel
theorem dL_holder_23 : decode cL_holder 23 = .ok (.iload_n 0, 1) := by decide +kernel
theorem dL_holder_24 : decode cL_holder 24 = .ok (.iload 5, 2) := by decide +kernel
theorem dL_holder_26 : decode cL_holder 26 = .ok (.invokestatic 22, 3) := by decide +kernel
theorem dL_holder_29 : decode cL_holder 29 = .ok (.isub, 1) := by decide +kernel
theorem dL_holder_30 : decode cL_holder 30 = .ok (.aload_n 2, 1) := by decide +kernel
theorem dL_holder_31 : decode cL_holder 31 = .ok (.iload_n 0, 1) := by decide +kernel
theorem dL_holder_32 : decode cL_holder 32 = .ok (.invokestatic 26, 3) := by decide +kernel
theorem dL_holder_35 : decode cL_holder 35 = .ok (.if_icmp .ge 12, 3) := by decide +kernel
theorem dL_holder_38 : decode cL_holder 38 = .ok (.aload_n 3, 1) := by decide +kernel
theorem dL_holder_39 : decode cL_holder 39 = .ok (.iload_n 0, 1) := by decide +kernel
theorem dL_holder_40 : decode cL_holder 40 = .ok (.iload 5, 2) := by decide +kernel
theorem dL_holder_42 : decode cL_holder 42 = .ok (.invokestatic 29, 3) := by decide +kernel
theorem dL_holder_45 : decode cL_holder 45 = .ok (.istore 4, 2) := by decide +kernel
theorem dL_holder_47 : decode cL_holder 47 = .ok (.iinc 5 (-1), 3) := by decide +kernel
theorem dL_holder_50 : decode cL_holder 50 = .ok (.goto (-44), 3) := by decide +kernel
theorem dL_holder_53 : decode cL_holder 53 = .ok (.aload_n 2, 1) := by decide +kernel
theorem dL_holder_54 : decode cL_holder 54 = .ok (.iload_n 0, 1) := by decide +kernel
theorem dL_holder_55 : decode cL_holder 55 = .ok (.invokestatic 8, 3) := by decide +kernel
theorem dL_holder_58 : decode cL_holder 58 = .ok (.ifCond .lt 19, 3) := by decide +kernel
theorem dL_holder_61 : decode cL_holder 61 = .ok (.aload_n 2, 1) := by decide +kernel
theorem dL_holder_62 : decode cL_holder 62 = .ok (.iload_n 0, 1) := by decide +kernel
theorem dL_holder_63 : decode cL_holder 63 = .ok (.invokestatic 32, 3) := by decide +kernel
theorem dL_holder_66 : decode cL_holder 66 = .ok (.iload_n 1, 1) := by decide +kernel
theorem dL_holder_67 : decode cL_holder 67 = .ok (.if_icmp .lt 10, 3) := by decide +kernel
theorem dL_holder_70 : decode cL_holder 70 = .ok (.aload_n 2, 1) := by decide +kernel
theorem dL_holder_71 : decode cL_holder 71 = .ok (.iload_n 0, 1) := by decide +kernel
theorem dL_holder_72 : decode cL_holder 72 = .ok (.invokestatic 8, 3) := by decide +kernel
theorem dL_holder_75 : decode cL_holder 75 = .ok (.istore 4, 2) := by decide +kernel
theorem dL_holder_77 : decode cL_holder 77 = .ok (.aload_n 2, 1) := by decide +kernel
theorem dL_holder_78 : decode cL_holder 78 = .ok (.iload_n 0, 1) := by decide +kernel
theorem dL_holder_79 : decode cL_holder 79 = .ok (.invokestatic 35, 3) := by decide +kernel
theorem dL_holder_82 : decode cL_holder 82 = .ok (.ifCond .lt 11, 3) := by decide +kernel
theorem dL_holder_85 : decode cL_holder 85 = .ok (.aload_n 2, 1) := by decide +kernel
theorem dL_holder_86 : decode cL_holder 86 = .ok (.iload_n 0, 1) := by decide +kernel
theorem dL_holder_87 : decode cL_holder 87 = .ok (.invokestatic 35, 3) := by decide +kernel
theorem dL_holder_90 : decode cL_holder 90 = .ok (.goto 5, 3) := by decide +kernel
theorem dL_holder_93 : decode cL_holder 93 = .ok (.iload 4, 2) := by decide +kernel
theorem dL_holder_95 : decode cL_holder 95 = .ok (.ireturn, 1) := by decide +kernel
theorem dL_most_0 : decode cL_most 0 = .ok (.aload_n 0, 1) := by decide +kernel
theorem dL_most_1 : decode cL_most 1 = .ok (.iload_n 1, 1) := by decide +kernel
theorem dL_most_2 : decode cL_most 2 = .ok (.iaload, 1) := by decide +kernel
theorem dL_most_3 : decode cL_most 3 = .ok (.iconst 3, 1) := by decide +kernel
theorem dL_most_4 : decode cL_most 4 = .ok (.iand, 1) := by decide +kernel
theorem dL_most_5 : decode cL_most 5 = .ok (.istore_n 2, 1) := by decide +kernel
theorem dL_most_6 : decode cL_most 6 = .ok (.iload_n 2, 1) := by decide +kernel
theorem dL_most_7 : decode cL_most 7 = .ok (.iconst 3, 1) := by decide +kernel
theorem dL_most_8 : decode cL_most 8 = .ok (.if_icmp .ne 7, 3) := by decide +kernel
theorem dL_most_11 : decode cL_most 11 = .ok (.iconst 0, 1) := by decide +kernel
theorem dL_most_12 : decode cL_most 12 = .ok (.goto 18, 3) := by decide +kernel
theorem dL_most_15 : decode cL_most 15 = .ok (.aload_n 0, 1) := by decide +kernel
theorem dL_most_16 : decode cL_most 16 = .ok (.iload_n 1, 1) := by decide +kernel
theorem dL_most_17 : decode cL_most 17 = .ok (.invokestatic 35, 3) := by decide +kernel
theorem dL_most_20 : decode cL_most 20 = .ok (.ifCond .lt 7, 3) := by decide +kernel
theorem dL_most_23 : decode cL_most 23 = .ok (.iconst 3, 1) := by decide +kernel
theorem dL_most_24 : decode cL_most 24 = .ok (.goto 6, 3) := by decide +kernel
theorem dL_most_27 : decode cL_most 27 = .ok (.iconst 3, 1) := by decide +kernel
theorem dL_most_28 : decode cL_most 28 = .ok (.iload_n 2, 1) := by decide +kernel
theorem dL_most_29 : decode cL_most 29 = .ok (.isub, 1) := by decide +kernel
theorem dL_most_30 : decode cL_most 30 = .ok (.ireturn, 1) := by decide +kernel
theorem dL_spread_0 : decode cL_spread 0 = .ok (.iconst 0, 1) := by decide +kernel
theorem dL_spread_1 : decode cL_spread 1 = .ok (.istore 4, 2) := by decide +kernel
theorem dL_spread_3 : decode cL_spread 3 = .ok (.iload 4, 2) := by decide +kernel
theorem dL_spread_5 : decode cL_spread 5 = .ok (.bipush 40, 2) := by decide +kernel
theorem dL_spread_7 : decode cL_spread 7 = .ok (.if_icmp .ge 14, 3) := by decide +kernel
theorem dL_spread_10 : decode cL_spread 10 = .ok (.aload_n 3, 1) := by decide +kernel
theorem dL_spread_11 : decode cL_spread 11 = .ok (.iload 4, 2) := by decide +kernel
theorem dL_spread_13 : decode cL_spread 13 = .ok (.iconst 0, 1) := by decide +kernel
theorem dL_spread_14 : decode cL_spread 14 = .ok (.iastore, 1) := by decide +kernel
theorem dL_spread_15 : decode cL_spread 15 = .ok (.iinc 4 1, 3) := by decide +kernel
theorem dL_spread_18 : decode cL_spread 18 = .ok (.goto (-15), 3) := by decide +kernel
theorem dL_spread_21 : decode cL_spread 21 = .ok (.iload_n 0, 1) := by decide +kernel
theorem dL_spread_22 : decode cL_spread 22 = .ok (.ifCond .ne 4, 3) := by decide +kernel
theorem dL_spread_25 : decode cL_spread 25 = .ok (.return_, 1) := by decide +kernel
theorem dL_spread_26 : decode cL_spread 26 = .ok (.aload_n 3, 1) := by decide +kernel
theorem dL_spread_27 : decode cL_spread 27 = .ok (.iconst 0, 1) := by decide +kernel
theorem dL_spread_28 : decode cL_spread 28 = .ok (.iconst 1, 1) := by decide +kernel
theorem dL_spread_29 : decode cL_spread 29 = .ok (.iastore, 1) := by decide +kernel
theorem dL_spread_30 : decode cL_spread 30 = .ok (.iconst 1, 1) := by decide +kernel
theorem dL_spread_31 : decode cL_spread 31 = .ok (.istore 4, 2) := by decide +kernel
theorem dL_spread_33 : decode cL_spread 33 = .ok (.iload 4, 2) := by decide +kernel
theorem dL_spread_35 : decode cL_spread 35 = .ok (.ifCond .eq 78, 3) := by decide +kernel
theorem dL_spread_38 : decode cL_spread 38 = .ok (.iconst 0, 1) := by decide +kernel
theorem dL_spread_39 : decode cL_spread 39 = .ok (.istore 4, 2) := by decide +kernel
theorem dL_spread_41 : decode cL_spread 41 = .ok (.iconst 1, 1) := by decide +kernel
theorem dL_spread_42 : decode cL_spread 42 = .ok (.istore 5, 2) := by decide +kernel
theorem dL_spread_44 : decode cL_spread 44 = .ok (.iload 5, 2) := by decide +kernel
theorem dL_spread_46 : decode cL_spread 46 = .ok (.bipush 40, 2) := by decide +kernel
theorem dL_spread_48 : decode cL_spread 48 = .ok (.if_icmp .ge 62, 3) := by decide +kernel
theorem dL_spread_51 : decode cL_spread 51 = .ok (.aload_n 3, 1) := by decide +kernel
theorem dL_spread_52 : decode cL_spread 52 = .ok (.iload 5, 2) := by decide +kernel
theorem dL_spread_54 : decode cL_spread 54 = .ok (.iaload, 1) := by decide +kernel
theorem dL_spread_55 : decode cL_spread 55 = .ok (.iconst 1, 1) := by decide +kernel
theorem dL_spread_56 : decode cL_spread 56 = .ok (.if_icmp .eq 48, 3) := by decide +kernel
theorem dL_spread_59 : decode cL_spread 59 = .ok (.iload 5, 2) := by decide +kernel
theorem dL_spread_61 : decode cL_spread 61 = .ok (.iload_n 0, 1) := by decide +kernel
theorem dL_spread_62 : decode cL_spread 62 = .ok (.if_icmp .eq 42, 3) := by decide +kernel
theorem dL_spread_65 : decode cL_spread 65 = .ok (.aload_n 1, 1) := by decide +kernel
theorem dL_spread_66 : decode cL_spread 66 = .ok (.iload 5, 2) := by decide +kernel
theorem dL_spread_68 : decode cL_spread 68 = .ok (.iaload, 1) := by decide +kernel
theorem dL_spread_69 : decode cL_spread 69 = .ok (.iconst 3, 1) := by decide +kernel

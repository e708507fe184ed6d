theorem dJxe99ae_isNaN_b9ae7_0 : decode cJxe99ae_isNaN_b9ae7 0 = .ok (.dload_n 0, 1) := by decide +kernel
theorem dJxe99ae_isNaN_b9ae7_1 : decode cJxe99ae_isNaN_b9ae7 1 = .ok (.dload_n 0, 1) := by decide +kernel
theorem dJxe99ae_isNaN_b9ae7_2 : decode cJxe99ae_isNaN_b9ae7 2 = .ok (.dcmp .l, 1) := by decide +kernel
theorem dJxe99ae_isNaN_b9ae7_3 : decode cJxe99ae_isNaN_b9ae7 3 = .ok (.ifCond .eq 7, 3) := by decide +kernel
theorem dJxe99ae_isNaN_b9ae7_6 : decode cJxe99ae_isNaN_b9ae7 6 = .ok (.iconst 1, 1) := by decide +kernel
theorem dJxe99ae_isNaN_b9ae7_7 : decode cJxe99ae_isNaN_b9ae7 7 = .ok (.goto 4, 3) := by decide +kernel
theorem dJxe99ae_isNaN_b9ae7_10 : decode cJxe99ae_isNaN_b9ae7 10 = .ok (.iconst 0, 1) := by decide +kernel
theorem dJxe99ae_isNaN_b9ae7_11 : decode cJxe99ae_isNaN_b9ae7 11 = .ok (.ireturn, 1) := by decide +kernel
theorem dJxe99ae_doubleToLongBits_ccdee_0 : decode cJxe99ae_doubleToLongBits_ccdee 0 = .ok (.dload_n 0, 1) := by decide +kernel
theorem dJxe99ae_doubleToLongBits_ccdee_1 : decode cJxe99ae_doubleToLongBits_ccdee 1 = .ok (.invokestatic 122, 3) := by decide +kernel
theorem dJxe99ae_doubleToLongBits_ccdee_4 : decode cJxe99ae_doubleToLongBits_ccdee 4 = .ok (.ifCond .ne 8, 3) := by decide +kernel
theorem dJxe99ae_doubleToLongBits_ccdee_7 : decode cJxe99ae_doubleToLongBits_ccdee 7 = .ok (.dload_n 0, 1) := by decide +kernel
theorem dJxe99ae_doubleToLongBits_ccdee_8 : decode cJxe99ae_doubleToLongBits_ccdee 8 = .ok (.invokestatic 134, 3) := by decide +kernel
theorem dJxe99ae_doubleToLongBits_ccdee_11 : decode cJxe99ae_doubleToLongBits_ccdee 11 = .ok (.lreturn, 1) := by decide +kernel
theorem dJxe99ae_doubleToLongBits_ccdee_12 : decode cJxe99ae_doubleToLongBits_ccdee 12 = .ok (.ldc2_w 137, 3) := by decide +kernel
theorem dJxe99ae_doubleToLongBits_ccdee_15 : decode cJxe99ae_doubleToLongBits_ccdee 15 = .ok (.lreturn, 1) := by decide +kernel
theorem dJ13_bitCount_95d88_0 : decode cJ13_bitCount_95d88 0 = .ok (.lload_n 0, 1) := by decide +kernel
theorem dJ13_bitCount_95d88_1 : decode cJ13_bitCount_95d88 1 = .ok (.lload_n 0, 1) := by decide +kernel
theorem dJ13_bitCount_95d88_2 : decode cJ13_bitCount_95d88 2 = .ok (.iconst 1, 1) := by decide +kernel
theorem dJ13_bitCount_95d88_3 : decode cJ13_bitCount_95d88 3 = .ok (.lushr, 1) := by decide +kernel
theorem dJ13_bitCount_95d88_4 : decode cJ13_bitCount_95d88 4 = .ok (.ldc2_w 314, 3) := by decide +kernel
theorem dJ13_bitCount_95d88_7 : decode cJ13_bitCount_95d88 7 = .ok (.land, 1) := by decide +kernel
theorem dJ13_bitCount_95d88_8 : decode cJ13_bitCount_95d88 8 = .ok (.lsub, 1) := by decide +kernel
theorem dJ13_bitCount_95d88_9 : decode cJ13_bitCount_95d88 9 = .ok (.lstore_n 0, 1) := by decide +kernel
theorem dJ13_bitCount_95d88_10 : decode cJ13_bitCount_95d88 10 = .ok (.lload_n 0, 1) := by decide +kernel
theorem dJ13_bitCount_95d88_11 : decode cJ13_bitCount_95d88 11 = .ok (.ldc2_w 316, 3) := by decide +kernel
theorem dJ13_bitCount_95d88_14 : decode cJ13_bitCount_95d88 14 = .ok (.land, 1) := by decide +kernel
theorem dJ13_bitCount_95d88_15 : decode cJ13_bitCount_95d88 15 = .ok (.lload_n 0, 1) := by decide +kernel
theorem dJ13_bitCount_95d88_16 : decode cJ13_bitCount_95d88 16 = .ok (.iconst 2, 1) := by decide +kernel
theorem dJ13_bitCount_95d88_17 : decode cJ13_bitCount_95d88 17 = .ok (.lushr, 1) := by decide +kernel
theorem dJ13_bitCount_95d88_18 : decode cJ13_bitCount_95d88 18 = .ok (.ldc2_w 316, 3) := by decide +kernel
theorem dJ13_bitCount_95d88_21 : decode cJ13_bitCount_95d88 21 = .ok (.land, 1) := by decide +kernel
theorem dJ13_bitCount_95d88_22 : decode cJ13_bitCount_95d88 22 = .ok (.ladd, 1) := by decide +kernel
theorem dJ13_bitCount_95d88_23 : decode cJ13_bitCount_95d88 23 = .ok (.lstore_n 0, 1) := by decide +kernel
theorem dJ13_bitCount_95d88_24 : decode cJ13_bitCount_95d88 24 = .ok (.lload_n 0, 1) := by decide +kernel
theorem dJ13_bitCount_95d88_25 : decode cJ13_bitCount_95d88 25 = .ok (.lload_n 0, 1) := by decide +kernel
theorem dJ13_bitCount_95d88_26 : decode cJ13_bitCount_95d88 26 = .ok (.iconst 4, 1) := by decide +kernel
theorem dJ13_bitCount_95d88_27 : decode cJ13_bitCount_95d88 27 = .ok (.lushr, 1) := by decide +kernel
theorem dJ13_bitCount_95d88_28 : decode cJ13_bitCount_95d88 28 = .ok (.ladd, 1) := by decide +kernel
theorem dJ13_bitCount_95d88_29 : decode cJ13_bitCount_95d88 29 = .ok (.ldc2_w 318, 3) := by decide +kernel
theorem dJ13_bitCount_95d88_32 : decode cJ13_bitCount_95d88 32 = .ok (.land, 1) := by decide +kernel
theorem dJ13_bitCount_95d88_33 : decode cJ13_bitCount_95d88 33 = .ok (.lstore_n 0, 1) := by decide +kernel
theorem dJ13_bitCount_95d88_34 : decode cJ13_bitCount_95d88 34 = .ok (.lload_n 0, 1) := by decide +kernel
theorem dJ13_bitCount_95d88_35 : decode cJ13_bitCount_95d88 35 = .ok (.lload_n 0, 1) := by decide +kernel
theorem dJ13_bitCount_95d88_36 : decode cJ13_bitCount_95d88 36 = .ok (.bipush 8, 2) := by decide +kernel
theorem dJ13_bitCount_95d88_38 : decode cJ13_bitCount_95d88 38 = .ok (.lushr, 1) := by decide +kernel
theorem dJ13_bitCount_95d88_39 : decode cJ13_bitCount_95d88 39 = .ok (.ladd, 1) := by decide +kernel
theorem dJ13_bitCount_95d88_40 : decode cJ13_bitCount_95d88 40 = .ok (.lstore_n 0, 1) := by decide +kernel
theorem dJ13_bitCount_95d88_41 : decode cJ13_bitCount_95d88 41 = .ok (.lload_n 0, 1) := by decide +kernel
theorem dJ13_bitCount_95d88_42 : decode cJ13_bitCount_95d88 42 = .ok (.lload_n 0, 1) := by decide +kernel
theorem dJ13_bitCount_95d88_43 : decode cJ13_bitCount_95d88 43 = .ok (.bipush 16, 2) := by decide +kernel
theorem dJ13_bitCount_95d88_45 : decode cJ13_bitCount_95d88 45 = .ok (.lushr, 1) := by decide +kernel
theorem dJ13_bitCount_95d88_46 : decode cJ13_bitCount_95d88 46 = .ok (.ladd, 1) := by decide +kernel
theorem dJ13_bitCount_95d88_47 : decode cJ13_bitCount_95d88 47 = .ok (.lstore_n 0, 1) := by decide +kernel
theorem dJ13_bitCount_95d88_48 : decode cJ13_bitCount_95d88 48 = .ok (.lload_n 0, 1) := by decide +kernel
theorem dJ13_bitCount_95d88_49 : decode cJ13_bitCount_95d88 49 = .ok (.lload_n 0, 1) := by decide +kernel
theorem dJ13_bitCount_95d88_50 : decode cJ13_bitCount_95d88 50 = .ok (.bipush 32, 2) := by decide +kernel
theorem dJ13_bitCount_95d88_52 : decode cJ13_bitCount_95d88 52 = .ok (.lushr, 1) := by decide +kernel
theorem dJ13_bitCount_95d88_53 : decode cJ13_bitCount_95d88 53 = .ok (.ladd, 1) := by decide +kernel
theorem dJ13_bitCount_95d88_54 : decode cJ13_bitCount_95d88 54 = .ok (.lstore_n 0, 1) := by decide +kernel
theorem dJ13_bitCount_95d88_55 : decode cJ13_bitCount_95d88 55 = .ok (.lload_n 0, 1) := by decide +kernel
theorem dJ13_bitCount_95d88_56 : decode cJ13_bitCount_95d88 56 = .ok (.l2i, 1) := by decide +kernel
theorem dJ13_bitCount_95d88_57 : decode cJ13_bitCount_95d88 57 = .ok (.bipush 127, 2) := by decide +kernel
theorem dJ13_bitCount_95d88_59 : decode cJ13_bitCount_95d88 59 = .ok (.iand, 1) := by decide +kernel
theorem dJ13_bitCount_95d88_60 : decode cJ13_bitCount_95d88 60 = .ok (.ireturn, 1) := by decide +kernel
theorem dJ9_max_7cf53_0 : decode cJ9_max_7cf53 0 = .ok (.iload_n 0, 1) := by decide +kernel
theorem dJ9_max_7cf53_1 : decode cJ9_max_7cf53 1 = .ok (.iload_n 1, 1) := by decide +kernel
theorem dJ9_max_7cf53_2 : decode cJ9_max_7cf53 2 = .ok (.if_icmp .lt 7, 3) := by decide +kernel
theorem dJ9_max_7cf53_5 : decode cJ9_max_7cf53 5 = .ok (.iload_n 0, 1) := by decide +kernel
theorem dJ9_max_7cf53_6 : decode cJ9_max_7cf53 6 = .ok (.goto 4, 3) := by decide +kernel
theorem dJ9_max_7cf53_9 : decode cJ9_max_7cf53 9 = .ok (.iload_n 1, 1) := by decide +kernel
theorem dJ9_max_7cf53_10 : decode cJ9_max_7cf53 10 = .ok (.ireturn, 1) := by decide +kernel
theorem dJ9_min_7cf53_0 : decode cJ9_min_7cf53 0 = .ok (.iload_n 0, 1) := by decide +kernel
theorem dJ9_min_7cf53_1 : decode cJ9_min_7cf53 1 = .ok (.iload_n 1, 1) := by decide +kernel
theorem dJ9_min_7cf53_2 : decode cJ9_min_7cf53 2 = .ok (.if_icmp .gt 7, 3) := by decide +kernel
theorem dJ9_min_7cf53_5 : decode cJ9_min_7cf53 5 = .ok (.iload_n 0, 1) := by decide +kernel
theorem dJ9_min_7cf53_6 : decode cJ9_min_7cf53 6 = .ok (.goto 4, 3) := by decide +kernel
theorem dJ9_min_7cf53_9 : decode cJ9_min_7cf53 9 = .ok (.iload_n 1, 1) := by decide +kernel
theorem dJ9_min_7cf53_10 : decode cJ9_min_7cf53 10 = .ok (.ireturn, 1) := by decide +kernel
theorem dL_lay_0 : decode cL_lay 0 = .ok (.aload_n 3, 1) := by decide +kernel
theorem dL_lay_1 : decode cL_lay 1 = .ok (.iconst 0, 1) := by decide +kernel
theorem dL_lay_2 : decode cL_lay 2 = .ok (.aload_n 0, 1) := by decide +kernel
theorem dL_lay_3 : decode cL_lay 3 = .ok (.iload_n 1, 1) := by decide +kernel
theorem dL_lay_4 : decode cL_lay 4 = .ok (.iload_n 2, 1) := by decide +kernel
theorem dL_lay_5 : decode cL_lay 5 = .ok (.invokevirtual 7, 3) := by decide +kernel
theorem dL_lay_8 : decode cL_lay 8 = .ok (.i2l, 1) := by decide +kernel
theorem dL_lay_9 : decode cL_lay 9 = .ok (.lastore, 1) := by decide +kernel
theorem dL_lay_10 : decode cL_lay 10 = .ok (.goto 15, 3) := by decide +kernel
theorem dL_lay_13 : decode cL_lay 13 = .ok (.astore 4, 2) := by decide +kernel
theorem dL_lay_15 : decode cL_lay 15 = .ok (.iconst 1, 1) := by decide +kernel
theorem dL_lay_16 : decode cL_lay 16 = .ok (.ireturn, 1) := by decide +kernel
theorem dL_lay_17 : decode cL_lay 17 = .ok (.astore 4, 2) := by decide +kernel
theorem dL_lay_19 : decode cL_lay 19 = .ok (.iconst 2, 1) := by decide +kernel
theorem dL_lay_20 : decode cL_lay 20 = .ok (.ireturn, 1) := by decide +kernel
theorem dL_lay_21 : decode cL_lay 21 = .ok (.astore 4, 2) := by decide +kernel
theorem dL_lay_23 : decode cL_lay 23 = .ok (.iconst 3, 1) := by decide +kernel
theorem dL_lay_24 : decode cL_lay 24 = .ok (.ireturn, 1) := by decide +kernel
theorem dL_lay_25 : decode cL_lay 25 = .ok (.iconst 0, 1) := by decide +kernel
theorem dL_lay_26 : decode cL_lay 26 = .ok (.ireturn, 1) := by decide +kernel
theorem dL_pass_0 : decode cL_pass 0 = .ok (.aload_n 2, 1) := by decide +kernel
theorem dL_pass_1 : decode cL_pass 1 = .ok (.iconst 0, 1) := by decide +kernel
theorem dL_pass_2 : decode cL_pass 2 = .ok (.aload_n 0, 1) := by decide +kernel
theorem dL_pass_3 : decode cL_pass 3 = .ok (.iload_n 1, 1) := by decide +kernel
theorem dL_pass_4 : decode cL_pass 4 = .ok (.invokevirtual 19, 3) := by decide +kernel
theorem dL_pass_7 : decode cL_pass 7 = .ok (.i2l, 1) := by decide +kernel
theorem dL_pass_8 : decode cL_pass 8 = .ok (.lastore, 1) := by decide +kernel
theorem dL_pass_9 : decode cL_pass 9 = .ok (.goto 9, 3) := by decide +kernel
theorem dL_pass_12 : decode cL_pass 12 = .ok (.astore_n 3, 1) := by decide +kernel
theorem dL_pass_13 : decode cL_pass 13 = .ok (.iconst 1, 1) := by decide +kernel
theorem dL_pass_14 : decode cL_pass 14 = .ok (.ireturn, 1) := by decide +kernel
theorem dL_pass_15 : decode cL_pass 15 = .ok (.astore_n 3, 1) := by decide +kernel
theorem dL_pass_16 : decode cL_pass 16 = .ok (.iconst 2, 1) := by decide +kernel
theorem dL_pass_17 : decode cL_pass 17 = .ok (.ireturn, 1) := by decide +kernel
theorem dL_pass_18 : decode cL_pass 18 = .ok (.iconst 0, 1) := by decide +kernel
theorem dL_pass_19 : decode cL_pass 19 = .ok (.ireturn, 1) := by decide +kernel
theorem dL_setParish_0 : decode cL_setParish 0 = .ok (.aload_n 3, 1) := by decide +kernel
theorem dL_setParish_1 : decode cL_setParish 1 = .ok (.iconst 0, 1) := by decide +kernel
theorem dL_setParish_2 : decode cL_setParish 2 = .ok (.aload_n 0, 1) := by decide +kernel
theorem dL_setParish_3 : decode cL_setParish 3 = .ok (.iload_n 1, 1) := by decide +kernel
theorem dL_setParish_4 : decode cL_setParish 4 = .ok (.iload_n 2, 1) := by decide +kernel
theorem dL_setParish_5 : decode cL_setParish 5 = .ok (.invokevirtual 23, 3) := by decide +kernel
theorem dL_setParish_8 : decode cL_setParish 8 = .ok (.i2l, 1) := by decide +kernel
theorem dL_setParish_9 : decode cL_setParish 9 = .ok (.lastore, 1) := by decide +kernel
theorem dL_setParish_10 : decode cL_setParish 10 = .ok (.goto 7, 3) := by decide +kernel
theorem dL_setParish_13 : decode cL_setParish 13 = .ok (.astore 4, 2) := by decide +kernel
theorem dL_setParish_15 : decode cL_setParish 15 = .ok (.iconst 1, 1) := by decide +kernel
theorem dL_setParish_16 : decode cL_setParish 16 = .ok (.ireturn, 1) := by decide +kernel
theorem dL_setParish_17 : decode cL_setParish 17 = .ok (.iconst 0, 1) := by decide +kernel
theorem dL_setParish_18 : decode cL_setParish 18 = .ok (.ireturn, 1) := by decide +kernel
theorem dL_bury_0 : decode cL_bury 0 = .ok (.aload 4, 2) := by decide +kernel
theorem dL_bury_2 : decode cL_bury 2 = .ok (.iconst 0, 1) := by decide +kernel
theorem dL_bury_3 : decode cL_bury 3 = .ok (.aload_n 0, 1) := by decide +kernel
theorem dL_bury_4 : decode cL_bury 4 = .ok (.iload_n 1, 1) := by decide +kernel
theorem dL_bury_5 : decode cL_bury 5 = .ok (.iload_n 2, 1) := by decide +kernel
theorem dL_bury_6 : decode cL_bury 6 = .ok (.iload_n 3, 1) := by decide +kernel
theorem dL_bury_7 : decode cL_bury 7 = .ok (.invokevirtual 27, 3) := by decide +kernel
theorem dL_bury_10 : decode cL_bury 10 = .ok (.i2l, 1) := by decide +kernel
theorem dL_bury_11 : decode cL_bury 11 = .ok (.lastore, 1) := by decide +kernel
theorem dL_bury_12 : decode cL_bury 12 = .ok (.goto 15, 3) := by decide +kernel
theorem dL_bury_15 : decode cL_bury 15 = .ok (.astore 5, 2) := by decide +kernel
theorem dL_bury_17 : decode cL_bury 17 = .ok (.iconst 1, 1) := by decide +kernel
theorem dL_bury_18 : decode cL_bury 18 = .ok (.ireturn, 1) := by decide +kernel
theorem dL_bury_19 : decode cL_bury 19 = .ok (.astore 5, 2) := by decide +kernel
theorem dL_bury_21 : decode cL_bury 21 = .ok (.iconst 2, 1) := by decide +kernel
theorem dL_bury_22 : decode cL_bury 22 = .ok (.ireturn, 1) := by decide +kernel
theorem dL_bury_23 : decode cL_bury 23 = .ok (.astore 5, 2) := by decide +kernel
theorem dL_bury_25 : decode cL_bury 25 = .ok (.iconst 3, 1) := by decide +kernel
theorem dL_bury_26 : decode cL_bury 26 = .ok (.ireturn, 1) := by decide +kernel
theorem dL_bury_27 : decode cL_bury 27 = .ok (.iconst 0, 1) := by decide +kernel
theorem dL_bury_28 : decode cL_bury 28 = .ok (.ireturn, 1) := by decide +kernel
theorem dL_reserve_0 : decode cL_reserve 0 = .ok (.aload 4, 2) := by decide +kernel
theorem dL_reserve_2 : decode cL_reserve 2 = .ok (.iconst 0, 1) := by decide +kernel
theorem dL_reserve_3 : decode cL_reserve 3 = .ok (.aload_n 0, 1) := by decide +kernel
theorem dL_reserve_4 : decode cL_reserve 4 = .ok (.iload_n 1, 1) := by decide +kernel
theorem dL_reserve_5 : decode cL_reserve 5 = .ok (.iload_n 2, 1) := by decide +kernel
theorem dL_reserve_6 : decode cL_reserve 6 = .ok (.iload_n 3, 1) := by decide +kernel
theorem dL_reserve_7 : decode cL_reserve 7 = .ok (.invokevirtual 31, 3) := by decide +kernel
theorem dL_reserve_10 : decode cL_reserve 10 = .ok (.i2l, 1) := by decide +kernel
theorem dL_reserve_11 : decode cL_reserve 11 = .ok (.lastore, 1) := by decide +kernel
theorem dL_reserve_12 : decode cL_reserve 12 = .ok (.goto 15, 3) := by decide +kernel
theorem dL_reserve_15 : decode cL_reserve 15 = .ok (.astore 5, 2) := by decide +kernel
theorem dL_reserve_17 : decode cL_reserve 17 = .ok (.iconst 1, 1) := by decide +kernel
theorem dL_reserve_18 : decode cL_reserve 18 = .ok (.ireturn, 1) := by decide +kernel
theorem dL_reserve_19 : decode cL_reserve 19 = .ok (.astore 5, 2) := by decide +kernel
theorem dL_reserve_21 : decode cL_reserve 21 = .ok (.iconst 2, 1) := by decide +kernel
theorem dL_reserve_22 : decode cL_reserve 22 = .ok (.ireturn, 1) := by decide +kernel
theorem dL_reserve_23 : decode cL_reserve 23 = .ok (.astore 5, 2) := by decide +kernel
theorem dL_reserve_25 : decode cL_reserve 25 = .ok (.iconst 3, 1) := by decide +kernel
theorem dL_reserve_26 : decode cL_reserve 26 = .ok (.ireturn, 1) := by decide +kernel
theorem dL_reserve_27 : decode cL_reserve 27 = .ok (.iconst 0, 1) := by decide +kernel
theorem dL_reserve_28 : decode cL_reserve 28 = .ok (.ireturn, 1) := by decide +kernel
theorem dL_buildVault_0 : decode cL_buildVault 0 = .ok (.aload_n 3, 1) := by decide +kernel
theorem dL_buildVault_1 : decode cL_buildVault 1 = .ok (.iconst 0, 1) := by decide +kernel
theorem dL_buildVault_2 : decode cL_buildVault 2 = .ok (.aload_n 0, 1) := by decide +kernel
theorem dL_buildVault_3 : decode cL_buildVault 3 = .ok (.iload_n 1, 1) := by decide +kernel
theorem dL_buildVault_4 : decode cL_buildVault 4 = .ok (.iload_n 2, 1) := by decide +kernel
theorem dL_buildVault_5 : decode cL_buildVault 5 = .ok (.invokevirtual 34, 3) := by decide +kernel
theorem dL_buildVault_8 : decode cL_buildVault 8 = .ok (.i2l, 1) := by decide +kernel
theorem dL_buildVault_9 : decode cL_buildVault 9 = .ok (.lastore, 1) := by decide +kernel
theorem dL_buildVault_10 : decode cL_buildVault 10 = .ok (.goto 11, 3) := by decide +kernel
theorem dL_buildVault_13 : decode cL_buildVault 13 = .ok (.astore 4, 2) := by decide +kernel
theorem dL_buildVault_15 : decode cL_buildVault 15 = .ok (.iconst 1, 1) := by decide +kernel
theorem dL_buildVault_16 : decode cL_buildVault 16 = .ok (.ireturn, 1) := by decide +kernel
theorem dL_buildVault_17 : decode cL_buildVault 17 = .ok (.astore 4, 2) := by decide +kernel
theorem dL_buildVault_19 : decode cL_buildVault 19 = .ok (.iconst 2, 1) := by decide +kernel
theorem dL_buildVault_20 : decode cL_buildVault 20 = .ok (.ireturn, 1) := by decide +kernel
theorem dL_buildVault_21 : decode cL_buildVault 21 = .ok (.iconst 0, 1) := by decide +kernel
theorem dL_buildVault_22 : decode cL_buildVault 22 = .ok (.ireturn, 1) := by decide +kernel
theorem dL_clear_0 : decode cL_clear 0 = .ok (.aload_n 2, 1) := by decide +kernel
theorem dL_clear_1 : decode cL_clear 1 = .ok (.iconst 0, 1) := by decide +kernel
theorem dL_clear_2 : decode cL_clear 2 = .ok (.aload_n 0, 1) := by decide +kernel
theorem dL_clear_3 : decode cL_clear 3 = .ok (.iload_n 1, 1) := by decide +kernel
theorem dL_clear_4 : decode cL_clear 4 = .ok (.invokevirtual 37, 3) := by decide +kernel
theorem dL_clear_7 : decode cL_clear 7 = .ok (.i2l, 1) := by decide +kernel
theorem dL_clear_8 : decode cL_clear 8 = .ok (.lastore, 1) := by decide +kernel
theorem dL_clear_9 : decode cL_clear 9 = .ok (.goto 9, 3) := by decide +kernel
theorem dL_clear_12 : decode cL_clear 12 = .ok (.astore_n 3, 1) := by decide +kernel
theorem dL_clear_13 : decode cL_clear 13 = .ok (.iconst 1, 1) := by decide +kernel
theorem dL_clear_14 : decode cL_clear 14 = .ok (.ireturn, 1) := by decide +kernel
theorem dL_clear_15 : decode cL_clear 15 = .ok (.astore_n 3, 1) := by decide +kernel
theorem dL_clear_16 : decode cL_clear 16 = .ok (.iconst 2, 1) := by decide +kernel
theorem dL_clear_17 : decode cL_clear 17 = .ok (.ireturn, 1) := by decide +kernel
theorem dL_clear_18 : decode cL_clear 18 = .ok (.iconst 0, 1) := by decide +kernel
theorem dL_clear_19 : decode cL_clear 19 = .ok (.ireturn, 1) := by decide +kernel
theorem dL_append_0 : decode cL_append 0 = .ok (.aload_n 2, 1) := by decide +kernel
theorem dL_append_1 : decode cL_append 1 = .ok (.iconst 0, 1) := by decide +kernel
theorem dL_append_2 : decode cL_append 2 = .ok (.aload_n 0, 1) := by decide +kernel
theorem dL_append_3 : decode cL_append 3 = .ok (.iload_n 1, 1) := by decide +kernel
theorem dL_append_4 : decode cL_append 4 = .ok (.invokevirtual 40, 3) := by decide +kernel
theorem dL_append_7 : decode cL_append 7 = .ok (.i2l, 1) := by decide +kernel
theorem dL_append_8 : decode cL_append 8 = .ok (.lastore, 1) := by decide +kernel
theorem dL_append_9 : decode cL_append 9 = .ok (.goto 9, 3) := by decide +kernel
theorem dL_append_12 : decode cL_append 12 = .ok (.astore_n 3, 1) := by decide +kernel
theorem dL_append_13 : decode cL_append 13 = .ok (.iconst 1, 1) := by decide +kernel
theorem dL_append_14 : decode cL_append 14 = .ok (.ireturn, 1) := by decide +kernel
theorem dL_append_15 : decode cL_append 15 = .ok (.astore_n 3, 1) := by decide +kernel
theorem dL_append_16 : decode cL_append 16 = .ok (.iconst 2, 1) := by decide +kernel
theorem dL_append_17 : decode cL_append 17 = .ok (.ireturn, 1) := by decide +kernel
theorem dL_append_18 : decode cL_append 18 = .ok (.iconst 0, 1) := by decide +kernel
theorem dL_append_19 : decode cL_append 19 = .ok (.ireturn, 1) := by decide +kernel
theorem dL_load_0 : decode cL_load 0 = .ok (.aload_n 1, 1) := by decide +kernel
theorem dL_load_1 : decode cL_load 1 = .ok (.iconst 0, 1) := by decide +kernel
theorem dL_load_2 : decode cL_load 2 = .ok (.aload_n 0, 1) := by decide +kernel
theorem dL_load_3 : decode cL_load 3 = .ok (.invokevirtual 43, 3) := by decide +kernel
theorem dL_load_6 : decode cL_load 6 = .ok (.i2l, 1) := by decide +kernel
theorem dL_load_7 : decode cL_load 7 = .ok (.lastore, 1) := by decide +kernel
theorem dL_load_8 : decode cL_load 8 = .ok (.goto 6, 3) := by decide +kernel
theorem dL_load_11 : decode cL_load 11 = .ok (.astore_n 2, 1) := by decide +kernel
theorem dL_load_12 : decode cL_load 12 = .ok (.iconst 1, 1) := by decide +kernel
theorem dL_load_13 : decode cL_load 13 = .ok (.ireturn, 1) := by decide +kernel
theorem dL_load_14 : decode cL_load 14 = .ok (.iconst 0, 1) := by decide +kernel
theorem dL_load_15 : decode cL_load 15 = .ok (.ireturn, 1) := by decide +kernel
theorem dL_undo_0 : decode cL_undo 0 = .ok (.aload_n 1, 1) := by decide +kernel
theorem dL_undo_1 : decode cL_undo 1 = .ok (.iconst 0, 1) := by decide +kernel
theorem dL_undo_2 : decode cL_undo 2 = .ok (.aload_n 0, 1) := by decide +kernel
theorem dL_undo_3 : decode cL_undo 3 = .ok (.invokevirtual 47, 3) := by decide +kernel
theorem dL_undo_6 : decode cL_undo 6 = .ok (.i2l, 1) := by decide +kernel
theorem dL_undo_7 : decode cL_undo 7 = .ok (.lastore, 1) := by decide +kernel
theorem dL_undo_8 : decode cL_undo 8 = .ok (.goto 6, 3) := by decide +kernel
theorem dL_undo_11 : decode cL_undo 11 = .ok (.astore_n 2, 1) := by decide +kernel
theorem dL_undo_12 : decode cL_undo 12 = .ok (.iconst 1, 1) := by decide +kernel
theorem dL_undo_13 : decode cL_undo 13 = .ok (.ireturn, 1) := by decide +kernel
theorem dL_undo_14 : decode cL_undo 14 = .ok (.iconst 0, 1) := by decide +kernel
theorem dL_undo_15 : decode cL_undo 15 = .ok (.ireturn, 1) := by decide +kernel
theorem dL_plot_0 : decode cL_plot 0 = .ok (.aload_n 3, 1) := by decide +kernel
theorem dL_plot_1 : decode cL_plot 1 = .ok (.iconst 0, 1) := by decide +kernel
theorem dL_plot_2 : decode cL_plot 2 = .ok (.aload_n 0, 1) := by decide +kernel
theorem dL_plot_3 : decode cL_plot 3 = .ok (.iload_n 1, 1) := by decide +kernel
theorem dL_plot_4 : decode cL_plot 4 = .ok (.iload_n 2, 1) := by decide +kernel
theorem dL_plot_5 : decode cL_plot 5 = .ok (.invokevirtual 50, 3) := by decide +kernel
theorem dL_plot_8 : decode cL_plot 8 = .ok (.i2l, 1) := by decide +kernel
theorem dL_plot_9 : decode cL_plot 9 = .ok (.lastore, 1) := by decide +kernel
theorem dL_plot_10 : decode cL_plot 10 = .ok (.goto 11, 3) := by decide +kernel
theorem dL_plot_13 : decode cL_plot 13 = .ok (.astore 4, 2) := by decide +kernel
theorem dL_plot_15 : decode cL_plot 15 = .ok (.iconst 1, 1) := by decide +kernel
theorem dL_plot_16 : decode cL_plot 16 = .ok (.ireturn, 1) := by decide +kernel
theorem dL_plot_17 : decode cL_plot 17 = .ok (.astore 4, 2) := by decide +kernel
theorem dL_plot_19 : decode cL_plot 19 = .ok (.iconst 2, 1) := by decide +kernel
theorem dL_plot_20 : decode cL_plot 20 = .ok (.ireturn, 1) := by decide +kernel
theorem dL_plot_21 : decode cL_plot 21 = .ok (.iconst 0, 1) := by decide +kernel
theorem dL_plot_22 : decode cL_plot 22 = .ok (.ireturn, 1) := by decide +kernel
theorem dL_burial_0 : decode cL_burial 0 = .ok (.aload 4, 2) := by decide +kernel
theorem dL_burial_2 : decode cL_burial 2 = .ok (.iconst 0, 1) := by decide +kernel
theorem dL_burial_3 : decode cL_burial 3 = .ok (.aload_n 0, 1) := by decide +kernel
theorem dL_burial_4 : decode cL_burial 4 = .ok (.iload_n 1, 1) := by decide +kernel
theorem dL_burial_5 : decode cL_burial 5 = .ok (.iload_n 2, 1) := by decide +kernel
theorem dL_burial_6 : decode cL_burial 6 = .ok (.iload_n 3, 1) := by decide +kernel
theorem dL_burial_7 : decode cL_burial 7 = .ok (.invokevirtual 53, 3) := by decide +kernel
theorem dL_burial_10 : decode cL_burial 10 = .ok (.i2l, 1) := by decide +kernel
theorem dL_burial_11 : decode cL_burial 11 = .ok (.lastore, 1) := by decide +kernel
theorem dL_burial_12 : decode cL_burial 12 = .ok (.goto 11, 3) := by decide +kernel
theorem dL_burial_15 : decode cL_burial 15 = .ok (.astore 5, 2) := by decide +kernel
theorem dL_burial_17 : decode cL_burial 17 = .ok (.iconst 1, 1) := by decide +kernel
theorem dL_burial_18 : decode cL_burial 18 = .ok (.ireturn, 1) := by decide +kernel
theorem dL_burial_19 : decode cL_burial 19 = .ok (.astore 5, 2) := by decide +kernel
theorem dL_burial_21 : decode cL_burial 21 = .ok (.iconst 2, 1) := by decide +kernel
theorem dL_burial_22 : decode cL_burial 22 = .ok (.ireturn, 1) := by decide +kernel
theorem dL_burial_23 : decode cL_burial 23 = .ok (.iconst 0, 1) := by decide +kernel
theorem dL_burial_24 : decode cL_burial 24 = .ok (.ireturn, 1) := by decide +kernel
theorem dL_family_0 : decode cL_family 0 = .ok (.aload_n 3, 1) := by decide +kernel
theorem dL_family_1 : decode cL_family 1 = .ok (.iconst 0, 1) := by decide +kernel
theorem dL_family_2 : decode cL_family 2 = .ok (.aload_n 0, 1) := by decide +kernel
theorem dL_family_3 : decode cL_family 3 = .ok (.iload_n 1, 1) := by decide +kernel
theorem dL_family_4 : decode cL_family 4 = .ok (.iload_n 2, 1) := by decide +kernel
theorem dL_family_5 : decode cL_family 5 = .ok (.invokevirtual 56, 3) := by decide +kernel
theorem dL_family_8 : decode cL_family 8 = .ok (.i2l, 1) := by decide +kernel
theorem dL_family_9 : decode cL_family 9 = .ok (.lastore, 1) := by decide +kernel
theorem dL_family_10 : decode cL_family 10 = .ok (.goto 11, 3) := by decide +kernel
theorem dL_family_13 : decode cL_family 13 = .ok (.astore 4, 2) := by decide +kernel
theorem dL_family_15 : decode cL_family 15 = .ok (.iconst 1, 1) := by decide +kernel
theorem dL_family_16 : decode cL_family 16 = .ok (.ireturn, 1) := by decide +kernel
theorem dL_family_17 : decode cL_family 17 = .ok (.astore 4, 2) := by decide +kernel
theorem dL_family_19 : decode cL_family 19 = .ok (.iconst 2, 1) := by decide +kernel
theorem dL_family_20 : decode cL_family 20 = .ok (.ireturn, 1) := by decide +kernel
theorem dL_family_21 : decode cL_family 21 = .ok (.iconst 0, 1) := by decide +kernel
theorem dL_family_22 : decode cL_family 22 = .ok (.ireturn, 1) := by decide +kernel
theorem dL_count_0 : decode cL_count 0 = .ok (.aload_n 2, 1) := by decide +kernel
theorem dL_count_1 : decode cL_count 1 = .ok (.iconst 0, 1) := by decide +kernel
theorem dL_count_2 : decode cL_count 2 = .ok (.aload_n 0, 1) := by decide +kernel
theorem dL_count_3 : decode cL_count 3 = .ok (.iload_n 1, 1) := by decide +kernel
theorem dL_count_4 : decode cL_count 4 = .ok (.invokevirtual 59, 3) := by decide +kernel
theorem dL_count_7 : decode cL_count 7 = .ok (.i2l, 1) := by decide +kernel
theorem dL_count_8 : decode cL_count 8 = .ok (.lastore, 1) := by decide +kernel
theorem dL_count_9 : decode cL_count 9 = .ok (.goto 6, 3) := by decide +kernel
theorem dL_count_12 : decode cL_count 12 = .ok (.astore_n 3, 1) := by decide +kernel
theorem dL_count_13 : decode cL_count 13 = .ok (.iconst 1, 1) := by decide +kernel
theorem dL_count_14 : decode cL_count 14 = .ok (.ireturn, 1) := by decide +kernel
theorem dL_count_15 : decode cL_count 15 = .ok (.iconst 0, 1) := by decide +kernel
theorem dL_count_16 : decode cL_count 16 = .ok (.ireturn, 1) := by decide +kernel
theorem dL_why_0 : decode cL_why 0 = .ok (.aload 4, 2) := by decide +kernel
theorem dL_why_2 : decode cL_why 2 = .ok (.iconst 0, 1) := by decide +kernel
theorem dL_why_3 : decode cL_why 3 = .ok (.aload_n 0, 1) := by decide +kernel
theorem dL_why_4 : decode cL_why 4 = .ok (.iload_n 1, 1) := by decide +kernel
theorem dL_why_5 : decode cL_why 5 = .ok (.iload_n 2, 1) := by decide +kernel
theorem dL_why_6 : decode cL_why 6 = .ok (.iload_n 3, 1) := by decide +kernel
theorem dL_why_7 : decode cL_why 7 = .ok (.invokevirtual 62, 3) := by decide +kernel
theorem dL_why_10 : decode cL_why 10 = .ok (.i2l, 1) := by decide +kernel
theorem dL_why_11 : decode cL_why 11 = .ok (.lastore, 1) := by decide +kernel
theorem dL_why_12 : decode cL_why 12 = .ok (.goto 11, 3) := by decide +kernel
theorem dL_why_15 : decode cL_why 15 = .ok (.astore 5, 2) := by decide +kernel
theorem dL_why_17 : decode cL_why 17 = .ok (.iconst 1, 1) := by decide +kernel
theorem dL_why_18 : decode cL_why 18 = .ok (.ireturn, 1) := by decide +kernel
theorem dL_why_19 : decode cL_why 19 = .ok (.astore 5, 2) := by decide +kernel
theorem dL_why_21 : decode cL_why 21 = .ok (.iconst 2, 1) := by decide +kernel
theorem dL_why_22 : decode cL_why 22 = .ok (.ireturn, 1) := by decide +kernel
theorem dL_why_23 : decode cL_why 23 = .ok (.iconst 0, 1) := by decide +kernel
theorem dL_why_24 : decode cL_why 24 = .ok (.ireturn, 1) := by decide +kernel
theorem dL_fee_0 : decode cL_fee 0 = .ok (.aload 4, 2) := by decide +kernel
theorem dL_fee_2 : decode cL_fee 2 = .ok (.iconst 0, 1) := by decide +kernel
theorem dL_fee_3 : decode cL_fee 3 = .ok (.aload_n 0, 1) := by decide +kernel
theorem dL_fee_4 : decode cL_fee 4 = .ok (.iload_n 1, 1) := by decide +kernel
theorem dL_fee_5 : decode cL_fee 5 = .ok (.iload_n 2, 1) := by decide +kernel
theorem dL_fee_6 : decode cL_fee 6 = .ok (.iload_n 3, 1) := by decide +kernel
theorem dL_fee_7 : decode cL_fee 7 = .ok (.invokevirtual 65, 3) := by decide +kernel
theorem dL_fee_10 : decode cL_fee 10 = .ok (.i2l, 1) := by decide +kernel
theorem dL_fee_11 : decode cL_fee 11 = .ok (.lastore, 1) := by decide +kernel
theorem dL_fee_12 : decode cL_fee 12 = .ok (.goto 11, 3) := by decide +kernel
theorem dL_fee_15 : decode cL_fee 15 = .ok (.astore 5, 2) := by decide +kernel
theorem dL_fee_17 : decode cL_fee 17 = .ok (.iconst 1, 1) := by decide +kernel
theorem dL_fee_18 : decode cL_fee 18 = .ok (.ireturn, 1) := by decide +kernel
theorem dL_fee_19 : decode cL_fee 19 = .ok (.astore 5, 2) := by decide +kernel
theorem dL_fee_21 : decode cL_fee 21 = .ok (.iconst 2, 1) := by decide +kernel
theorem dL_fee_22 : decode cL_fee 22 = .ok (.ireturn, 1) := by decide +kernel
theorem dL_fee_23 : decode cL_fee 23 = .ok (.iconst 0, 1) := by decide +kernel
theorem dL_fee_24 : decode cL_fee 24 = .ok (.ireturn, 1) := by decide +kernel
theorem dL_deepest_0 : decode cL_deepest 0 = .ok (.aload_n 3, 1) := by decide +kernel
theorem dL_deepest_1 : decode cL_deepest 1 = .ok (.iconst 0, 1) := by decide +kernel
theorem dL_deepest_2 : decode cL_deepest 2 = .ok (.aload_n 0, 1) := by decide +kernel
theorem dL_deepest_3 : decode cL_deepest 3 = .ok (.iload_n 1, 1) := by decide +kernel
theorem dL_deepest_4 : decode cL_deepest 4 = .ok (.iload_n 2, 1) := by decide +kernel

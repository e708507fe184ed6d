theorem dX2_bitsOf_41 : decode cX2_bitsOf 41 = .ok (.dstore 4, 2) := by decide +kernel
theorem dX2_bitsOf_43 : decode cX2_bitsOf 43 = .ok (.lload_n 2, 1) := by decide +kernel
theorem dX2_bitsOf_44 : decode cX2_bitsOf 44 = .ok (.lconst 1, 1) := by decide +kernel
theorem dX2_bitsOf_45 : decode cX2_bitsOf 45 = .ok (.ladd, 1) := by decide +kernel
theorem dX2_bitsOf_46 : decode cX2_bitsOf 46 = .ok (.lstore_n 2, 1) := by decide +kernel
theorem dX2_bitsOf_47 : decode cX2_bitsOf 47 = .ok (.iinc 6 1, 3) := by decide +kernel
theorem dX2_bitsOf_50 : decode cX2_bitsOf 50 = .ok (.goto (-32), 3) := by decide +kernel
theorem dX2_bitsOf_53 : decode cX2_bitsOf 53 = .ok (.lload_n 2, 1) := by decide +kernel
theorem dX2_bitsOf_54 : decode cX2_bitsOf 54 = .ok (.bipush 52, 2) := by decide +kernel
theorem dX2_bitsOf_56 : decode cX2_bitsOf 56 = .ok (.lshl, 1) := by decide +kernel
theorem dX2_bitsOf_57 : decode cX2_bitsOf 57 = .ok (.dload 4, 2) := by decide +kernel
theorem dX2_bitsOf_59 : decode cX2_bitsOf 59 = .ok (.dconst 1, 1) := by decide +kernel
theorem dX2_bitsOf_60 : decode cX2_bitsOf 60 = .ok (.dsub, 1) := by decide +kernel
theorem dX2_bitsOf_61 : decode cX2_bitsOf 61 = .ok (.ldc2_w 208, 3) := by decide +kernel
theorem dX2_bitsOf_64 : decode cX2_bitsOf 64 = .ok (.dmul, 1) := by decide +kernel
theorem dX2_bitsOf_65 : decode cX2_bitsOf 65 = .ok (.d2l, 1) := by decide +kernel
theorem dX2_bitsOf_66 : decode cX2_bitsOf 66 = .ok (.lor, 1) := by decide +kernel
theorem dX2_bitsOf_67 : decode cX2_bitsOf 67 = .ok (.lreturn, 1) := by decide +kernel
theorem dX2_number_0 : decode cX2_number 0 = .ok (.iload_n 1, 1) := by decide +kernel
theorem dX2_number_1 : decode cX2_number 1 = .ok (.bipush 8, 2) := by decide +kernel
theorem dX2_number_3 : decode cX2_number 3 = .ok (.if_icmp .ne 10, 3) := by decide +kernel
theorem dX2_number_6 : decode cX2_number 6 = .ok (.aload_n 0, 1) := by decide +kernel
theorem dX2_number_7 : decode cX2_number 7 = .ok (.getfield 20, 3) := by decide +kernel
theorem dX2_number_10 : decode cX2_number 10 = .ok (.goto 11, 3) := by decide +kernel
theorem dX2_number_13 : decode cX2_number 13 = .ok (.aload_n 0, 1) := by decide +kernel
theorem dX2_number_14 : decode cX2_number 14 = .ok (.getfield 10, 3) := by decide +kernel
theorem dX2_number_17 : decode cX2_number 17 = .ok (.iload_n 1, 1) := by decide +kernel
theorem dX2_number_18 : decode cX2_number 18 = .ok (.invokevirtual 210, 3) := by decide +kernel
theorem dX2_number_21 : decode cX2_number 21 = .ok (.ireturn, 1) := by decide +kernel
theorem dX2_needPlot_0 : decode cX2_needPlot 0 = .ok (.iload_n 0, 1) := by decide +kernel
theorem dX2_needPlot_1 : decode cX2_needPlot 1 = .ok (.ifCond .lt 9, 3) := by decide +kernel
theorem dX2_needPlot_4 : decode cX2_needPlot 4 = .ok (.iload_n 0, 1) := by decide +kernel
theorem dX2_needPlot_5 : decode cX2_needPlot 5 = .ok (.bipush 40, 2) := by decide +kernel
theorem dX2_needPlot_7 : decode cX2_needPlot 7 = .ok (.if_icmp .lt 13, 3) := by decide +kernel
theorem dX2_needPlot_10 : decode cX2_needPlot 10 = .ok (.new 42, 3) := by decide +kernel
theorem dX2_needPlot_13 : decode cX2_needPlot 13 = .ok (.dup, 1) := by decide +kernel
theorem dX2_needPlot_14 : decode cX2_needPlot 14 = .ok (.ldc 213, 2) := by decide +kernel
theorem dX2_needPlot_16 : decode cX2_needPlot 16 = .ok (.invokespecial 46, 3) := by decide +kernel
theorem dX2_needPlot_19 : decode cX2_needPlot 19 = .ok (.athrow, 1) := by decide +kernel
theorem dX2_needPlot_20 : decode cX2_needPlot 20 = .ok (.return_, 1) := by decide +kernel
theorem dX2_needFamily_0 : decode cX2_needFamily 0 = .ok (.iload_n 0, 1) := by decide +kernel
theorem dX2_needFamily_1 : decode cX2_needFamily 1 = .ok (.ifCond .lt 9, 3) := by decide +kernel
theorem dX2_needFamily_4 : decode cX2_needFamily 4 = .ok (.iload_n 0, 1) := by decide +kernel
theorem dX2_needFamily_5 : decode cX2_needFamily 5 = .ok (.bipush 10, 2) := by decide +kernel
theorem dX2_needFamily_7 : decode cX2_needFamily 7 = .ok (.if_icmp .lt 13, 3) := by decide +kernel
theorem dX2_needFamily_10 : decode cX2_needFamily 10 = .ok (.new 42, 3) := by decide +kernel
theorem dX2_needFamily_13 : decode cX2_needFamily 13 = .ok (.dup, 1) := by decide +kernel
theorem dX2_needFamily_14 : decode cX2_needFamily 14 = .ok (.ldc 215, 2) := by decide +kernel
theorem dX2_needFamily_16 : decode cX2_needFamily 16 = .ok (.invokespecial 46, 3) := by decide +kernel
theorem dX2_needFamily_19 : decode cX2_needFamily 19 = .ok (.athrow, 1) := by decide +kernel
theorem dX2_needFamily_20 : decode cX2_needFamily 20 = .ok (.return_, 1) := by decide +kernel
theorem dX2_isDepth_0 : decode cX2_isDepth 0 = .ok (.iload_n 0, 1) := by decide +kernel
theorem dX2_isDepth_1 : decode cX2_isDepth 1 = .ok (.iconst 1, 1) := by decide +kernel
theorem dX2_isDepth_2 : decode cX2_isDepth 2 = .ok (.if_icmp .lt 12, 3) := by decide +kernel
theorem dX2_isDepth_5 : decode cX2_isDepth 5 = .ok (.iload_n 0, 1) := by decide +kernel
theorem dX2_isDepth_6 : decode cX2_isDepth 6 = .ok (.iconst 3, 1) := by decide +kernel
theorem dX2_isDepth_7 : decode cX2_isDepth 7 = .ok (.if_icmp .gt 7, 3) := by decide +kernel
theorem dX2_isDepth_10 : decode cX2_isDepth 10 = .ok (.iconst 1, 1) := by decide +kernel
theorem dX2_isDepth_11 : decode cX2_isDepth 11 = .ok (.goto 4, 3) := by decide +kernel
theorem dX2_isDepth_14 : decode cX2_isDepth 14 = .ok (.iconst 0, 1) := by decide +kernel
theorem dX2_isDepth_15 : decode cX2_isDepth 15 = .ok (.ireturn, 1) := by decide +kernel
theorem dX2_needDepth_0 : decode cX2_needDepth 0 = .ok (.iload_n 0, 1) := by decide +kernel
theorem dX2_needDepth_1 : decode cX2_needDepth 1 = .ok (.invokestatic 155, 3) := by decide +kernel
theorem dX2_needDepth_4 : decode cX2_needDepth 4 = .ok (.ifCond .ne 13, 3) := by decide +kernel
theorem dX2_needDepth_7 : decode cX2_needDepth 7 = .ok (.new 49, 3) := by decide +kernel
theorem dX2_needDepth_10 : decode cX2_needDepth 10 = .ok (.dup, 1) := by decide +kernel
theorem dX2_needDepth_11 : decode cX2_needDepth 11 = .ok (.ldc 217, 2) := by decide +kernel
theorem dX2_needDepth_13 : decode cX2_needDepth 13 = .ok (.invokespecial 53, 3) := by decide +kernel
theorem dX2_needDepth_16 : decode cX2_needDepth 16 = .ok (.athrow, 1) := by decide +kernel
theorem dX2_needDepth_17 : decode cX2_needDepth 17 = .ok (.return_, 1) := by decide +kernel
theorem dX2_needProperty_0 : decode cX2_needProperty 0 = .ok (.iload_n 0, 1) := by decide +kernel
theorem dX2_needProperty_1 : decode cX2_needProperty 1 = .ok (.ifCond .lt 8, 3) := by decide +kernel
theorem dX2_needProperty_4 : decode cX2_needProperty 4 = .ok (.iload_n 0, 1) := by decide +kernel
theorem dX2_needProperty_5 : decode cX2_needProperty 5 = .ok (.iload_n 1, 1) := by decide +kernel
theorem dX2_needProperty_6 : decode cX2_needProperty 6 = .ok (.if_icmp .le 13, 3) := by decide +kernel
theorem dX2_needProperty_9 : decode cX2_needProperty 9 = .ok (.new 49, 3) := by decide +kernel
theorem dX2_needProperty_12 : decode cX2_needProperty 12 = .ok (.dup, 1) := by decide +kernel
theorem dX2_needProperty_13 : decode cX2_needProperty 13 = .ok (.ldc 219, 2) := by decide +kernel
theorem dX2_needProperty_15 : decode cX2_needProperty 15 = .ok (.invokespecial 53, 3) := by decide +kernel
theorem dX2_needProperty_18 : decode cX2_needProperty 18 = .ok (.athrow, 1) := by decide +kernel
theorem dX2_needProperty_19 : decode cX2_needProperty 19 = .ok (.return_, 1) := by decide +kernel
theorem dX2_save_0 : decode cX2_save 0 = .ok (.aload_n 0, 1) := by decide +kernel
theorem dX2_save_1 : decode cX2_save 1 = .ok (.getfield 20, 3) := by decide +kernel
theorem dX2_save_4 : decode cX2_save 4 = .ok (.bipush 6, 2) := by decide +kernel
theorem dX2_save_6 : decode cX2_save 6 = .ok (.if_icmp .lt 7, 3) := by decide +kernel
theorem dX2_save_9 : decode cX2_save 9 = .ok (.aload_n 0, 1) := by decide +kernel
theorem dX2_save_10 : decode cX2_save 10 = .ok (.invokevirtual 221, 3) := by decide +kernel
theorem dX2_save_13 : decode cX2_save 13 = .ok (.aload_n 0, 1) := by decide +kernel
theorem dX2_save_14 : decode cX2_save 14 = .ok (.getfield 16, 3) := by decide +kernel
theorem dX2_save_17 : decode cX2_save 17 = .ok (.aload_n 0, 1) := by decide +kernel
theorem dX2_save_18 : decode cX2_save 18 = .ok (.getfield 20, 3) := by decide +kernel
theorem dX2_save_21 : decode cX2_save 21 = .ok (.aaload, 1) := by decide +kernel
theorem dX2_save_22 : decode cX2_save 22 = .ok (.aload_n 0, 1) := by decide +kernel
theorem dX2_save_23 : decode cX2_save 23 = .ok (.getfield 10, 3) := by decide +kernel
theorem dX2_save_26 : decode cX2_save 26 = .ok (.invokevirtual 144, 3) := by decide +kernel
theorem dX2_save_29 : decode cX2_save 29 = .ok (.aload_n 0, 1) := by decide +kernel
theorem dX2_save_30 : decode cX2_save 30 = .ok (.dup, 1) := by decide +kernel
theorem dX2_save_31 : decode cX2_save 31 = .ok (.getfield 20, 3) := by decide +kernel
theorem dX2_save_34 : decode cX2_save 34 = .ok (.iconst 1, 1) := by decide +kernel
theorem dX2_save_35 : decode cX2_save 35 = .ok (.iadd, 1) := by decide +kernel
theorem dX2_save_36 : decode cX2_save 36 = .ok (.putfield 20, 3) := by decide +kernel
theorem dX2_save_39 : decode cX2_save 39 = .ok (.return_, 1) := by decide +kernel
theorem dX2_dropOldest_0 : decode cX2_dropOldest 0 = .ok (.aload_n 0, 1) := by decide +kernel
theorem dX2_dropOldest_1 : decode cX2_dropOldest 1 = .ok (.getfield 16, 3) := by decide +kernel
theorem dX2_dropOldest_4 : decode cX2_dropOldest 4 = .ok (.iconst 0, 1) := by decide +kernel
theorem dX2_dropOldest_5 : decode cX2_dropOldest 5 = .ok (.aaload, 1) := by decide +kernel
theorem dX2_dropOldest_6 : decode cX2_dropOldest 6 = .ok (.astore_n 1, 1) := by decide +kernel
theorem dX2_dropOldest_7 : decode cX2_dropOldest 7 = .ok (.iconst 1, 1) := by decide +kernel
theorem dX2_dropOldest_8 : decode cX2_dropOldest 8 = .ok (.istore_n 2, 1) := by decide +kernel
theorem dX2_dropOldest_9 : decode cX2_dropOldest 9 = .ok (.iload_n 2, 1) := by decide +kernel
theorem dX2_dropOldest_10 : decode cX2_dropOldest 10 = .ok (.bipush 6, 2) := by decide +kernel
theorem dX2_dropOldest_12 : decode cX2_dropOldest 12 = .ok (.if_icmp .ge 23, 3) := by decide +kernel
theorem dX2_dropOldest_15 : decode cX2_dropOldest 15 = .ok (.aload_n 0, 1) := by decide +kernel
theorem dX2_dropOldest_16 : decode cX2_dropOldest 16 = .ok (.getfield 16, 3) := by decide +kernel
theorem dX2_dropOldest_19 : decode cX2_dropOldest 19 = .ok (.iload_n 2, 1) := by decide +kernel
theorem dX2_dropOldest_20 : decode cX2_dropOldest 20 = .ok (.iconst 1, 1) := by decide +kernel
theorem dX2_dropOldest_21 : decode cX2_dropOldest 21 = .ok (.isub, 1) := by decide +kernel
theorem dX2_dropOldest_22 : decode cX2_dropOldest 22 = .ok (.aload_n 0, 1) := by decide +kernel
theorem dX2_dropOldest_23 : decode cX2_dropOldest 23 = .ok (.getfield 16, 3) := by decide +kernel
theorem dX2_dropOldest_26 : decode cX2_dropOldest 26 = .ok (.iload_n 2, 1) := by decide +kernel
theorem dX2_dropOldest_27 : decode cX2_dropOldest 27 = .ok (.aaload, 1) := by decide +kernel
theorem dX2_dropOldest_28 : decode cX2_dropOldest 28 = .ok (.aastore, 1) := by decide +kernel
theorem dX2_dropOldest_29 : decode cX2_dropOldest 29 = .ok (.iinc 2 1, 3) := by decide +kernel
theorem dX2_dropOldest_32 : decode cX2_dropOldest 32 = .ok (.goto (-23), 3) := by decide +kernel
theorem dX2_dropOldest_35 : decode cX2_dropOldest 35 = .ok (.aload_n 0, 1) := by decide +kernel
theorem dX2_dropOldest_36 : decode cX2_dropOldest 36 = .ok (.getfield 16, 3) := by decide +kernel
theorem dX2_dropOldest_39 : decode cX2_dropOldest 39 = .ok (.iconst 5, 1) := by decide +kernel
theorem dX2_dropOldest_40 : decode cX2_dropOldest 40 = .ok (.aload_n 1, 1) := by decide +kernel
theorem dX2_dropOldest_41 : decode cX2_dropOldest 41 = .ok (.aastore, 1) := by decide +kernel
theorem dX2_dropOldest_42 : decode cX2_dropOldest 42 = .ok (.aload_n 0, 1) := by decide +kernel
theorem dX2_dropOldest_43 : decode cX2_dropOldest 43 = .ok (.iconst 5, 1) := by decide +kernel
theorem dX2_dropOldest_44 : decode cX2_dropOldest 44 = .ok (.putfield 20, 3) := by decide +kernel
theorem dX2_dropOldest_47 : decode cX2_dropOldest 47 = .ok (.return_, 1) := by decide +kernel
theorem dX2_errorIndex_0 : decode cX2_errorIndex 0 = .ok (.aload_n 0, 1) := by decide +kernel
theorem dX2_errorIndex_1 : decode cX2_errorIndex 1 = .ok (.getfield 34, 3) := by decide +kernel
theorem dX2_errorIndex_4 : decode cX2_errorIndex 4 = .ok (.invokevirtual 224, 3) := by decide +kernel
theorem dX2_errorIndex_7 : decode cX2_errorIndex 7 = .ok (.iconst 0, 1) := by decide +kernel
theorem dX2_errorIndex_8 : decode cX2_errorIndex 8 = .ok (.istore_n 1, 1) := by decide +kernel
theorem dX2_errorIndex_9 : decode cX2_errorIndex 9 = .ok (.iload_n 1, 1) := by decide +kernel
theorem dX2_errorIndex_10 : decode cX2_errorIndex 10 = .ok (.aload_n 0, 1) := by decide +kernel
theorem dX2_errorIndex_11 : decode cX2_errorIndex 11 = .ok (.getfield 28, 3) := by decide +kernel
theorem dX2_errorIndex_14 : decode cX2_errorIndex 14 = .ok (.if_icmp .ge 33, 3) := by decide +kernel
theorem dX2_errorIndex_17 : decode cX2_errorIndex 17 = .ok (.iload_n 1, 1) := by decide +kernel
theorem dX2_errorIndex_18 : decode cX2_errorIndex 18 = .ok (.bipush 60, 2) := by decide +kernel
theorem dX2_errorIndex_20 : decode cX2_errorIndex 20 = .ok (.if_icmp .ge 27, 3) := by decide +kernel
theorem dX2_errorIndex_23 : decode cX2_errorIndex 23 = .ok (.aload_n 0, 1) := by decide +kernel
theorem dX2_errorIndex_24 : decode cX2_errorIndex 24 = .ok (.getfield 34, 3) := by decide +kernel
theorem dX2_errorIndex_27 : decode cX2_errorIndex 27 = .ok (.aload_n 0, 1) := by decide +kernel
theorem dX2_errorIndex_28 : decode cX2_errorIndex 28 = .ok (.getfield 24, 3) := by decide +kernel
theorem dX2_errorIndex_31 : decode cX2_errorIndex 31 = .ok (.iload_n 1, 1) := by decide +kernel
theorem dX2_errorIndex_32 : decode cX2_errorIndex 32 = .ok (.iaload, 1) := by decide +kernel
theorem dX2_errorIndex_33 : decode cX2_errorIndex 33 = .ok (.invokevirtual 227, 3) := by decide +kernel
theorem dX2_errorIndex_36 : decode cX2_errorIndex 36 = .ok (.ifCond .ne 5, 3) := by decide +kernel
theorem dX2_errorIndex_39 : decode cX2_errorIndex 39 = .ok (.iload_n 1, 1) := by decide +kernel
theorem dX2_errorIndex_40 : decode cX2_errorIndex 40 = .ok (.ireturn, 1) := by decide +kernel
theorem dX2_errorIndex_41 : decode cX2_errorIndex 41 = .ok (.iinc 1 1, 3) := by decide +kernel
theorem dX2_errorIndex_44 : decode cX2_errorIndex 44 = .ok (.goto (-35), 3) := by decide +kernel
theorem dX2_errorIndex_47 : decode cX2_errorIndex 47 = .ok (.aload_n 0, 1) := by decide +kernel
theorem dX2_errorIndex_48 : decode cX2_errorIndex 48 = .ok (.getfield 28, 3) := by decide +kernel
theorem dX2_errorIndex_51 : decode cX2_errorIndex 51 = .ok (.ireturn, 1) := by decide +kernel
theorem dX2_carryOutEntries_0 : decode cX2_carryOutEntries 0 = .ok (.iconst 0, 1) := by decide +kernel
theorem dX2_carryOutEntries_1 : decode cX2_carryOutEntries 1 = .ok (.istore_n 1, 1) := by decide +kernel
theorem dX2_carryOutEntries_2 : decode cX2_carryOutEntries 2 = .ok (.aload_n 0, 1) := by decide +kernel
theorem dX2_carryOutEntries_3 : decode cX2_carryOutEntries 3 = .ok (.getfield 34, 3) := by decide +kernel
theorem dX2_carryOutEntries_6 : decode cX2_carryOutEntries 6 = .ok (.invokevirtual 224, 3) := by decide +kernel
theorem dX2_carryOutEntries_9 : decode cX2_carryOutEntries 9 = .ok (.iconst 0, 1) := by decide +kernel
theorem dX2_carryOutEntries_10 : decode cX2_carryOutEntries 10 = .ok (.istore_n 2, 1) := by decide +kernel
theorem dX2_carryOutEntries_11 : decode cX2_carryOutEntries 11 = .ok (.iload_n 2, 1) := by decide +kernel
theorem dX2_carryOutEntries_12 : decode cX2_carryOutEntries 12 = .ok (.aload_n 0, 1) := by decide +kernel
theorem dX2_carryOutEntries_13 : decode cX2_carryOutEntries 13 = .ok (.getfield 28, 3) := by decide +kernel
theorem dX2_carryOutEntries_16 : decode cX2_carryOutEntries 16 = .ok (.if_icmp .ge 64, 3) := by decide +kernel
theorem dX2_carryOutEntries_19 : decode cX2_carryOutEntries 19 = .ok (.iload_n 2, 1) := by decide +kernel
theorem dX2_carryOutEntries_20 : decode cX2_carryOutEntries 20 = .ok (.bipush 60, 2) := by decide +kernel
theorem dX2_carryOutEntries_22 : decode cX2_carryOutEntries 22 = .ok (.if_icmp .ge 58, 3) := by decide +kernel
theorem dX2_carryOutEntries_25 : decode cX2_carryOutEntries 25 = .ok (.aload_n 0, 1) := by decide +kernel
theorem dX2_carryOutEntries_26 : decode cX2_carryOutEntries 26 = .ok (.getfield 34, 3) := by decide +kernel
theorem dX2_carryOutEntries_29 : decode cX2_carryOutEntries 29 = .ok (.aload_n 0, 1) := by decide +kernel
theorem dX2_carryOutEntries_30 : decode cX2_carryOutEntries 30 = .ok (.getfield 24, 3) := by decide +kernel
theorem dX2_carryOutEntries_33 : decode cX2_carryOutEntries 33 = .ok (.iload_n 2, 1) := by decide +kernel
theorem dX2_carryOutEntries_34 : decode cX2_carryOutEntries 34 = .ok (.iaload, 1) := by decide +kernel
theorem dX2_carryOutEntries_35 : decode cX2_carryOutEntries 35 = .ok (.invokevirtual 227, 3) := by decide +kernel
theorem dX2_carryOutEntries_38 : decode cX2_carryOutEntries 38 = .ok (.pop, 1) := by decide +kernel
theorem dX2_carryOutEntries_39 : decode cX2_carryOutEntries 39 = .ok (.iload_n 2, 1) := by decide +kernel
theorem dX2_carryOutEntries_40 : decode cX2_carryOutEntries 40 = .ok (.iconst 1, 1) := by decide +kernel
theorem dX2_carryOutEntries_41 : decode cX2_carryOutEntries 41 = .ok (.iadd, 1) := by decide +kernel
theorem dX2_carryOutEntries_42 : decode cX2_carryOutEntries 42 = .ok (.aload_n 0, 1) := by decide +kernel
theorem dX2_carryOutEntries_43 : decode cX2_carryOutEntries 43 = .ok (.getfield 28, 3) := by decide +kernel
theorem dX2_carryOutEntries_46 : decode cX2_carryOutEntries 46 = .ok (.if_icmp .eq 16, 3) := by decide +kernel
theorem dX2_carryOutEntries_49 : decode cX2_carryOutEntries 49 = .ok (.aload_n 0, 1) := by decide +kernel
theorem dX2_carryOutEntries_50 : decode cX2_carryOutEntries 50 = .ok (.getfield 24, 3) := by decide +kernel
theorem dX2_carryOutEntries_53 : decode cX2_carryOutEntries 53 = .ok (.iload_n 2, 1) := by decide +kernel
theorem dX2_carryOutEntries_54 : decode cX2_carryOutEntries 54 = .ok (.iconst 1, 1) := by decide +kernel
theorem dX2_carryOutEntries_55 : decode cX2_carryOutEntries 55 = .ok (.iadd, 1) := by decide +kernel
theorem dX2_carryOutEntries_56 : decode cX2_carryOutEntries 56 = .ok (.iaload, 1) := by decide +kernel
theorem dX2_carryOutEntries_57 : decode cX2_carryOutEntries 57 = .ok (.bipush 59, 2) := by decide +kernel
theorem dX2_carryOutEntries_59 : decode cX2_carryOutEntries 59 = .ok (.if_icmp .ne 15, 3) := by decide +kernel
theorem dX2_carryOutEntries_62 : decode cX2_carryOutEntries 62 = .ok (.aload_n 0, 1) := by decide +kernel
theorem dX2_carryOutEntries_63 : decode cX2_carryOutEntries 63 = .ok (.invokevirtual 230, 3) := by decide +kernel
theorem dX2_carryOutEntries_66 : decode cX2_carryOutEntries 66 = .ok (.ifCond .ne 5, 3) := by decide +kernel
theorem dX2_carryOutEntries_69 : decode cX2_carryOutEntries 69 = .ok (.iload_n 1, 1) := by decide +kernel
theorem dX2_carryOutEntries_70 : decode cX2_carryOutEntries 70 = .ok (.ireturn, 1) := by decide +kernel
theorem dX2_carryOutEntries_71 : decode cX2_carryOutEntries 71 = .ok (.iinc 1 1, 3) := by decide +kernel
theorem dX2_carryOutEntries_74 : decode cX2_carryOutEntries 74 = .ok (.iinc 2 1, 3) := by decide +kernel
theorem dX2_carryOutEntries_77 : decode cX2_carryOutEntries 77 = .ok (.goto (-66), 3) := by decide +kernel
theorem dX2_carryOutEntries_80 : decode cX2_carryOutEntries 80 = .ok (.iload_n 1, 1) := by decide +kernel
theorem dX2_carryOutEntries_81 : decode cX2_carryOutEntries 81 = .ok (.ireturn, 1) := by decide +kernel
theorem dX2_carryOutEntry_0 : decode cX2_carryOutEntry 0 = .ok (.aload_n 0, 1) := by decide +kernel
theorem dX2_carryOutEntry_1 : decode cX2_carryOutEntry 1 = .ok (.getfield 34, 3) := by decide +kernel
theorem dX2_carryOutEntry_4 : decode cX2_carryOutEntry 4 = .ok (.getfield 233, 3) := by decide +kernel
theorem dX2_carryOutEntry_7 : decode cX2_carryOutEntry 7 = .ok (.ifCond .eq 60, 3) := by decide +kernel
theorem dX2_carryOutEntry_10 : decode cX2_carryOutEntry 10 = .ok (.aload_n 0, 1) := by decide +kernel
theorem dX2_carryOutEntry_11 : decode cX2_carryOutEntry 11 = .ok (.getfield 10, 3) := by decide +kernel
theorem dX2_carryOutEntry_14 : decode cX2_carryOutEntry 14 = .ok (.aload_n 0, 1) := by decide +kernel
theorem dX2_carryOutEntry_15 : decode cX2_carryOutEntry 15 = .ok (.getfield 34, 3) := by decide +kernel
theorem dX2_carryOutEntry_18 : decode cX2_carryOutEntry 18 = .ok (.getfield 237, 3) := by decide +kernel
theorem dX2_carryOutEntry_21 : decode cX2_carryOutEntry 21 = .ok (.aload_n 0, 1) := by decide +kernel
theorem dX2_carryOutEntry_22 : decode cX2_carryOutEntry 22 = .ok (.getfield 34, 3) := by decide +kernel
theorem dX2_carryOutEntry_25 : decode cX2_carryOutEntry 25 = .ok (.getfield 240, 3) := by decide +kernel
theorem dX2_carryOutEntry_28 : decode cX2_carryOutEntry 28 = .ok (.invokevirtual 100, 3) := by decide +kernel
theorem dX2_carryOutEntry_31 : decode cX2_carryOutEntry 31 = .ok (.ifCond .ne 5, 3) := by decide +kernel
theorem dX2_carryOutEntry_34 : decode cX2_carryOutEntry 34 = .ok (.iconst 0, 1) := by decide +kernel
theorem dX2_carryOutEntry_35 : decode cX2_carryOutEntry 35 = .ok (.ireturn, 1) := by decide +kernel
theorem dX2_carryOutEntry_36 : decode cX2_carryOutEntry 36 = .ok (.aload_n 0, 1) := by decide +kernel
theorem dX2_carryOutEntry_37 : decode cX2_carryOutEntry 37 = .ok (.getfield 10, 3) := by decide +kernel
theorem dX2_carryOutEntry_40 : decode cX2_carryOutEntry 40 = .ok (.aload_n 0, 1) := by decide +kernel
theorem dX2_carryOutEntry_41 : decode cX2_carryOutEntry 41 = .ok (.getfield 34, 3) := by decide +kernel
theorem dX2_carryOutEntry_44 : decode cX2_carryOutEntry 44 = .ok (.getfield 237, 3) := by decide +kernel
theorem dX2_carryOutEntry_47 : decode cX2_carryOutEntry 47 = .ok (.aload_n 0, 1) := by decide +kernel
theorem dX2_carryOutEntry_48 : decode cX2_carryOutEntry 48 = .ok (.getfield 34, 3) := by decide +kernel
theorem dX2_carryOutEntry_51 : decode cX2_carryOutEntry 51 = .ok (.getfield 240, 3) := by decide +kernel
theorem dX2_carryOutEntry_54 : decode cX2_carryOutEntry 54 = .ok (.aload_n 0, 1) := by decide +kernel
theorem dX2_carryOutEntry_55 : decode cX2_carryOutEntry 55 = .ok (.getfield 34, 3) := by decide +kernel
theorem dX2_carryOutEntry_58 : decode cX2_carryOutEntry 58 = .ok (.getfield 243, 3) := by decide +kernel
theorem dX2_carryOutEntry_61 : decode cX2_carryOutEntry 61 = .ok (.invokevirtual 106, 3) := by decide +kernel
theorem dX2_carryOutEntry_64 : decode cX2_carryOutEntry 64 = .ok (.pop, 1) := by decide +kernel
theorem dX2_carryOutEntry_65 : decode cX2_carryOutEntry 65 = .ok (.iconst 1, 1) := by decide +kernel
theorem dX2_carryOutEntry_66 : decode cX2_carryOutEntry 66 = .ok (.ireturn, 1) := by decide +kernel
theorem dX2_carryOutEntry_67 : decode cX2_carryOutEntry 67 = .ok (.aload_n 0, 1) := by decide +kernel
theorem dX2_carryOutEntry_68 : decode cX2_carryOutEntry 68 = .ok (.getfield 10, 3) := by decide +kernel
theorem dX2_carryOutEntry_71 : decode cX2_carryOutEntry 71 = .ok (.aload_n 0, 1) := by decide +kernel
theorem dX2_carryOutEntry_72 : decode cX2_carryOutEntry 72 = .ok (.getfield 34, 3) := by decide +kernel
theorem dX2_carryOutEntry_75 : decode cX2_carryOutEntry 75 = .ok (.getfield 237, 3) := by decide +kernel
theorem dX2_carryOutEntry_78 : decode cX2_carryOutEntry 78 = .ok (.aload_n 0, 1) := by decide +kernel
theorem dX2_carryOutEntry_79 : decode cX2_carryOutEntry 79 = .ok (.getfield 34, 3) := by decide +kernel
theorem dX2_carryOutEntry_82 : decode cX2_carryOutEntry 82 = .ok (.getfield 240, 3) := by decide +kernel
theorem dX2_carryOutEntry_85 : decode cX2_carryOutEntry 85 = .ok (.aload_n 0, 1) := by decide +kernel
theorem dX2_carryOutEntry_86 : decode cX2_carryOutEntry 86 = .ok (.getfield 34, 3) := by decide +kernel
theorem dX2_carryOutEntry_89 : decode cX2_carryOutEntry 89 = .ok (.getfield 243, 3) := by decide +kernel
theorem dX2_carryOutEntry_92 : decode cX2_carryOutEntry 92 = .ok (.aload_n 0, 1) := by decide +kernel
theorem dX2_carryOutEntry_93 : decode cX2_carryOutEntry 93 = .ok (.getfield 10, 3) := by decide +kernel
theorem dX2_carryOutEntry_96 : decode cX2_carryOutEntry 96 = .ok (.getfield 72, 3) := by decide +kernel
theorem dX2_carryOutEntry_99 : decode cX2_carryOutEntry 99 = .ok (.invokevirtual 90, 3) := by decide +kernel
theorem dX2_carryOutEntry_102 : decode cX2_carryOutEntry 102 = .ok (.ifCond .eq 5, 3) := by decide +kernel
theorem dX2_carryOutEntry_105 : decode cX2_carryOutEntry 105 = .ok (.iconst 0, 1) := by decide +kernel
theorem dX2_carryOutEntry_106 : decode cX2_carryOutEntry 106 = .ok (.ireturn, 1) := by decide +kernel
theorem dX2_carryOutEntry_107 : decode cX2_carryOutEntry 107 = .ok (.aload_n 0, 1) := by decide +kernel
theorem dX2_carryOutEntry_108 : decode cX2_carryOutEntry 108 = .ok (.getfield 10, 3) := by decide +kernel
theorem dX2_carryOutEntry_111 : decode cX2_carryOutEntry 111 = .ok (.aload_n 0, 1) := by decide +kernel
theorem dX2_carryOutEntry_112 : decode cX2_carryOutEntry 112 = .ok (.getfield 34, 3) := by decide +kernel
theorem dX2_carryOutEntry_115 : decode cX2_carryOutEntry 115 = .ok (.getfield 237, 3) := by decide +kernel
theorem dX2_carryOutEntry_118 : decode cX2_carryOutEntry 118 = .ok (.aload_n 0, 1) := by decide +kernel
theorem dX2_carryOutEntry_119 : decode cX2_carryOutEntry 119 = .ok (.getfield 34, 3) := by decide +kernel
theorem dX2_carryOutEntry_122 : decode cX2_carryOutEntry 122 = .ok (.getfield 240, 3) := by decide +kernel
theorem dX2_carryOutEntry_125 : decode cX2_carryOutEntry 125 = .ok (.aload_n 0, 1) := by decide +kernel
theorem dX2_carryOutEntry_126 : decode cX2_carryOutEntry 126 = .ok (.getfield 34, 3) := by decide +kernel
theorem dX2_carryOutEntry_129 : decode cX2_carryOutEntry 129 = .ok (.getfield 243, 3) := by decide +kernel
theorem dX2_carryOutEntry_132 : decode cX2_carryOutEntry 132 = .ok (.invokevirtual 96, 3) := by decide +kernel
theorem dX2_carryOutEntry_135 : decode cX2_carryOutEntry 135 = .ok (.pop, 1) := by decide +kernel
theorem dX2_carryOutEntry_136 : decode cX2_carryOutEntry 136 = .ok (.iconst 1, 1) := by decide +kernel
theorem dX2_carryOutEntry_137 : decode cX2_carryOutEntry 137 = .ok (.ireturn, 1) := by decide +kernel

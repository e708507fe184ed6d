theorem dX2_deepest_43 : decode cX2_deepest 43 = .ok (.iconst (-1), 1) := by decide +kernel
theorem dX2_deepest_44 : decode cX2_deepest 44 = .ok (.ireturn, 1) := by decide +kernel
theorem dX2_bestPlot_0 : decode cX2_bestPlot 0 = .ok (.iload_n 1, 1) := by decide +kernel
theorem dX2_bestPlot_1 : decode cX2_bestPlot 1 = .ok (.invokestatic 81, 3) := by decide +kernel
theorem dX2_bestPlot_4 : decode cX2_bestPlot 4 = .ok (.aload_n 0, 1) := by decide +kernel
theorem dX2_bestPlot_5 : decode cX2_bestPlot 5 = .ok (.getfield 10, 3) := by decide +kernel
theorem dX2_bestPlot_8 : decode cX2_bestPlot 8 = .ok (.iload_n 1, 1) := by decide +kernel
theorem dX2_bestPlot_9 : decode cX2_bestPlot 9 = .ok (.invokevirtual 172, 3) := by decide +kernel
theorem dX2_bestPlot_12 : decode cX2_bestPlot 12 = .ok (.ireturn, 1) := by decide +kernel
theorem dX2_yearFor_0 : decode cX2_yearFor 0 = .ok (.iload_n 1, 1) := by decide +kernel
theorem dX2_yearFor_1 : decode cX2_yearFor 1 = .ok (.invokestatic 81, 3) := by decide +kernel
theorem dX2_yearFor_4 : decode cX2_yearFor 4 = .ok (.iload_n 2, 1) := by decide +kernel
theorem dX2_yearFor_5 : decode cX2_yearFor 5 = .ok (.invokestatic 38, 3) := by decide +kernel
theorem dX2_yearFor_8 : decode cX2_yearFor 8 = .ok (.iload_n 3, 1) := by decide +kernel
theorem dX2_yearFor_9 : decode cX2_yearFor 9 = .ok (.invokestatic 87, 3) := by decide +kernel
theorem dX2_yearFor_12 : decode cX2_yearFor 12 = .ok (.iconst 0, 1) := by decide +kernel
theorem dX2_yearFor_13 : decode cX2_yearFor 13 = .ok (.istore 4, 2) := by decide +kernel
theorem dX2_yearFor_15 : decode cX2_yearFor 15 = .ok (.iload 4, 2) := by decide +kernel
theorem dX2_yearFor_17 : decode cX2_yearFor 17 = .ok (.bipush 100, 2) := by decide +kernel
theorem dX2_yearFor_19 : decode cX2_yearFor 19 = .ok (.if_icmp .gt 43, 3) := by decide +kernel
theorem dX2_yearFor_22 : decode cX2_yearFor 22 = .ok (.aload_n 0, 1) := by decide +kernel
theorem dX2_yearFor_23 : decode cX2_yearFor 23 = .ok (.getfield 10, 3) := by decide +kernel
theorem dX2_yearFor_26 : decode cX2_yearFor 26 = .ok (.iload_n 1, 1) := by decide +kernel
theorem dX2_yearFor_27 : decode cX2_yearFor 27 = .ok (.iload_n 2, 1) := by decide +kernel
theorem dX2_yearFor_28 : decode cX2_yearFor 28 = .ok (.iload_n 3, 1) := by decide +kernel
theorem dX2_yearFor_29 : decode cX2_yearFor 29 = .ok (.aload_n 0, 1) := by decide +kernel
theorem dX2_yearFor_30 : decode cX2_yearFor 30 = .ok (.getfield 10, 3) := by decide +kernel
theorem dX2_yearFor_33 : decode cX2_yearFor 33 = .ok (.getfield 72, 3) := by decide +kernel
theorem dX2_yearFor_36 : decode cX2_yearFor 36 = .ok (.iload 4, 2) := by decide +kernel
theorem dX2_yearFor_38 : decode cX2_yearFor 38 = .ok (.iadd, 1) := by decide +kernel
theorem dX2_yearFor_39 : decode cX2_yearFor 39 = .ok (.invokevirtual 90, 3) := by decide +kernel
theorem dX2_yearFor_42 : decode cX2_yearFor 42 = .ok (.ifCond .ne 14, 3) := by decide +kernel
theorem dX2_yearFor_45 : decode cX2_yearFor 45 = .ok (.aload_n 0, 1) := by decide +kernel
theorem dX2_yearFor_46 : decode cX2_yearFor 46 = .ok (.getfield 10, 3) := by decide +kernel
theorem dX2_yearFor_49 : decode cX2_yearFor 49 = .ok (.getfield 72, 3) := by decide +kernel
theorem dX2_yearFor_52 : decode cX2_yearFor 52 = .ok (.iload 4, 2) := by decide +kernel
theorem dX2_yearFor_54 : decode cX2_yearFor 54 = .ok (.iadd, 1) := by decide +kernel
theorem dX2_yearFor_55 : decode cX2_yearFor 55 = .ok (.ireturn, 1) := by decide +kernel
theorem dX2_yearFor_56 : decode cX2_yearFor 56 = .ok (.iinc 4 1, 3) := by decide +kernel
theorem dX2_yearFor_59 : decode cX2_yearFor 59 = .ok (.goto (-44), 3) := by decide +kernel
theorem dX2_yearFor_62 : decode cX2_yearFor 62 = .ok (.iconst (-1), 1) := by decide +kernel
theorem dX2_yearFor_63 : decode cX2_yearFor 63 = .ok (.ireturn, 1) := by decide +kernel
theorem dX2_clearYear_0 : decode cX2_clearYear 0 = .ok (.iload_n 1, 1) := by decide +kernel
theorem dX2_clearYear_1 : decode cX2_clearYear 1 = .ok (.invokestatic 38, 3) := by decide +kernel
theorem dX2_clearYear_4 : decode cX2_clearYear 4 = .ok (.aload_n 0, 1) := by decide +kernel
theorem dX2_clearYear_5 : decode cX2_clearYear 5 = .ok (.getfield 10, 3) := by decide +kernel
theorem dX2_clearYear_8 : decode cX2_clearYear 8 = .ok (.iload_n 1, 1) := by decide +kernel
theorem dX2_clearYear_9 : decode cX2_clearYear 9 = .ok (.invokevirtual 175, 3) := by decide +kernel
theorem dX2_clearYear_12 : decode cX2_clearYear 12 = .ok (.ireturn, 1) := by decide +kernel
theorem dX2_cutsOff_0 : decode cX2_cutsOff 0 = .ok (.iload_n 1, 1) := by decide +kernel
theorem dX2_cutsOff_1 : decode cX2_cutsOff 1 = .ok (.invokestatic 38, 3) := by decide +kernel
theorem dX2_cutsOff_4 : decode cX2_cutsOff 4 = .ok (.aload_n 0, 1) := by decide +kernel
theorem dX2_cutsOff_5 : decode cX2_cutsOff 5 = .ok (.getfield 10, 3) := by decide +kernel
theorem dX2_cutsOff_8 : decode cX2_cutsOff 8 = .ok (.iload_n 1, 1) := by decide +kernel
theorem dX2_cutsOff_9 : decode cX2_cutsOff 9 = .ok (.invokevirtual 178, 3) := by decide +kernel
theorem dX2_cutsOff_12 : decode cX2_cutsOff 12 = .ok (.ireturn, 1) := by decide +kernel
theorem dX2_meanFee_0 : decode cX2_meanFee 0 = .ok (.aload_n 0, 1) := by decide +kernel
theorem dX2_meanFee_1 : decode cX2_meanFee 1 = .ok (.getfield 10, 3) := by decide +kernel
theorem dX2_meanFee_4 : decode cX2_meanFee 4 = .ok (.invokevirtual 181, 3) := by decide +kernel
theorem dX2_meanFee_7 : decode cX2_meanFee 7 = .ok (.dreturn, 1) := by decide +kernel
theorem dX2_number_0 : decode cX2_number 0 = .ok (.iload_n 1, 1) := by decide +kernel
theorem dX2_number_1 : decode cX2_number 1 = .ok (.bipush 8, 2) := by decide +kernel
theorem dX2_number_3 : decode cX2_number 3 = .ok (.if_icmp .ne 10, 3) := by decide +kernel
theorem dX2_number_6 : decode cX2_number 6 = .ok (.aload_n 0, 1) := by decide +kernel
theorem dX2_number_7 : decode cX2_number 7 = .ok (.getfield 20, 3) := by decide +kernel
theorem dX2_number_10 : decode cX2_number 10 = .ok (.goto 11, 3) := by decide +kernel
theorem dX2_number_13 : decode cX2_number 13 = .ok (.aload_n 0, 1) := by decide +kernel
theorem dX2_number_14 : decode cX2_number 14 = .ok (.getfield 10, 3) := by decide +kernel
theorem dX2_number_17 : decode cX2_number 17 = .ok (.iload_n 1, 1) := by decide +kernel
theorem dX2_number_18 : decode cX2_number 18 = .ok (.invokevirtual 210, 3) := by decide +kernel
theorem dX2_number_21 : decode cX2_number 21 = .ok (.ireturn, 1) := by decide +kernel
theorem dX2_needPlot_0 : decode cX2_needPlot 0 = .ok (.iload_n 0, 1) := by decide +kernel
theorem dX2_needPlot_1 : decode cX2_needPlot 1 = .ok (.ifCond .lt 9, 3) := by decide +kernel
theorem dX2_needPlot_4 : decode cX2_needPlot 4 = .ok (.iload_n 0, 1) := by decide +kernel
theorem dX2_needPlot_5 : decode cX2_needPlot 5 = .ok (.bipush 40, 2) := by decide +kernel
theorem dX2_needPlot_7 : decode cX2_needPlot 7 = .ok (.if_icmp .lt 13, 3) := by decide +kernel
theorem dX2_needPlot_10 : decode cX2_needPlot 10 = .ok (.new 42, 3) := by decide +kernel
theorem dX2_needPlot_13 : decode cX2_needPlot 13 = .ok (.dup, 1) := by decide +kernel
theorem dX2_needPlot_14 : decode cX2_needPlot 14 = .ok (.ldc 213, 2) := by decide +kernel
theorem dX2_needPlot_16 : decode cX2_needPlot 16 = .ok (.invokespecial 46, 3) := by decide +kernel
theorem dX2_needPlot_19 : decode cX2_needPlot 19 = .ok (.athrow, 1) := by decide +kernel
theorem dX2_needPlot_20 : decode cX2_needPlot 20 = .ok (.return_, 1) := by decide +kernel
theorem dX2_needFamily_0 : decode cX2_needFamily 0 = .ok (.iload_n 0, 1) := by decide +kernel
theorem dX2_needFamily_1 : decode cX2_needFamily 1 = .ok (.ifCond .lt 9, 3) := by decide +kernel
theorem dX2_needFamily_4 : decode cX2_needFamily 4 = .ok (.iload_n 0, 1) := by decide +kernel
theorem dX2_needFamily_5 : decode cX2_needFamily 5 = .ok (.bipush 10, 2) := by decide +kernel
theorem dX2_needFamily_7 : decode cX2_needFamily 7 = .ok (.if_icmp .lt 13, 3) := by decide +kernel
theorem dX2_needFamily_10 : decode cX2_needFamily 10 = .ok (.new 42, 3) := by decide +kernel
theorem dX2_needFamily_13 : decode cX2_needFamily 13 = .ok (.dup, 1) := by decide +kernel
theorem dX2_needFamily_14 : decode cX2_needFamily 14 = .ok (.ldc 215, 2) := by decide +kernel
theorem dX2_needFamily_16 : decode cX2_needFamily 16 = .ok (.invokespecial 46, 3) := by decide +kernel
theorem dX2_needFamily_19 : decode cX2_needFamily 19 = .ok (.athrow, 1) := by decide +kernel
theorem dX2_needFamily_20 : decode cX2_needFamily 20 = .ok (.return_, 1) := by decide +kernel
theorem dX2_isDepth_0 : decode cX2_isDepth 0 = .ok (.iload_n 0, 1) := by decide +kernel
theorem dX2_isDepth_1 : decode cX2_isDepth 1 = .ok (.iconst 1, 1) := by decide +kernel
theorem dX2_isDepth_2 : decode cX2_isDepth 2 = .ok (.if_icmp .lt 12, 3) := by decide +kernel
theorem dX2_isDepth_5 : decode cX2_isDepth 5 = .ok (.iload_n 0, 1) := by decide +kernel
theorem dX2_isDepth_6 : decode cX2_isDepth 6 = .ok (.iconst 3, 1) := by decide +kernel
theorem dX2_isDepth_7 : decode cX2_isDepth 7 = .ok (.if_icmp .gt 7, 3) := by decide +kernel
theorem dX2_isDepth_10 : decode cX2_isDepth 10 = .ok (.iconst 1, 1) := by decide +kernel
theorem dX2_isDepth_11 : decode cX2_isDepth 11 = .ok (.goto 4, 3) := by decide +kernel
theorem dX2_isDepth_14 : decode cX2_isDepth 14 = .ok (.iconst 0, 1) := by decide +kernel
theorem dX2_isDepth_15 : decode cX2_isDepth 15 = .ok (.ireturn, 1) := by decide +kernel
theorem dX2_needDepth_0 : decode cX2_needDepth 0 = .ok (.iload_n 0, 1) := by decide +kernel
theorem dX2_needDepth_1 : decode cX2_needDepth 1 = .ok (.invokestatic 155, 3) := by decide +kernel
theorem dX2_needDepth_4 : decode cX2_needDepth 4 = .ok (.ifCond .ne 13, 3) := by decide +kernel
theorem dX2_needDepth_7 : decode cX2_needDepth 7 = .ok (.new 49, 3) := by decide +kernel
theorem dX2_needDepth_10 : decode cX2_needDepth 10 = .ok (.dup, 1) := by decide +kernel
theorem dX2_needDepth_11 : decode cX2_needDepth 11 = .ok (.ldc 217, 2) := by decide +kernel
theorem dX2_needDepth_13 : decode cX2_needDepth 13 = .ok (.invokespecial 53, 3) := by decide +kernel
theorem dX2_needDepth_16 : decode cX2_needDepth 16 = .ok (.athrow, 1) := by decide +kernel
theorem dX2_needDepth_17 : decode cX2_needDepth 17 = .ok (.return_, 1) := by decide +kernel
theorem dX2_needProperty_0 : decode cX2_needProperty 0 = .ok (.iload_n 0, 1) := by decide +kernel
theorem dX2_needProperty_1 : decode cX2_needProperty 1 = .ok (.ifCond .lt 8, 3) := by decide +kernel
theorem dX2_needProperty_4 : decode cX2_needProperty 4 = .ok (.iload_n 0, 1) := by decide +kernel
theorem dX2_needProperty_5 : decode cX2_needProperty 5 = .ok (.iload_n 1, 1) := by decide +kernel
theorem dX2_needProperty_6 : decode cX2_needProperty 6 = .ok (.if_icmp .le 13, 3) := by decide +kernel
theorem dX2_needProperty_9 : decode cX2_needProperty 9 = .ok (.new 49, 3) := by decide +kernel
theorem dX2_needProperty_12 : decode cX2_needProperty 12 = .ok (.dup, 1) := by decide +kernel
theorem dX2_needProperty_13 : decode cX2_needProperty 13 = .ok (.ldc 219, 2) := by decide +kernel
theorem dX2_needProperty_15 : decode cX2_needProperty 15 = .ok (.invokespecial 53, 3) := by decide +kernel
theorem dX2_needProperty_18 : decode cX2_needProperty 18 = .ok (.athrow, 1) := by decide +kernel
theorem dX2_needProperty_19 : decode cX2_needProperty 19 = .ok (.return_, 1) := by decide +kernel
theorem dX2_save_0 : decode cX2_save 0 = .ok (.aload_n 0, 1) := by decide +kernel
theorem dX2_save_1 : decode cX2_save 1 = .ok (.getfield 20, 3) := by decide +kernel
theorem dX2_save_4 : decode cX2_save 4 = .ok (.bipush 6, 2) := by decide +kernel
theorem dX2_save_6 : decode cX2_save 6 = .ok (.if_icmp .lt 7, 3) := by decide +kernel
theorem dX2_save_9 : decode cX2_save 9 = .ok (.aload_n 0, 1) := by decide +kernel
theorem dX2_save_10 : decode cX2_save 10 = .ok (.invokevirtual 221, 3) := by decide +kernel
theorem dX2_save_13 : decode cX2_save 13 = .ok (.aload_n 0, 1) := by decide +kernel
theorem dX2_save_14 : decode cX2_save 14 = .ok (.getfield 16, 3) := by decide +kernel
theorem dX2_save_17 : decode cX2_save 17 = .ok (.aload_n 0, 1) := by decide +kernel
theorem dX2_save_18 : decode cX2_save 18 = .ok (.getfield 20, 3) := by decide +kernel
theorem dX2_save_21 : decode cX2_save 21 = .ok (.aaload, 1) := by decide +kernel
theorem dX2_save_22 : decode cX2_save 22 = .ok (.aload_n 0, 1) := by decide +kernel
theorem dX2_save_23 : decode cX2_save 23 = .ok (.getfield 10, 3) := by decide +kernel
theorem dX2_save_26 : decode cX2_save 26 = .ok (.invokevirtual 144, 3) := by decide +kernel
theorem dX2_save_29 : decode cX2_save 29 = .ok (.aload_n 0, 1) := by decide +kernel
theorem dX2_save_30 : decode cX2_save 30 = .ok (.dup, 1) := by decide +kernel
theorem dX2_save_31 : decode cX2_save 31 = .ok (.getfield 20, 3) := by decide +kernel
theorem dX2_save_34 : decode cX2_save 34 = .ok (.iconst 1, 1) := by decide +kernel
theorem dX2_save_35 : decode cX2_save 35 = .ok (.iadd, 1) := by decide +kernel
theorem dX2_save_36 : decode cX2_save 36 = .ok (.putfield 20, 3) := by decide +kernel
theorem dX2_save_39 : decode cX2_save 39 = .ok (.return_, 1) := by decide +kernel
theorem dX2_dropOldest_0 : decode cX2_dropOldest 0 = .ok (.aload_n 0, 1) := by decide +kernel
theorem dX2_dropOldest_1 : decode cX2_dropOldest 1 = .ok (.getfield 16, 3) := by decide +kernel
theorem dX2_dropOldest_4 : decode cX2_dropOldest 4 = .ok (.iconst 0, 1) := by decide +kernel
theorem dX2_dropOldest_5 : decode cX2_dropOldest 5 = .ok (.aaload, 1) := by decide +kernel
theorem dX2_dropOldest_6 : decode cX2_dropOldest 6 = .ok (.astore_n 1, 1) := by decide +kernel
theorem dX2_dropOldest_7 : decode cX2_dropOldest 7 = .ok (.iconst 1, 1) := by decide +kernel
theorem dX2_dropOldest_8 : decode cX2_dropOldest 8 = .ok (.istore_n 2, 1) := by decide +kernel
theorem dX2_dropOldest_9 : decode cX2_dropOldest 9 = .ok (.iload_n 2, 1) := by decide +kernel
theorem dX2_dropOldest_10 : decode cX2_dropOldest 10 = .ok (.bipush 6, 2) := by decide +kernel
theorem dX2_dropOldest_12 : decode cX2_dropOldest 12 = .ok (.if_icmp .ge 23, 3) := by decide +kernel
theorem dX2_dropOldest_15 : decode cX2_dropOldest 15 = .ok (.aload_n 0, 1) := by decide +kernel
theorem dX2_dropOldest_16 : decode cX2_dropOldest 16 = .ok (.getfield 16, 3) := by decide +kernel
theorem dX2_dropOldest_19 : decode cX2_dropOldest 19 = .ok (.iload_n 2, 1) := by decide +kernel
theorem dX2_dropOldest_20 : decode cX2_dropOldest 20 = .ok (.iconst 1, 1) := by decide +kernel
theorem dX2_dropOldest_21 : decode cX2_dropOldest 21 = .ok (.isub, 1) := by decide +kernel
theorem dX2_dropOldest_22 : decode cX2_dropOldest 22 = .ok (.aload_n 0, 1) := by decide +kernel
theorem dX2_dropOldest_23 : decode cX2_dropOldest 23 = .ok (.getfield 16, 3) := by decide +kernel
theorem dX2_dropOldest_26 : decode cX2_dropOldest 26 = .ok (.iload_n 2, 1) := by decide +kernel
theorem dX2_dropOldest_27 : decode cX2_dropOldest 27 = .ok (.aaload, 1) := by decide +kernel
theorem dX2_dropOldest_28 : decode cX2_dropOldest 28 = .ok (.aastore, 1) := by decide +kernel
theorem dX2_dropOldest_29 : decode cX2_dropOldest 29 = .ok (.iinc 2 1, 3) := by decide +kernel
theorem dX2_dropOldest_32 : decode cX2_dropOldest 32 = .ok (.goto (-23), 3) := by decide +kernel
theorem dX2_dropOldest_35 : decode cX2_dropOldest 35 = .ok (.aload_n 0, 1) := by decide +kernel
theorem dX2_dropOldest_36 : decode cX2_dropOldest 36 = .ok (.getfield 16, 3) := by decide +kernel
theorem dX2_dropOldest_39 : decode cX2_dropOldest 39 = .ok (.iconst 5, 1) := by decide +kernel
theorem dX2_dropOldest_40 : decode cX2_dropOldest 40 = .ok (.aload_n 1, 1) := by decide +kernel
theorem dX2_dropOldest_41 : decode cX2_dropOldest 41 = .ok (.aastore, 1) := by decide +kernel
theorem dX2_dropOldest_42 : decode cX2_dropOldest 42 = .ok (.aload_n 0, 1) := by decide +kernel
theorem dX2_dropOldest_43 : decode cX2_dropOldest 43 = .ok (.iconst 5, 1) := by decide +kernel
theorem dX2_dropOldest_44 : decode cX2_dropOldest 44 = .ok (.putfield 20, 3) := by decide +kernel
theorem dX2_dropOldest_47 : decode cX2_dropOldest 47 = .ok (.return_, 1) := by decide +kernel

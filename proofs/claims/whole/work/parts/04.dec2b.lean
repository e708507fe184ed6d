theorem dX2_plot_10 : decode cX2_plot 10 = .ok (.aload_n 0, 1) := by decide +kernel
theorem dX2_plot_11 : decode cX2_plot 11 = .ok (.getfield 10, 3) := by decide +kernel
theorem dX2_plot_14 : decode cX2_plot 14 = .ok (.iload_n 1, 1) := by decide +kernel
theorem dX2_plot_15 : decode cX2_plot 15 = .ok (.iload_n 2, 1) := by decide +kernel
theorem dX2_plot_16 : decode cX2_plot 16 = .ok (.invokevirtual 152, 3) := by decide +kernel
theorem dX2_plot_19 : decode cX2_plot 19 = .ok (.ireturn, 1) := by decide +kernel
theorem dX2_burial_0 : decode cX2_burial 0 = .ok (.iload_n 1, 1) := by decide +kernel
theorem dX2_burial_1 : decode cX2_burial 1 = .ok (.invokestatic 38, 3) := by decide +kernel
theorem dX2_burial_4 : decode cX2_burial 4 = .ok (.iload_n 2, 1) := by decide +kernel
theorem dX2_burial_5 : decode cX2_burial 5 = .ok (.invokestatic 155, 3) := by decide +kernel
theorem dX2_burial_8 : decode cX2_burial 8 = .ok (.ifCond .ne 13, 3) := by decide +kernel
theorem dX2_burial_11 : decode cX2_burial 11 = .ok (.new 42, 3) := by decide +kernel
theorem dX2_burial_14 : decode cX2_burial 14 = .ok (.dup, 1) := by decide +kernel
theorem dX2_burial_15 : decode cX2_burial 15 = .ok (.ldc 158, 2) := by decide +kernel
theorem dX2_burial_17 : decode cX2_burial 17 = .ok (.invokespecial 46, 3) := by decide +kernel
theorem dX2_burial_20 : decode cX2_burial 20 = .ok (.athrow, 1) := by decide +kernel
theorem dX2_burial_21 : decode cX2_burial 21 = .ok (.iload_n 3, 1) := by decide +kernel
theorem dX2_burial_22 : decode cX2_burial 22 = .ok (.iconst 3, 1) := by decide +kernel
theorem dX2_burial_23 : decode cX2_burial 23 = .ok (.invokestatic 148, 3) := by decide +kernel
theorem dX2_burial_26 : decode cX2_burial 26 = .ok (.aload_n 0, 1) := by decide +kernel
theorem dX2_burial_27 : decode cX2_burial 27 = .ok (.getfield 10, 3) := by decide +kernel
theorem dX2_burial_30 : decode cX2_burial 30 = .ok (.iload_n 1, 1) := by decide +kernel
theorem dX2_burial_31 : decode cX2_burial 31 = .ok (.iload_n 2, 1) := by decide +kernel
theorem dX2_burial_32 : decode cX2_burial 32 = .ok (.iload_n 3, 1) := by decide +kernel
theorem dX2_burial_33 : decode cX2_burial 33 = .ok (.invokevirtual 160, 3) := by decide +kernel
theorem dX2_burial_36 : decode cX2_burial 36 = .ok (.ireturn, 1) := by decide +kernel
theorem dX2_family_0 : decode cX2_family 0 = .ok (.iload_n 1, 1) := by decide +kernel
theorem dX2_family_1 : decode cX2_family 1 = .ok (.invokestatic 81, 3) := by decide +kernel
theorem dX2_family_4 : decode cX2_family 4 = .ok (.iload_n 2, 1) := by decide +kernel
theorem dX2_family_5 : decode cX2_family 5 = .ok (.iconst 5, 1) := by decide +kernel
theorem dX2_family_6 : decode cX2_family 6 = .ok (.invokestatic 148, 3) := by decide +kernel
theorem dX2_family_9 : decode cX2_family 9 = .ok (.aload_n 0, 1) := by decide +kernel
theorem dX2_family_10 : decode cX2_family 10 = .ok (.getfield 10, 3) := by decide +kernel
theorem dX2_family_13 : decode cX2_family 13 = .ok (.iload_n 1, 1) := by decide +kernel
theorem dX2_family_14 : decode cX2_family 14 = .ok (.iload_n 2, 1) := by decide +kernel
theorem dX2_family_15 : decode cX2_family 15 = .ok (.invokevirtual 163, 3) := by decide +kernel
theorem dX2_family_18 : decode cX2_family 18 = .ok (.ireturn, 1) := by decide +kernel
theorem dX2_count_0 : decode cX2_count 0 = .ok (.iload_n 1, 1) := by decide +kernel
theorem dX2_count_1 : decode cX2_count 1 = .ok (.bipush 8, 2) := by decide +kernel
theorem dX2_count_3 : decode cX2_count 3 = .ok (.invokestatic 148, 3) := by decide +kernel
theorem dX2_count_6 : decode cX2_count 6 = .ok (.aload_n 0, 1) := by decide +kernel
theorem dX2_count_7 : decode cX2_count 7 = .ok (.iload_n 1, 1) := by decide +kernel
theorem dX2_count_8 : decode cX2_count 8 = .ok (.invokevirtual 166, 3) := by decide +kernel
theorem dX2_count_11 : decode cX2_count 11 = .ok (.ireturn, 1) := by decide +kernel
theorem dX2_why_0 : decode cX2_why 0 = .ok (.iload_n 1, 1) := by decide +kernel
theorem dX2_why_1 : decode cX2_why 1 = .ok (.invokestatic 81, 3) := by decide +kernel
theorem dX2_why_4 : decode cX2_why 4 = .ok (.iload_n 2, 1) := by decide +kernel
theorem dX2_why_5 : decode cX2_why 5 = .ok (.invokestatic 38, 3) := by decide +kernel
theorem dX2_why_8 : decode cX2_why 8 = .ok (.iload_n 3, 1) := by decide +kernel
theorem dX2_why_9 : decode cX2_why 9 = .ok (.invokestatic 87, 3) := by decide +kernel
theorem dX2_why_12 : decode cX2_why 12 = .ok (.aload_n 0, 1) := by decide +kernel
theorem dX2_why_13 : decode cX2_why 13 = .ok (.getfield 10, 3) := by decide +kernel
theorem dX2_why_16 : decode cX2_why 16 = .ok (.iload_n 1, 1) := by decide +kernel
theorem dX2_why_17 : decode cX2_why 17 = .ok (.iload_n 2, 1) := by decide +kernel
theorem dX2_why_18 : decode cX2_why 18 = .ok (.iload_n 3, 1) := by decide +kernel
theorem dX2_why_19 : decode cX2_why 19 = .ok (.aload_n 0, 1) := by decide +kernel
theorem dX2_why_20 : decode cX2_why 20 = .ok (.getfield 10, 3) := by decide +kernel
theorem dX2_why_23 : decode cX2_why 23 = .ok (.getfield 72, 3) := by decide +kernel
theorem dX2_why_26 : decode cX2_why 26 = .ok (.invokevirtual 90, 3) := by decide +kernel
theorem dX2_why_29 : decode cX2_why 29 = .ok (.ireturn, 1) := by decide +kernel
theorem dX2_fee_0 : decode cX2_fee 0 = .ok (.iload_n 1, 1) := by decide +kernel
theorem dX2_fee_1 : decode cX2_fee 1 = .ok (.invokestatic 81, 3) := by decide +kernel
theorem dX2_fee_4 : decode cX2_fee 4 = .ok (.iload_n 2, 1) := by decide +kernel
theorem dX2_fee_5 : decode cX2_fee 5 = .ok (.invokestatic 38, 3) := by decide +kernel
theorem dX2_fee_8 : decode cX2_fee 8 = .ok (.iload_n 3, 1) := by decide +kernel
theorem dX2_fee_9 : decode cX2_fee 9 = .ok (.invokestatic 87, 3) := by decide +kernel
theorem dX2_fee_12 : decode cX2_fee 12 = .ok (.aload_n 0, 1) := by decide +kernel
theorem dX2_fee_13 : decode cX2_fee 13 = .ok (.getfield 10, 3) := by decide +kernel
theorem dX2_fee_16 : decode cX2_fee 16 = .ok (.iload_n 1, 1) := by decide +kernel
theorem dX2_fee_17 : decode cX2_fee 17 = .ok (.iload_n 2, 1) := by decide +kernel
theorem dX2_fee_18 : decode cX2_fee 18 = .ok (.iload_n 3, 1) := by decide +kernel
theorem dX2_fee_19 : decode cX2_fee 19 = .ok (.invokevirtual 169, 3) := by decide +kernel
theorem dX2_fee_22 : decode cX2_fee 22 = .ok (.ireturn, 1) := by decide +kernel
theorem dX2_deepest_0 : decode cX2_deepest 0 = .ok (.iload_n 1, 1) := by decide +kernel
theorem dX2_deepest_1 : decode cX2_deepest 1 = .ok (.invokestatic 81, 3) := by decide +kernel
theorem dX2_deepest_4 : decode cX2_deepest 4 = .ok (.iload_n 2, 1) := by decide +kernel
theorem dX2_deepest_5 : decode cX2_deepest 5 = .ok (.invokestatic 38, 3) := by decide +kernel
theorem dX2_deepest_8 : decode cX2_deepest 8 = .ok (.iconst 3, 1) := by decide +kernel
theorem dX2_deepest_9 : decode cX2_deepest 9 = .ok (.istore_n 3, 1) := by decide +kernel
theorem dX2_deepest_10 : decode cX2_deepest 10 = .ok (.iload_n 3, 1) := by decide +kernel
theorem dX2_deepest_11 : decode cX2_deepest 11 = .ok (.iconst 1, 1) := by decide +kernel
theorem dX2_deepest_12 : decode cX2_deepest 12 = .ok (.if_icmp .lt 31, 3) := by decide +kernel
theorem dX2_deepest_15 : decode cX2_deepest 15 = .ok (.aload_n 0, 1) := by decide +kernel
theorem dX2_deepest_16 : decode cX2_deepest 16 = .ok (.getfield 10, 3) := by decide +kernel
theorem dX2_deepest_19 : decode cX2_deepest 19 = .ok (.iload_n 1, 1) := by decide +kernel
theorem dX2_deepest_20 : decode cX2_deepest 20 = .ok (.iload_n 2, 1) := by decide +kernel
theorem dX2_deepest_21 : decode cX2_deepest 21 = .ok (.iload_n 3, 1) := by decide +kernel
theorem dX2_deepest_22 : decode cX2_deepest 22 = .ok (.aload_n 0, 1) := by decide +kernel
theorem dX2_deepest_23 : decode cX2_deepest 23 = .ok (.getfield 10, 3) := by decide +kernel
theorem dX2_deepest_26 : decode cX2_deepest 26 = .ok (.getfield 72, 3) := by decide +kernel
theorem dX2_deepest_29 : decode cX2_deepest 29 = .ok (.invokevirtual 90, 3) := by decide +kernel
theorem dX2_deepest_32 : decode cX2_deepest 32 = .ok (.ifCond .ne 5, 3) := by decide +kernel
theorem dX2_deepest_35 : decode cX2_deepest 35 = .ok (.iload_n 3, 1) := by decide +kernel
theorem dX2_deepest_36 : decode cX2_deepest 36 = .ok (.ireturn, 1) := by decide +kernel
theorem dX2_deepest_37 : decode cX2_deepest 37 = .ok (.iinc 3 (-1), 3) := by decide +kernel
theorem dX2_deepest_40 : decode cX2_deepest 40 = .ok (.goto (-30), 3) := by decide +kernel
theorem dX2_deepest_43 : decode cX2_deepest 43 = .ok (.iconst (-1), 1) := by decide +kernel
theorem dX2_deepest_44 : decode cX2_deepest 44 = .ok (.ireturn, 1) := by decide +kernel
theorem dX2_bestPlot_0 : decode cX2_bestPlot 0 = .ok (.iload_n 1, 1) := by decide +kernel
theorem dX2_bestPlot_1 : decode cX2_bestPlot 1 = .ok (.invokestatic 81, 3) := by decide +kernel
theorem dX2_bestPlot_4 : decode cX2_bestPlot 4 = .ok (.aload_n 0, 1) := by decide +kernel
theorem dX2_bestPlot_5 : decode cX2_bestPlot 5 = .ok (.getfield 10, 3) := by decide +kernel
theorem dX2_bestPlot_8 : decode cX2_bestPlot 8 = .ok (.iload_n 1, 1) := by decide +kernel
theorem dX2_bestPlot_9 : decode cX2_bestPlot 9 = .ok (.invokevirtual 172, 3) := by decide +kernel
theorem dX2_bestPlot_12 : decode cX2_bestPlot 12 = .ok (.ireturn, 1) := by decide +kernel
theorem dX2_yearFor_0 : decode cX2_yearFor 0 = .ok (.iload_n 1, 1) := by decide +kernel
theorem dX2_yearFor_1 : decode cX2_yearFor 1 = .ok (.invokestatic 81, 3) := by decide +kernel
theorem dX2_yearFor_4 : decode cX2_yearFor 4 = .ok (.iload_n 2, 1) := by decide +kernel
theorem dX2_yearFor_5 : decode cX2_yearFor 5 = .ok (.invokestatic 38, 3) := by decide +kernel
theorem dX2_yearFor_8 : decode cX2_yearFor 8 = .ok (.iload_n 3, 1) := by decide +kernel
theorem dX2_yearFor_9 : decode cX2_yearFor 9 = .ok (.invokestatic 87, 3) := by decide +kernel
theorem dX2_yearFor_12 : decode cX2_yearFor 12 = .ok (.iconst 0, 1) := by decide +kernel
theorem dX2_yearFor_13 : decode cX2_yearFor 13 = .ok (.istore 4, 2) := by decide +kernel
theorem dX2_yearFor_15 : decode cX2_yearFor 15 = .ok (.iload 4, 2) := by decide +kernel
theorem dX2_yearFor_17 : decode cX2_yearFor 17 = .ok (.bipush 100, 2) := by decide +kernel
theorem dX2_yearFor_19 : decode cX2_yearFor 19 = .ok (.if_icmp .gt 43, 3) := by decide +kernel
theorem dX2_yearFor_22 : decode cX2_yearFor 22 = .ok (.aload_n 0, 1) := by decide +kernel
theorem dX2_yearFor_23 : decode cX2_yearFor 23 = .ok (.getfield 10, 3) := by decide +kernel
theorem dX2_yearFor_26 : decode cX2_yearFor 26 = .ok (.iload_n 1, 1) := by decide +kernel
theorem dX2_yearFor_27 : decode cX2_yearFor 27 = .ok (.iload_n 2, 1) := by decide +kernel
theorem dX2_yearFor_28 : decode cX2_yearFor 28 = .ok (.iload_n 3, 1) := by decide +kernel
theorem dX2_yearFor_29 : decode cX2_yearFor 29 = .ok (.aload_n 0, 1) := by decide +kernel
theorem dX2_yearFor_30 : decode cX2_yearFor 30 = .ok (.getfield 10, 3) := by decide +kernel
theorem dX2_yearFor_33 : decode cX2_yearFor 33 = .ok (.getfield 72, 3) := by decide +kernel
theorem dX2_yearFor_36 : decode cX2_yearFor 36 = .ok (.iload 4, 2) := by decide +kernel
theorem dX2_yearFor_38 : decode cX2_yearFor 38 = .ok (.iadd, 1) := by decide +kernel
theorem dX2_yearFor_39 : decode cX2_yearFor 39 = .ok (.invokevirtual 90, 3) := by decide +kernel
theorem dX2_yearFor_42 : decode cX2_yearFor 42 = .ok (.ifCond .ne 14, 3) := by decide +kernel
theorem dX2_yearFor_45 : decode cX2_yearFor 45 = .ok (.aload_n 0, 1) := by decide +kernel
theorem dX2_yearFor_46 : decode cX2_yearFor 46 = .ok (.getfield 10, 3) := by decide +kernel
theorem dX2_yearFor_49 : decode cX2_yearFor 49 = .ok (.getfield 72, 3) := by decide +kernel
theorem dX2_yearFor_52 : decode cX2_yearFor 52 = .ok (.iload 4, 2) := by decide +kernel
theorem dX2_yearFor_54 : decode cX2_yearFor 54 = .ok (.iadd, 1) := by decide +kernel
theorem dX2_yearFor_55 : decode cX2_yearFor 55 = .ok (.ireturn, 1) := by decide +kernel
theorem dX2_yearFor_56 : decode cX2_yearFor 56 = .ok (.iinc 4 1, 3) := by decide +kernel
theorem dX2_yearFor_59 : decode cX2_yearFor 59 = .ok (.goto (-44), 3) := by decide +kernel
theorem dX2_yearFor_62 : decode cX2_yearFor 62 = .ok (.iconst (-1), 1) := by decide +kernel
theorem dX2_yearFor_63 : decode cX2_yearFor 63 = .ok (.ireturn, 1) := by decide +kernel
theorem dX2_clearYear_0 : decode cX2_clearYear 0 = .ok (.iload_n 1, 1) := by decide +kernel
theorem dX2_clearYear_1 : decode cX2_clearYear 1 = .ok (.invokestatic 38, 3) := by decide +kernel
theorem dX2_clearYear_4 : decode cX2_clearYear 4 = .ok (.aload_n 0, 1) := by decide +kernel
theorem dX2_clearYear_5 : decode cX2_clearYear 5 = .ok (.getfield 10, 3) := by decide +kernel
theorem dX2_clearYear_8 : decode cX2_clearYear 8 = .ok (.iload_n 1, 1) := by decide +kernel
theorem dX2_clearYear_9 : decode cX2_clearYear 9 = .ok (.invokevirtual 175, 3) := by decide +kernel
theorem dX2_clearYear_12 : decode cX2_clearYear 12 = .ok (.ireturn, 1) := by decide +kernel
theorem dX2_cutsOff_0 : decode cX2_cutsOff 0 = .ok (.iload_n 1, 1) := by decide +kernel
theorem dX2_cutsOff_1 : decode cX2_cutsOff 1 = .ok (.invokestatic 38, 3) := by decide +kernel
theorem dX2_cutsOff_4 : decode cX2_cutsOff 4 = .ok (.aload_n 0, 1) := by decide +kernel
theorem dX2_cutsOff_5 : decode cX2_cutsOff 5 = .ok (.getfield 10, 3) := by decide +kernel
theorem dX2_cutsOff_8 : decode cX2_cutsOff 8 = .ok (.iload_n 1, 1) := by decide +kernel
theorem dX2_cutsOff_9 : decode cX2_cutsOff 9 = .ok (.invokevirtual 178, 3) := by decide +kernel
theorem dX2_cutsOff_12 : decode cX2_cutsOff 12 = .ok (.ireturn, 1) := by decide +kernel
theorem dX2_meanFee_0 : decode cX2_meanFee 0 = .ok (.aload_n 0, 1) := by decide +kernel
theorem dX2_meanFee_1 : decode cX2_meanFee 1 = .ok (.getfield 10, 3) := by decide +kernel
theorem dX2_meanFee_4 : decode cX2_meanFee 4 = .ok (.invokevirtual 181, 3) := by decide +kernel
theorem dX2_meanFee_7 : decode cX2_meanFee 7 = .ok (.dreturn, 1) := by decide +kernel
theorem dX2_digest_0 : decode cX2_digest 0 = .ok (.ldc2_w 185, 3) := by decide +kernel
theorem dX2_digest_3 : decode cX2_digest 3 = .ok (.lstore_n 1, 1) := by decide +kernel
theorem dX2_digest_4 : decode cX2_digest 4 = .ok (.iconst 0, 1) := by decide +kernel
theorem dX2_digest_5 : decode cX2_digest 5 = .ok (.istore_n 3, 1) := by decide +kernel
theorem dX2_digest_6 : decode cX2_digest 6 = .ok (.iload_n 3, 1) := by decide +kernel
theorem dX2_digest_7 : decode cX2_digest 7 = .ok (.bipush 8, 2) := by decide +kernel
theorem dX2_digest_9 : decode cX2_digest 9 = .ok (.if_icmp .gt 22, 3) := by decide +kernel
theorem dX2_digest_12 : decode cX2_digest 12 = .ok (.ldc2_w 187, 3) := by decide +kernel
theorem dX2_digest_15 : decode cX2_digest 15 = .ok (.lload_n 1, 1) := by decide +kernel
theorem dX2_digest_16 : decode cX2_digest 16 = .ok (.lmul, 1) := by decide +kernel
theorem dX2_digest_17 : decode cX2_digest 17 = .ok (.aload_n 0, 1) := by decide +kernel
theorem dX2_digest_18 : decode cX2_digest 18 = .ok (.iload_n 3, 1) := by decide +kernel
theorem dX2_digest_19 : decode cX2_digest 19 = .ok (.invokevirtual 166, 3) := by decide +kernel
theorem dX2_digest_22 : decode cX2_digest 22 = .ok (.i2l, 1) := by decide +kernel
theorem dX2_digest_23 : decode cX2_digest 23 = .ok (.ladd, 1) := by decide +kernel
theorem dX2_digest_24 : decode cX2_digest 24 = .ok (.lstore_n 1, 1) := by decide +kernel
theorem dX2_digest_25 : decode cX2_digest 25 = .ok (.iinc 3 1, 3) := by decide +kernel
theorem dX2_digest_28 : decode cX2_digest 28 = .ok (.goto (-22), 3) := by decide +kernel
theorem dX2_digest_31 : decode cX2_digest 31 = .ok (.iconst 0, 1) := by decide +kernel
theorem dX2_digest_32 : decode cX2_digest 32 = .ok (.istore_n 3, 1) := by decide +kernel
theorem dX2_digest_33 : decode cX2_digest 33 = .ok (.iload_n 3, 1) := by decide +kernel
theorem dX2_digest_34 : decode cX2_digest 34 = .ok (.bipush 40, 2) := by decide +kernel
theorem dX2_digest_36 : decode cX2_digest 36 = .ok (.if_icmp .ge 16, 3) := by decide +kernel
theorem dX2_digest_39 : decode cX2_digest 39 = .ok (.aload_n 0, 1) := by decide +kernel
theorem dX2_digest_40 : decode cX2_digest 40 = .ok (.lload_n 1, 1) := by decide +kernel
theorem dX2_digest_41 : decode cX2_digest 41 = .ok (.iload_n 3, 1) := by decide +kernel
theorem dX2_digest_42 : decode cX2_digest 42 = .ok (.invokevirtual 189, 3) := by decide +kernel
theorem dX2_digest_45 : decode cX2_digest 45 = .ok (.lstore_n 1, 1) := by decide +kernel
theorem dX2_digest_46 : decode cX2_digest 46 = .ok (.iinc 3 1, 3) := by decide +kernel
theorem dX2_digest_49 : decode cX2_digest 49 = .ok (.goto (-16), 3) := by decide +kernel
theorem dX2_digest_52 : decode cX2_digest 52 = .ok (.iconst 0, 1) := by decide +kernel
theorem dX2_digest_53 : decode cX2_digest 53 = .ok (.istore_n 3, 1) := by decide +kernel
theorem dX2_digest_54 : decode cX2_digest 54 = .ok (.iload_n 3, 1) := by decide +kernel
theorem dX2_digest_55 : decode cX2_digest 55 = .ok (.bipush 10, 2) := by decide +kernel
theorem dX2_digest_57 : decode cX2_digest 57 = .ok (.if_icmp .ge 30, 3) := by decide +kernel
theorem dX2_digest_60 : decode cX2_digest 60 = .ok (.ldc2_w 187, 3) := by decide +kernel
theorem dX2_digest_63 : decode cX2_digest 63 = .ok (.aload_n 0, 1) := by decide +kernel
theorem dX2_digest_64 : decode cX2_digest 64 = .ok (.lload_n 1, 1) := by decide +kernel
theorem dX2_digest_65 : decode cX2_digest 65 = .ok (.iload_n 3, 1) := by decide +kernel
theorem dX2_digest_66 : decode cX2_digest 66 = .ok (.invokevirtual 193, 3) := by decide +kernel
theorem dX2_digest_69 : decode cX2_digest 69 = .ok (.lmul, 1) := by decide +kernel
theorem dX2_digest_70 : decode cX2_digest 70 = .ok (.aload_n 0, 1) := by decide +kernel
theorem dX2_digest_71 : decode cX2_digest 71 = .ok (.getfield 10, 3) := by decide +kernel
theorem dX2_digest_74 : decode cX2_digest 74 = .ok (.iload_n 3, 1) := by decide +kernel
theorem dX2_digest_75 : decode cX2_digest 75 = .ok (.invokevirtual 172, 3) := by decide +kernel
theorem dX2_digest_78 : decode cX2_digest 78 = .ok (.i2l, 1) := by decide +kernel
theorem dX2_digest_79 : decode cX2_digest 79 = .ok (.ladd, 1) := by decide +kernel
theorem dX2_digest_80 : decode cX2_digest 80 = .ok (.lstore_n 1, 1) := by decide +kernel
theorem dX2_digest_81 : decode cX2_digest 81 = .ok (.iinc 3 1, 3) := by decide +kernel
theorem dX2_digest_84 : decode cX2_digest 84 = .ok (.goto (-30), 3) := by decide +kernel
theorem dX2_digest_87 : decode cX2_digest 87 = .ok (.ldc2_w 187, 3) := by decide +kernel
theorem dX2_digest_90 : decode cX2_digest 90 = .ok (.lload_n 1, 1) := by decide +kernel
theorem dX2_digest_91 : decode cX2_digest 91 = .ok (.lmul, 1) := by decide +kernel
theorem dX2_digest_92 : decode cX2_digest 92 = .ok (.aload_n 0, 1) := by decide +kernel
theorem dX2_digest_93 : decode cX2_digest 93 = .ok (.getfield 10, 3) := by decide +kernel
theorem dX2_digest_96 : decode cX2_digest 96 = .ok (.invokevirtual 181, 3) := by decide +kernel
theorem dX2_digest_99 : decode cX2_digest 99 = .ok (.invokestatic 196, 3) := by decide +kernel
theorem dX2_digest_102 : decode cX2_digest 102 = .ok (.ladd, 1) := by decide +kernel
theorem dX2_digest_103 : decode cX2_digest 103 = .ok (.lstore_n 1, 1) := by decide +kernel
theorem dX2_digest_104 : decode cX2_digest 104 = .ok (.aload_n 0, 1) := by decide +kernel
theorem dX2_digest_105 : decode cX2_digest 105 = .ok (.lload_n 1, 1) := by decide +kernel
theorem dX2_digest_106 : decode cX2_digest 106 = .ok (.invokevirtual 200, 3) := by decide +kernel
theorem dX2_digest_109 : decode cX2_digest 109 = .ok (.lreturn, 1) := by decide +kernel
theorem dX2_plotDigest_0 : decode cX2_plotDigest 0 = .ok (.lload_n 1, 1) := by decide +kernel
theorem dX2_plotDigest_1 : decode cX2_plotDigest 1 = .ok (.lstore 4, 2) := by decide +kernel
theorem dX2_plotDigest_3 : decode cX2_plotDigest 3 = .ok (.iconst 0, 1) := by decide +kernel
theorem dX2_plotDigest_4 : decode cX2_plotDigest 4 = .ok (.istore 6, 2) := by decide +kernel
theorem dX2_plotDigest_6 : decode cX2_plotDigest 6 = .ok (.iload 6, 2) := by decide +kernel
theorem dX2_plotDigest_8 : decode cX2_plotDigest 8 = .ok (.bipush 8, 2) := by decide +kernel
theorem dX2_plotDigest_10 : decode cX2_plotDigest 10 = .ok (.if_icmp .gt 29, 3) := by decide +kernel
theorem dX2_plotDigest_13 : decode cX2_plotDigest 13 = .ok (.ldc2_w 187, 3) := by decide +kernel
theorem dX2_plotDigest_16 : decode cX2_plotDigest 16 = .ok (.lload 4, 2) := by decide +kernel
theorem dX2_plotDigest_18 : decode cX2_plotDigest 18 = .ok (.lmul, 1) := by decide +kernel
theorem dX2_plotDigest_19 : decode cX2_plotDigest 19 = .ok (.aload_n 0, 1) := by decide +kernel
theorem dX2_plotDigest_20 : decode cX2_plotDigest 20 = .ok (.getfield 10, 3) := by decide +kernel
theorem dX2_plotDigest_23 : decode cX2_plotDigest 23 = .ok (.iload_n 3, 1) := by decide +kernel
theorem dX2_plotDigest_24 : decode cX2_plotDigest 24 = .ok (.iload 6, 2) := by decide +kernel
theorem dX2_plotDigest_26 : decode cX2_plotDigest 26 = .ok (.invokevirtual 152, 3) := by decide +kernel
theorem dX2_plotDigest_29 : decode cX2_plotDigest 29 = .ok (.i2l, 1) := by decide +kernel
theorem dX2_plotDigest_30 : decode cX2_plotDigest 30 = .ok (.ladd, 1) := by decide +kernel
theorem dX2_plotDigest_31 : decode cX2_plotDigest 31 = .ok (.lstore 4, 2) := by decide +kernel
theorem dX2_plotDigest_33 : decode cX2_plotDigest 33 = .ok (.iinc 6 1, 3) := by decide +kernel
theorem dX2_plotDigest_36 : decode cX2_plotDigest 36 = .ok (.goto (-30), 3) := by decide +kernel
theorem dX2_plotDigest_39 : decode cX2_plotDigest 39 = .ok (.iconst 1, 1) := by decide +kernel
theorem dX2_plotDigest_40 : decode cX2_plotDigest 40 = .ok (.istore 6, 2) := by decide +kernel
theorem dX2_plotDigest_42 : decode cX2_plotDigest 42 = .ok (.iload 6, 2) := by decide +kernel
theorem dX2_plotDigest_44 : decode cX2_plotDigest 44 = .ok (.iconst 3, 1) := by decide +kernel
theorem dX2_plotDigest_45 : decode cX2_plotDigest 45 = .ok (.if_icmp .gt 46, 3) := by decide +kernel
theorem dX2_plotDigest_48 : decode cX2_plotDigest 48 = .ok (.iconst 0, 1) := by decide +kernel
theorem dX2_plotDigest_49 : decode cX2_plotDigest 49 = .ok (.istore 7, 2) := by decide +kernel
theorem dX2_plotDigest_51 : decode cX2_plotDigest 51 = .ok (.iload 7, 2) := by decide +kernel
theorem dX2_plotDigest_53 : decode cX2_plotDigest 53 = .ok (.iconst 3, 1) := by decide +kernel
theorem dX2_plotDigest_54 : decode cX2_plotDigest 54 = .ok (.if_icmp .gt 31, 3) := by decide +kernel
theorem dX2_plotDigest_57 : decode cX2_plotDigest 57 = .ok (.ldc2_w 187, 3) := by decide +kernel
theorem dX2_plotDigest_60 : decode cX2_plotDigest 60 = .ok (.lload 4, 2) := by decide +kernel
theorem dX2_plotDigest_62 : decode cX2_plotDigest 62 = .ok (.lmul, 1) := by decide +kernel
theorem dX2_plotDigest_63 : decode cX2_plotDigest 63 = .ok (.aload_n 0, 1) := by decide +kernel
theorem dX2_plotDigest_64 : decode cX2_plotDigest 64 = .ok (.getfield 10, 3) := by decide +kernel
theorem dX2_plotDigest_67 : decode cX2_plotDigest 67 = .ok (.iload_n 3, 1) := by decide +kernel
theorem dX2_plotDigest_68 : decode cX2_plotDigest 68 = .ok (.iload 6, 2) := by decide +kernel
theorem dX2_plotDigest_70 : decode cX2_plotDigest 70 = .ok (.iload 7, 2) := by decide +kernel
theorem dX2_plotDigest_72 : decode cX2_plotDigest 72 = .ok (.invokevirtual 160, 3) := by decide +kernel
theorem dX2_plotDigest_75 : decode cX2_plotDigest 75 = .ok (.i2l, 1) := by decide +kernel
theorem dX2_plotDigest_76 : decode cX2_plotDigest 76 = .ok (.ladd, 1) := by decide +kernel
theorem dX2_plotDigest_77 : decode cX2_plotDigest 77 = .ok (.lstore 4, 2) := by decide +kernel
theorem dX2_plotDigest_79 : decode cX2_plotDigest 79 = .ok (.iinc 7 1, 3) := by decide +kernel
theorem dX2_plotDigest_82 : decode cX2_plotDigest 82 = .ok (.goto (-31), 3) := by decide +kernel
theorem dX2_plotDigest_85 : decode cX2_plotDigest 85 = .ok (.iinc 6 1, 3) := by decide +kernel
theorem dX2_plotDigest_88 : decode cX2_plotDigest 88 = .ok (.goto (-46), 3) := by decide +kernel
theorem dX2_plotDigest_91 : decode cX2_plotDigest 91 = .ok (.ldc2_w 187, 3) := by decide +kernel
theorem dX2_plotDigest_94 : decode cX2_plotDigest 94 = .ok (.lload 4, 2) := by decide +kernel
theorem dX2_plotDigest_96 : decode cX2_plotDigest 96 = .ok (.lmul, 1) := by decide +kernel
theorem dX2_plotDigest_97 : decode cX2_plotDigest 97 = .ok (.aload_n 0, 1) := by decide +kernel
theorem dX2_plotDigest_98 : decode cX2_plotDigest 98 = .ok (.getfield 10, 3) := by decide +kernel
theorem dX2_plotDigest_101 : decode cX2_plotDigest 101 = .ok (.iload_n 3, 1) := by decide +kernel
theorem dX2_plotDigest_102 : decode cX2_plotDigest 102 = .ok (.invokevirtual 175, 3) := by decide +kernel
theorem dX2_plotDigest_105 : decode cX2_plotDigest 105 = .ok (.i2l, 1) := by decide +kernel
theorem dX2_plotDigest_106 : decode cX2_plotDigest 106 = .ok (.ladd, 1) := by decide +kernel
theorem dX2_plotDigest_107 : decode cX2_plotDigest 107 = .ok (.lreturn, 1) := by decide +kernel
theorem dX2_familyDigest_0 : decode cX2_familyDigest 0 = .ok (.lload_n 1, 1) := by decide +kernel
theorem dX2_familyDigest_1 : decode cX2_familyDigest 1 = .ok (.lstore 4, 2) := by decide +kernel
theorem dX2_familyDigest_3 : decode cX2_familyDigest 3 = .ok (.iconst 0, 1) := by decide +kernel
theorem dX2_familyDigest_4 : decode cX2_familyDigest 4 = .ok (.istore 6, 2) := by decide +kernel
theorem dX2_familyDigest_6 : decode cX2_familyDigest 6 = .ok (.iload 6, 2) := by decide +kernel
theorem dX2_familyDigest_8 : decode cX2_familyDigest 8 = .ok (.iconst 5, 1) := by decide +kernel
theorem dX2_familyDigest_9 : decode cX2_familyDigest 9 = .ok (.if_icmp .gt 29, 3) := by decide +kernel
theorem dX2_familyDigest_12 : decode cX2_familyDigest 12 = .ok (.ldc2_w 187, 3) := by decide +kernel
theorem dX2_familyDigest_15 : decode cX2_familyDigest 15 = .ok (.lload 4, 2) := by decide +kernel
theorem dX2_familyDigest_17 : decode cX2_familyDigest 17 = .ok (.lmul, 1) := by decide +kernel
theorem dX2_familyDigest_18 : decode cX2_familyDigest 18 = .ok (.aload_n 0, 1) := by decide +kernel
theorem dX2_familyDigest_19 : decode cX2_familyDigest 19 = .ok (.getfield 10, 3) := by decide +kernel
theorem dX2_familyDigest_22 : decode cX2_familyDigest 22 = .ok (.iload_n 3, 1) := by decide +kernel
theorem dX2_familyDigest_23 : decode cX2_familyDigest 23 = .ok (.iload 6, 2) := by decide +kernel
theorem dX2_familyDigest_25 : decode cX2_familyDigest 25 = .ok (.invokevirtual 163, 3) := by decide +kernel
theorem dX2_familyDigest_28 : decode cX2_familyDigest 28 = .ok (.i2l, 1) := by decide +kernel
theorem dX2_familyDigest_29 : decode cX2_familyDigest 29 = .ok (.ladd, 1) := by decide +kernel
theorem dX2_familyDigest_30 : decode cX2_familyDigest 30 = .ok (.lstore 4, 2) := by decide +kernel
theorem dX2_familyDigest_32 : decode cX2_familyDigest 32 = .ok (.iinc 6 1, 3) := by decide +kernel
theorem dX2_familyDigest_35 : decode cX2_familyDigest 35 = .ok (.goto (-29), 3) := by decide +kernel
theorem dX2_familyDigest_38 : decode cX2_familyDigest 38 = .ok (.lload 4, 2) := by decide +kernel
theorem dX2_familyDigest_40 : decode cX2_familyDigest 40 = .ok (.lreturn, 1) := by decide +kernel
theorem dX2_bufferDigest_0 : decode cX2_bufferDigest 0 = .ok (.ldc2_w 187, 3) := by decide +kernel
theorem dX2_bufferDigest_3 : decode cX2_bufferDigest 3 = .ok (.lload_n 1, 1) := by decide +kernel
theorem dX2_bufferDigest_4 : decode cX2_bufferDigest 4 = .ok (.lmul, 1) := by decide +kernel
theorem dX2_bufferDigest_5 : decode cX2_bufferDigest 5 = .ok (.aload_n 0, 1) := by decide +kernel
theorem dX2_bufferDigest_6 : decode cX2_bufferDigest 6 = .ok (.getfield 28, 3) := by decide +kernel
theorem dX2_bufferDigest_9 : decode cX2_bufferDigest 9 = .ok (.i2l, 1) := by decide +kernel
theorem dX2_bufferDigest_10 : decode cX2_bufferDigest 10 = .ok (.ladd, 1) := by decide +kernel
theorem dX2_bufferDigest_11 : decode cX2_bufferDigest 11 = .ok (.lstore_n 3, 1) := by decide +kernel
theorem dX2_bufferDigest_12 : decode cX2_bufferDigest 12 = .ok (.iconst 0, 1) := by decide +kernel
theorem dX2_bufferDigest_13 : decode cX2_bufferDigest 13 = .ok (.istore 5, 2) := by decide +kernel
theorem dX2_bufferDigest_15 : decode cX2_bufferDigest 15 = .ok (.iload 5, 2) := by decide +kernel
theorem dX2_bufferDigest_17 : decode cX2_bufferDigest 17 = .ok (.aload_n 0, 1) := by decide +kernel
theorem dX2_bufferDigest_18 : decode cX2_bufferDigest 18 = .ok (.getfield 28, 3) := by decide +kernel
theorem dX2_bufferDigest_21 : decode cX2_bufferDigest 21 = .ok (.if_icmp .ge 31, 3) := by decide +kernel
theorem dX2_bufferDigest_24 : decode cX2_bufferDigest 24 = .ok (.iload 5, 2) := by decide +kernel
theorem dX2_bufferDigest_26 : decode cX2_bufferDigest 26 = .ok (.bipush 60, 2) := by decide +kernel
theorem dX2_bufferDigest_28 : decode cX2_bufferDigest 28 = .ok (.if_icmp .ge 24, 3) := by decide +kernel
theorem dX2_bufferDigest_31 : decode cX2_bufferDigest 31 = .ok (.ldc2_w 187, 3) := by decide +kernel
theorem dX2_bufferDigest_34 : decode cX2_bufferDigest 34 = .ok (.lload_n 3, 1) := by decide +kernel
theorem dX2_bufferDigest_35 : decode cX2_bufferDigest 35 = .ok (.lmul, 1) := by decide +kernel
theorem dX2_bufferDigest_36 : decode cX2_bufferDigest 36 = .ok (.aload_n 0, 1) := by decide +kernel
theorem dX2_bufferDigest_37 : decode cX2_bufferDigest 37 = .ok (.getfield 24, 3) := by decide +kernel
theorem dX2_bufferDigest_40 : decode cX2_bufferDigest 40 = .ok (.iload 5, 2) := by decide +kernel
theorem dX2_bufferDigest_42 : decode cX2_bufferDigest 42 = .ok (.iaload, 1) := by decide +kernel
theorem dX2_bufferDigest_43 : decode cX2_bufferDigest 43 = .ok (.i2l, 1) := by decide +kernel
theorem dX2_bufferDigest_44 : decode cX2_bufferDigest 44 = .ok (.ladd, 1) := by decide +kernel
theorem dX2_bufferDigest_45 : decode cX2_bufferDigest 45 = .ok (.lstore_n 3, 1) := by decide +kernel
theorem dX2_bufferDigest_46 : decode cX2_bufferDigest 46 = .ok (.iinc 5 1, 3) := by decide +kernel
theorem dX2_bufferDigest_49 : decode cX2_bufferDigest 49 = .ok (.goto (-34), 3) := by decide +kernel
theorem dX2_bufferDigest_52 : decode cX2_bufferDigest 52 = .ok (.lload_n 3, 1) := by decide +kernel
theorem dX2_bufferDigest_53 : decode cX2_bufferDigest 53 = .ok (.lreturn, 1) := by decide +kernel
theorem dX2_bitsOf_0 : decode cX2_bitsOf 0 = .ok (.dload_n 0, 1) := by decide +kernel
theorem dX2_bitsOf_1 : decode cX2_bitsOf 1 = .ok (.dconst 1, 1) := by decide +kernel
theorem dX2_bitsOf_2 : decode cX2_bitsOf 2 = .ok (.dcmp .g, 1) := by decide +kernel
theorem dX2_bitsOf_3 : decode cX2_bitsOf 3 = .ok (.ifCond .ge 5, 3) := by decide +kernel
theorem dX2_bitsOf_6 : decode cX2_bitsOf 6 = .ok (.lconst 0, 1) := by decide +kernel
theorem dX2_bitsOf_7 : decode cX2_bitsOf 7 = .ok (.lreturn, 1) := by decide +kernel
theorem dX2_bitsOf_8 : decode cX2_bitsOf 8 = .ok (.ldc2_w 204, 3) := by decide +kernel
theorem dX2_bitsOf_11 : decode cX2_bitsOf 11 = .ok (.lstore_n 2, 1) := by decide +kernel
theorem dX2_bitsOf_12 : decode cX2_bitsOf 12 = .ok (.dload_n 0, 1) := by decide +kernel
theorem dX2_bitsOf_13 : decode cX2_bitsOf 13 = .ok (.dstore 4, 2) := by decide +kernel
theorem dX2_bitsOf_15 : decode cX2_bitsOf 15 = .ok (.iconst 0, 1) := by decide +kernel
theorem dX2_bitsOf_16 : decode cX2_bitsOf 16 = .ok (.istore 6, 2) := by decide +kernel
theorem dX2_bitsOf_18 : decode cX2_bitsOf 18 = .ok (.iload 6, 2) := by decide +kernel
theorem dX2_bitsOf_20 : decode cX2_bitsOf 20 = .ok (.sipush 1023, 3) := by decide +kernel
theorem dX2_bitsOf_23 : decode cX2_bitsOf 23 = .ok (.if_icmp .ge 30, 3) := by decide +kernel
theorem dX2_bitsOf_26 : decode cX2_bitsOf 26 = .ok (.dload 4, 2) := by decide +kernel
theorem dX2_bitsOf_28 : decode cX2_bitsOf 28 = .ok (.ldc2_w 206, 3) := by decide +kernel
theorem dX2_bitsOf_31 : decode cX2_bitsOf 31 = .ok (.dcmp .l, 1) := by decide +kernel
theorem dX2_bitsOf_32 : decode cX2_bitsOf 32 = .ok (.ifCond .lt 21, 3) := by decide +kernel
theorem dX2_bitsOf_35 : decode cX2_bitsOf 35 = .ok (.dload 4, 2) := by decide +kernel
theorem dX2_bitsOf_37 : decode cX2_bitsOf 37 = .ok (.ldc2_w 206, 3) := by decide +kernel
theorem dX2_bitsOf_40 : decode cX2_bitsOf 40 = .ok (.ddiv, 1) := by decide +kernel

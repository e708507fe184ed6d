theorem dX3_cutNow_32 : decode cX3_cutNow 32 = .ok (.aload_n 0, 1) := by decide +kernel
theorem dX3_cutNow_33 : decode cX3_cutNow 33 = .ok (.iload 4, 2) := by decide +kernel
theorem dX3_cutNow_35 : decode cX3_cutNow 35 = .ok (.invokevirtual 79, 3) := by decide +kernel
theorem dX3_cutNow_38 : decode cX3_cutNow 38 = .ok (.ifCond .eq 7, 3) := by decide +kernel
theorem dX3_cutNow_41 : decode cX3_cutNow 41 = .ok (.iconst 1, 1) := by decide +kernel
theorem dX3_cutNow_42 : decode cX3_cutNow 42 = .ok (.goto 4, 3) := by decide +kernel
theorem dX3_cutNow_45 : decode cX3_cutNow 45 = .ok (.iconst 0, 1) := by decide +kernel
theorem dX3_cutNow_46 : decode cX3_cutNow 46 = .ok (.iadd, 1) := by decide +kernel
theorem dX3_cutNow_47 : decode cX3_cutNow 47 = .ok (.istore_n 2, 1) := by decide +kernel
theorem dX3_cutNow_48 : decode cX3_cutNow 48 = .ok (.iinc 4 1, 3) := by decide +kernel
theorem dX3_cutNow_51 : decode cX3_cutNow 51 = .ok (.goto (-44), 3) := by decide +kernel
theorem dX3_cutNow_54 : decode cX3_cutNow 54 = .ok (.aload_n 0, 1) := by decide +kernel
theorem dX3_cutNow_55 : decode cX3_cutNow 55 = .ok (.iload_n 1, 1) := by decide +kernel
theorem dX3_cutNow_56 : decode cX3_cutNow 56 = .ok (.invokevirtual 88, 3) := by decide +kernel
theorem dX3_cutNow_59 : decode cX3_cutNow 59 = .ok (.iconst 0, 1) := by decide +kernel
theorem dX3_cutNow_60 : decode cX3_cutNow 60 = .ok (.istore 4, 2) := by decide +kernel
theorem dX3_cutNow_62 : decode cX3_cutNow 62 = .ok (.iload 4, 2) := by decide +kernel
theorem dX3_cutNow_64 : decode cX3_cutNow 64 = .ok (.bipush 40, 2) := by decide +kernel
theorem dX3_cutNow_66 : decode cX3_cutNow 66 = .ok (.if_icmp .ge 43, 3) := by decide +kernel
theorem dX3_cutNow_69 : decode cX3_cutNow 69 = .ok (.iload_n 3, 1) := by decide +kernel
theorem dX3_cutNow_70 : decode cX3_cutNow 70 = .ok (.iload 4, 2) := by decide +kernel
theorem dX3_cutNow_72 : decode cX3_cutNow 72 = .ok (.iload_n 1, 1) := by decide +kernel
theorem dX3_cutNow_73 : decode cX3_cutNow 73 = .ok (.if_icmp .eq 27, 3) := by decide +kernel
theorem dX3_cutNow_76 : decode cX3_cutNow 76 = .ok (.aload_n 0, 1) := by decide +kernel
theorem dX3_cutNow_77 : decode cX3_cutNow 77 = .ok (.getfield 7, 3) := by decide +kernel
theorem dX3_cutNow_80 : decode cX3_cutNow 80 = .ok (.iload 4, 2) := by decide +kernel
theorem dX3_cutNow_82 : decode cX3_cutNow 82 = .ok (.iaload, 1) := by decide +kernel
theorem dX3_cutNow_83 : decode cX3_cutNow 83 = .ok (.iconst 3, 1) := by decide +kernel
theorem dX3_cutNow_84 : decode cX3_cutNow 84 = .ok (.if_icmp .eq 16, 3) := by decide +kernel
theorem dX3_cutNow_87 : decode cX3_cutNow 87 = .ok (.aload_n 0, 1) := by decide +kernel
theorem dX3_cutNow_88 : decode cX3_cutNow 88 = .ok (.iload 4, 2) := by decide +kernel
theorem dX3_cutNow_90 : decode cX3_cutNow 90 = .ok (.invokevirtual 79, 3) := by decide +kernel
theorem dX3_cutNow_93 : decode cX3_cutNow 93 = .ok (.ifCond .eq 7, 3) := by decide +kernel
theorem dX3_cutNow_96 : decode cX3_cutNow 96 = .ok (.iconst 1, 1) := by decide +kernel
theorem dX3_cutNow_97 : decode cX3_cutNow 97 = .ok (.goto 4, 3) := by decide +kernel
theorem dX3_cutNow_100 : decode cX3_cutNow 100 = .ok (.iconst 0, 1) := by decide +kernel
theorem dX3_cutNow_101 : decode cX3_cutNow 101 = .ok (.iadd, 1) := by decide +kernel
theorem dX3_cutNow_102 : decode cX3_cutNow 102 = .ok (.istore_n 3, 1) := by decide +kernel
theorem dX3_cutNow_103 : decode cX3_cutNow 103 = .ok (.iinc 4 1, 3) := by decide +kernel
theorem dX3_cutNow_106 : decode cX3_cutNow 106 = .ok (.goto (-44), 3) := by decide +kernel
theorem dX3_cutNow_109 : decode cX3_cutNow 109 = .ok (.iload_n 2, 1) := by decide +kernel
theorem dX3_cutNow_110 : decode cX3_cutNow 110 = .ok (.iload_n 3, 1) := by decide +kernel
theorem dX3_cutNow_111 : decode cX3_cutNow 111 = .ok (.isub, 1) := by decide +kernel
theorem dX3_cutNow_112 : decode cX3_cutNow 112 = .ok (.ireturn, 1) := by decide +kernel
theorem dX3_cutsOff_0 : decode cX3_cutsOff 0 = .ok (.aload_n 0, 1) := by decide +kernel
theorem dX3_cutsOff_1 : decode cX3_cutsOff 1 = .ok (.invokevirtual 92, 3) := by decide +kernel
theorem dX3_cutsOff_4 : decode cX3_cutsOff 4 = .ok (.iload_n 1, 1) := by decide +kernel
theorem dX3_cutsOff_5 : decode cX3_cutsOff 5 = .ok (.invokestatic 112, 3) := by decide +kernel
theorem dX3_cutsOff_8 : decode cX3_cutsOff 8 = .ok (.ifCond .eq 11, 3) := by decide +kernel
theorem dX3_cutsOff_11 : decode cX3_cutsOff 11 = .ok (.aload_n 0, 1) := by decide +kernel
theorem dX3_cutsOff_12 : decode cX3_cutsOff 12 = .ok (.iload_n 1, 1) := by decide +kernel
theorem dX3_cutsOff_13 : decode cX3_cutsOff 13 = .ok (.invokevirtual 164, 3) := by decide +kernel
theorem dX3_cutsOff_16 : decode cX3_cutsOff 16 = .ok (.goto 8, 3) := by decide +kernel
theorem dX3_cutsOff_19 : decode cX3_cutsOff 19 = .ok (.aload_n 0, 1) := by decide +kernel
theorem dX3_cutsOff_20 : decode cX3_cutsOff 20 = .ok (.iconst 1, 1) := by decide +kernel
theorem dX3_cutsOff_21 : decode cX3_cutsOff 21 = .ok (.invokevirtual 95, 3) := by decide +kernel
theorem dX3_cutsOff_24 : decode cX3_cutsOff 24 = .ok (.ireturn, 1) := by decide +kernel
theorem dX3_meanNow_0 : decode cX3_meanNow 0 = .ok (.iconst 0, 1) := by decide +kernel
theorem dX3_meanNow_1 : decode cX3_meanNow 1 = .ok (.istore_n 1, 1) := by decide +kernel
theorem dX3_meanNow_2 : decode cX3_meanNow 2 = .ok (.iconst 0, 1) := by decide +kernel
theorem dX3_meanNow_3 : decode cX3_meanNow 3 = .ok (.istore_n 2, 1) := by decide +kernel
theorem dX3_meanNow_4 : decode cX3_meanNow 4 = .ok (.iconst 0, 1) := by decide +kernel
theorem dX3_meanNow_5 : decode cX3_meanNow 5 = .ok (.istore_n 3, 1) := by decide +kernel
theorem dX3_meanNow_6 : decode cX3_meanNow 6 = .ok (.iload_n 3, 1) := by decide +kernel
theorem dX3_meanNow_7 : decode cX3_meanNow 7 = .ok (.bipush 120, 2) := by decide +kernel
theorem dX3_meanNow_9 : decode cX3_meanNow 9 = .ok (.if_icmp .ge 62, 3) := by decide +kernel
theorem dX3_meanNow_12 : decode cX3_meanNow 12 = .ok (.iload_n 1, 1) := by decide +kernel
theorem dX3_meanNow_13 : decode cX3_meanNow 13 = .ok (.aload_n 0, 1) := by decide +kernel
theorem dX3_meanNow_14 : decode cX3_meanNow 14 = .ok (.getfield 7, 3) := by decide +kernel
theorem dX3_meanNow_17 : decode cX3_meanNow 17 = .ok (.sipush 160, 3) := by decide +kernel
theorem dX3_meanNow_20 : decode cX3_meanNow 20 = .ok (.iload_n 3, 1) := by decide +kernel
theorem dX3_meanNow_21 : decode cX3_meanNow 21 = .ok (.iadd, 1) := by decide +kernel
theorem dX3_meanNow_22 : decode cX3_meanNow 22 = .ok (.iaload, 1) := by decide +kernel
theorem dX3_meanNow_23 : decode cX3_meanNow 23 = .ok (.iconst (-1), 1) := by decide +kernel
theorem dX3_meanNow_24 : decode cX3_meanNow 24 = .ok (.if_icmp .ne 7, 3) := by decide +kernel
theorem dX3_meanNow_27 : decode cX3_meanNow 27 = .ok (.iconst 0, 1) := by decide +kernel
theorem dX3_meanNow_28 : decode cX3_meanNow 28 = .ok (.goto 13, 3) := by decide +kernel
theorem dX3_meanNow_31 : decode cX3_meanNow 31 = .ok (.aload_n 0, 1) := by decide +kernel
theorem dX3_meanNow_32 : decode cX3_meanNow 32 = .ok (.getfield 7, 3) := by decide +kernel
theorem dX3_meanNow_35 : decode cX3_meanNow 35 = .ok (.sipush 400, 3) := by decide +kernel
theorem dX3_meanNow_38 : decode cX3_meanNow 38 = .ok (.iload_n 3, 1) := by decide +kernel
theorem dX3_meanNow_39 : decode cX3_meanNow 39 = .ok (.iadd, 1) := by decide +kernel
theorem dX3_meanNow_40 : decode cX3_meanNow 40 = .ok (.iaload, 1) := by decide +kernel
theorem dX3_meanNow_41 : decode cX3_meanNow 41 = .ok (.iadd, 1) := by decide +kernel
theorem dX3_meanNow_42 : decode cX3_meanNow 42 = .ok (.istore_n 1, 1) := by decide +kernel
theorem dX3_meanNow_43 : decode cX3_meanNow 43 = .ok (.iload_n 2, 1) := by decide +kernel
theorem dX3_meanNow_44 : decode cX3_meanNow 44 = .ok (.aload_n 0, 1) := by decide +kernel
theorem dX3_meanNow_45 : decode cX3_meanNow 45 = .ok (.getfield 7, 3) := by decide +kernel
theorem dX3_meanNow_48 : decode cX3_meanNow 48 = .ok (.sipush 160, 3) := by decide +kernel
theorem dX3_meanNow_51 : decode cX3_meanNow 51 = .ok (.iload_n 3, 1) := by decide +kernel
theorem dX3_meanNow_52 : decode cX3_meanNow 52 = .ok (.iadd, 1) := by decide +kernel
theorem dX3_meanNow_53 : decode cX3_meanNow 53 = .ok (.iaload, 1) := by decide +kernel
theorem dX3_meanNow_54 : decode cX3_meanNow 54 = .ok (.iconst (-1), 1) := by decide +kernel
theorem dX3_meanNow_55 : decode cX3_meanNow 55 = .ok (.if_icmp .ne 7, 3) := by decide +kernel
theorem dX3_meanNow_58 : decode cX3_meanNow 58 = .ok (.iconst 0, 1) := by decide +kernel
theorem dX3_meanNow_59 : decode cX3_meanNow 59 = .ok (.goto 4, 3) := by decide +kernel
theorem dX3_meanNow_62 : decode cX3_meanNow 62 = .ok (.iconst 1, 1) := by decide +kernel
theorem dX3_meanNow_63 : decode cX3_meanNow 63 = .ok (.iadd, 1) := by decide +kernel
theorem dX3_meanNow_64 : decode cX3_meanNow 64 = .ok (.istore_n 2, 1) := by decide +kernel
theorem dX3_meanNow_65 : decode cX3_meanNow 65 = .ok (.iinc 3 1, 3) := by decide +kernel
theorem dX3_meanNow_68 : decode cX3_meanNow 68 = .ok (.goto (-62), 3) := by decide +kernel
theorem dX3_meanNow_71 : decode cX3_meanNow 71 = .ok (.iload_n 2, 1) := by decide +kernel
theorem dX3_meanNow_72 : decode cX3_meanNow 72 = .ok (.ifCond .ne 7, 3) := by decide +kernel
theorem dX3_meanNow_75 : decode cX3_meanNow 75 = .ok (.dconst 0, 1) := by decide +kernel
theorem dX3_meanNow_76 : decode cX3_meanNow 76 = .ok (.goto 8, 3) := by decide +kernel
theorem dX3_meanNow_79 : decode cX3_meanNow 79 = .ok (.iload_n 1, 1) := by decide +kernel
theorem dX3_meanNow_80 : decode cX3_meanNow 80 = .ok (.i2d, 1) := by decide +kernel
theorem dX3_meanNow_81 : decode cX3_meanNow 81 = .ok (.iload_n 2, 1) := by decide +kernel
theorem dX3_meanNow_82 : decode cX3_meanNow 82 = .ok (.i2d, 1) := by decide +kernel
theorem dX3_meanNow_83 : decode cX3_meanNow 83 = .ok (.ddiv, 1) := by decide +kernel
theorem dX3_meanNow_84 : decode cX3_meanNow 84 = .ok (.dreturn, 1) := by decide +kernel
theorem dX3_meanFee_0 : decode cX3_meanFee 0 = .ok (.aload_n 0, 1) := by decide +kernel
theorem dX3_meanFee_1 : decode cX3_meanFee 1 = .ok (.iconst 0, 1) := by decide +kernel
theorem dX3_meanFee_2 : decode cX3_meanFee 2 = .ok (.putfield 37, 3) := by decide +kernel
theorem dX3_meanFee_5 : decode cX3_meanFee 5 = .ok (.aload_n 0, 1) := by decide +kernel
theorem dX3_meanFee_6 : decode cX3_meanFee 6 = .ok (.invokevirtual 167, 3) := by decide +kernel
theorem dX3_meanFee_9 : decode cX3_meanFee 9 = .ok (.dreturn, 1) := by decide +kernel
theorem dX3_mix_0 : decode cX3_mix 0 = .ok (.aload_n 0, 1) := by decide +kernel
theorem dX3_mix_1 : decode cX3_mix 1 = .ok (.ldc2_w 171, 3) := by decide +kernel
theorem dX3_mix_4 : decode cX3_mix 4 = .ok (.aload_n 0, 1) := by decide +kernel
theorem dX3_mix_5 : decode cX3_mix 5 = .ok (.getfield 173, 3) := by decide +kernel
theorem dX3_mix_8 : decode cX3_mix 8 = .ok (.lmul, 1) := by decide +kernel
theorem dX3_mix_9 : decode cX3_mix 9 = .ok (.lload_n 1, 1) := by decide +kernel
theorem dX3_mix_10 : decode cX3_mix 10 = .ok (.ladd, 1) := by decide +kernel
theorem dX3_mix_11 : decode cX3_mix 11 = .ok (.putfield 173, 3) := by decide +kernel
theorem dX3_mix_14 : decode cX3_mix 14 = .ok (.return_, 1) := by decide +kernel
theorem dX3_digest_0 : decode cX3_digest 0 = .ok (.aload_n 0, 1) := by decide +kernel
theorem dX3_digest_1 : decode cX3_digest 1 = .ok (.invokevirtual 92, 3) := by decide +kernel
theorem dX3_digest_4 : decode cX3_digest 4 = .ok (.aload_n 0, 1) := by decide +kernel
theorem dX3_digest_5 : decode cX3_digest 5 = .ok (.ldc2_w 177, 3) := by decide +kernel
theorem dX3_digest_8 : decode cX3_digest 8 = .ok (.putfield 173, 3) := by decide +kernel
theorem dX3_digest_11 : decode cX3_digest 11 = .ok (.iconst 0, 1) := by decide +kernel
theorem dX3_digest_12 : decode cX3_digest 12 = .ok (.istore_n 1, 1) := by decide +kernel
theorem dX3_digest_13 : decode cX3_digest 13 = .ok (.iload_n 1, 1) := by decide +kernel
theorem dX3_digest_14 : decode cX3_digest 14 = .ok (.bipush 9, 2) := by decide +kernel
theorem dX3_digest_16 : decode cX3_digest 16 = .ok (.if_icmp .ge 19, 3) := by decide +kernel
theorem dX3_digest_19 : decode cX3_digest 19 = .ok (.aload_n 0, 1) := by decide +kernel
theorem dX3_digest_20 : decode cX3_digest 20 = .ok (.aload_n 0, 1) := by decide +kernel
theorem dX3_digest_21 : decode cX3_digest 21 = .ok (.iload_n 1, 1) := by decide +kernel
theorem dX3_digest_22 : decode cX3_digest 22 = .ok (.invokevirtual 155, 3) := by decide +kernel
theorem dX3_digest_25 : decode cX3_digest 25 = .ok (.i2l, 1) := by decide +kernel
theorem dX3_digest_26 : decode cX3_digest 26 = .ok (.invokevirtual 179, 3) := by decide +kernel
theorem dX3_digest_29 : decode cX3_digest 29 = .ok (.iinc 1 1, 3) := by decide +kernel
theorem dX3_digest_32 : decode cX3_digest 32 = .ok (.goto (-19), 3) := by decide +kernel
theorem dX3_digest_35 : decode cX3_digest 35 = .ok (.iconst 0, 1) := by decide +kernel
theorem dX3_digest_36 : decode cX3_digest 36 = .ok (.istore_n 1, 1) := by decide +kernel
theorem dX3_digest_37 : decode cX3_digest 37 = .ok (.iload_n 1, 1) := by decide +kernel
theorem dX3_digest_38 : decode cX3_digest 38 = .ok (.bipush 40, 2) := by decide +kernel
theorem dX3_digest_40 : decode cX3_digest 40 = .ok (.if_icmp .ge 74, 3) := by decide +kernel
theorem dX3_digest_43 : decode cX3_digest 43 = .ok (.iconst 0, 1) := by decide +kernel
theorem dX3_digest_44 : decode cX3_digest 44 = .ok (.istore_n 2, 1) := by decide +kernel
theorem dX3_digest_45 : decode cX3_digest 45 = .ok (.iload_n 2, 1) := by decide +kernel
theorem dX3_digest_46 : decode cX3_digest 46 = .ok (.bipush 9, 2) := by decide +kernel
theorem dX3_digest_48 : decode cX3_digest 48 = .ok (.if_icmp .ge 20, 3) := by decide +kernel
theorem dX3_digest_51 : decode cX3_digest 51 = .ok (.aload_n 0, 1) := by decide +kernel
theorem dX3_digest_52 : decode cX3_digest 52 = .ok (.aload_n 0, 1) := by decide +kernel
theorem dX3_digest_53 : decode cX3_digest 53 = .ok (.iload_n 1, 1) := by decide +kernel
theorem dX3_digest_54 : decode cX3_digest 54 = .ok (.iload_n 2, 1) := by decide +kernel
theorem dX3_digest_55 : decode cX3_digest 55 = .ok (.invokevirtual 146, 3) := by decide +kernel
theorem dX3_digest_58 : decode cX3_digest 58 = .ok (.i2l, 1) := by decide +kernel
theorem dX3_digest_59 : decode cX3_digest 59 = .ok (.invokevirtual 179, 3) := by decide +kernel
theorem dX3_digest_62 : decode cX3_digest 62 = .ok (.iinc 2 1, 3) := by decide +kernel
theorem dX3_digest_65 : decode cX3_digest 65 = .ok (.goto (-20), 3) := by decide +kernel
theorem dX3_digest_68 : decode cX3_digest 68 = .ok (.iconst 0, 1) := by decide +kernel
theorem dX3_digest_69 : decode cX3_digest 69 = .ok (.istore_n 2, 1) := by decide +kernel
theorem dX3_digest_70 : decode cX3_digest 70 = .ok (.iload_n 2, 1) := by decide +kernel
theorem dX3_digest_71 : decode cX3_digest 71 = .ok (.bipush 12, 2) := by decide +kernel
theorem dX3_digest_73 : decode cX3_digest 73 = .ok (.if_icmp .ge 25, 3) := by decide +kernel
theorem dX3_digest_76 : decode cX3_digest 76 = .ok (.aload_n 0, 1) := by decide +kernel
theorem dX3_digest_77 : decode cX3_digest 77 = .ok (.aload_n 0, 1) := by decide +kernel
theorem dX3_digest_78 : decode cX3_digest 78 = .ok (.iload_n 1, 1) := by decide +kernel
theorem dX3_digest_79 : decode cX3_digest 79 = .ok (.iload_n 2, 1) := by decide +kernel
theorem dX3_digest_80 : decode cX3_digest 80 = .ok (.iconst 4, 1) := by decide +kernel
theorem dX3_digest_81 : decode cX3_digest 81 = .ok (.idiv, 1) := by decide +kernel
theorem dX3_digest_82 : decode cX3_digest 82 = .ok (.iload_n 2, 1) := by decide +kernel
theorem dX3_digest_83 : decode cX3_digest 83 = .ok (.iconst 4, 1) := by decide +kernel
theorem dX3_digest_84 : decode cX3_digest 84 = .ok (.irem, 1) := by decide +kernel
theorem dX3_digest_85 : decode cX3_digest 85 = .ok (.invokevirtual 149, 3) := by decide +kernel
theorem dX3_digest_88 : decode cX3_digest 88 = .ok (.i2l, 1) := by decide +kernel
theorem dX3_digest_89 : decode cX3_digest 89 = .ok (.invokevirtual 179, 3) := by decide +kernel
theorem dX3_digest_92 : decode cX3_digest 92 = .ok (.iinc 2 1, 3) := by decide +kernel
theorem dX3_digest_95 : decode cX3_digest 95 = .ok (.goto (-25), 3) := by decide +kernel
theorem dX3_digest_98 : decode cX3_digest 98 = .ok (.aload_n 0, 1) := by decide +kernel
theorem dX3_digest_99 : decode cX3_digest 99 = .ok (.aload_n 0, 1) := by decide +kernel
theorem dX3_digest_100 : decode cX3_digest 100 = .ok (.iload_n 1, 1) := by decide +kernel
theorem dX3_digest_101 : decode cX3_digest 101 = .ok (.invokevirtual 161, 3) := by decide +kernel
theorem dX3_digest_104 : decode cX3_digest 104 = .ok (.i2l, 1) := by decide +kernel
theorem dX3_digest_105 : decode cX3_digest 105 = .ok (.invokevirtual 179, 3) := by decide +kernel
theorem dX3_digest_108 : decode cX3_digest 108 = .ok (.iinc 1 1, 3) := by decide +kernel
theorem dX3_digest_111 : decode cX3_digest 111 = .ok (.goto (-74), 3) := by decide +kernel
theorem dX3_digest_114 : decode cX3_digest 114 = .ok (.iconst 0, 1) := by decide +kernel
theorem dX3_digest_115 : decode cX3_digest 115 = .ok (.istore_n 1, 1) := by decide +kernel
theorem dX3_digest_116 : decode cX3_digest 116 = .ok (.iload_n 1, 1) := by decide +kernel
theorem dX3_digest_117 : decode cX3_digest 117 = .ok (.bipush 10, 2) := by decide +kernel
theorem dX3_digest_119 : decode cX3_digest 119 = .ok (.if_icmp .ge 44, 3) := by decide +kernel
theorem dX3_digest_122 : decode cX3_digest 122 = .ok (.iconst 0, 1) := by decide +kernel
theorem dX3_digest_123 : decode cX3_digest 123 = .ok (.istore_n 2, 1) := by decide +kernel
theorem dX3_digest_124 : decode cX3_digest 124 = .ok (.iload_n 2, 1) := by decide +kernel
theorem dX3_digest_125 : decode cX3_digest 125 = .ok (.bipush 6, 2) := by decide +kernel
theorem dX3_digest_127 : decode cX3_digest 127 = .ok (.if_icmp .ge 20, 3) := by decide +kernel
theorem dX3_digest_130 : decode cX3_digest 130 = .ok (.aload_n 0, 1) := by decide +kernel
theorem dX3_digest_131 : decode cX3_digest 131 = .ok (.aload_n 0, 1) := by decide +kernel
theorem dX3_digest_132 : decode cX3_digest 132 = .ok (.iload_n 1, 1) := by decide +kernel
theorem dX3_digest_133 : decode cX3_digest 133 = .ok (.iload_n 2, 1) := by decide +kernel
theorem dX3_digest_134 : decode cX3_digest 134 = .ok (.invokevirtual 152, 3) := by decide +kernel
theorem dX3_digest_137 : decode cX3_digest 137 = .ok (.i2l, 1) := by decide +kernel
theorem dX3_digest_138 : decode cX3_digest 138 = .ok (.invokevirtual 179, 3) := by decide +kernel
theorem dX3_digest_141 : decode cX3_digest 141 = .ok (.iinc 2 1, 3) := by decide +kernel
theorem dX3_digest_144 : decode cX3_digest 144 = .ok (.goto (-20), 3) := by decide +kernel
theorem dX3_digest_147 : decode cX3_digest 147 = .ok (.aload_n 0, 1) := by decide +kernel
theorem dX3_digest_148 : decode cX3_digest 148 = .ok (.aload_n 0, 1) := by decide +kernel
theorem dX3_digest_149 : decode cX3_digest 149 = .ok (.iload_n 1, 1) := by decide +kernel
theorem dX3_digest_150 : decode cX3_digest 150 = .ok (.invokevirtual 158, 3) := by decide +kernel
theorem dX3_digest_153 : decode cX3_digest 153 = .ok (.i2l, 1) := by decide +kernel
theorem dX3_digest_154 : decode cX3_digest 154 = .ok (.invokevirtual 179, 3) := by decide +kernel
theorem dX3_digest_157 : decode cX3_digest 157 = .ok (.iinc 1 1, 3) := by decide +kernel
theorem dX3_digest_160 : decode cX3_digest 160 = .ok (.goto (-44), 3) := by decide +kernel
theorem dX3_digest_163 : decode cX3_digest 163 = .ok (.aload_n 0, 1) := by decide +kernel
theorem dX3_digest_164 : decode cX3_digest 164 = .ok (.aload_n 0, 1) := by decide +kernel
theorem dX3_digest_165 : decode cX3_digest 165 = .ok (.invokevirtual 167, 3) := by decide +kernel
theorem dX3_digest_168 : decode cX3_digest 168 = .ok (.invokestatic 183, 3) := by decide +kernel
theorem dX3_digest_171 : decode cX3_digest 171 = .ok (.invokevirtual 179, 3) := by decide +kernel
theorem dX3_digest_174 : decode cX3_digest 174 = .ok (.aload_n 0, 1) := by decide +kernel
theorem dX3_digest_175 : decode cX3_digest 175 = .ok (.aload_n 0, 1) := by decide +kernel
theorem dX3_digest_176 : decode cX3_digest 176 = .ok (.getfield 130, 3) := by decide +kernel
theorem dX3_digest_179 : decode cX3_digest 179 = .ok (.i2l, 1) := by decide +kernel
theorem dX3_digest_180 : decode cX3_digest 180 = .ok (.invokevirtual 179, 3) := by decide +kernel
theorem dX3_digest_183 : decode cX3_digest 183 = .ok (.iconst 0, 1) := by decide +kernel
theorem dX3_digest_184 : decode cX3_digest 184 = .ok (.istore_n 1, 1) := by decide +kernel
theorem dX3_digest_185 : decode cX3_digest 185 = .ok (.iload_n 1, 1) := by decide +kernel
theorem dX3_digest_186 : decode cX3_digest 186 = .ok (.aload_n 0, 1) := by decide +kernel
theorem dX3_digest_187 : decode cX3_digest 187 = .ok (.getfield 130, 3) := by decide +kernel
theorem dX3_digest_190 : decode cX3_digest 190 = .ok (.if_icmp .ge 20, 3) := by decide +kernel
theorem dX3_digest_193 : decode cX3_digest 193 = .ok (.aload_n 0, 1) := by decide +kernel
theorem dX3_digest_194 : decode cX3_digest 194 = .ok (.aload_n 0, 1) := by decide +kernel
theorem dX3_digest_195 : decode cX3_digest 195 = .ok (.getfield 16, 3) := by decide +kernel
theorem dX3_digest_198 : decode cX3_digest 198 = .ok (.iload_n 1, 1) := by decide +kernel
theorem dX3_digest_199 : decode cX3_digest 199 = .ok (.iaload, 1) := by decide +kernel
theorem dX3_digest_200 : decode cX3_digest 200 = .ok (.i2l, 1) := by decide +kernel
theorem dX3_digest_201 : decode cX3_digest 201 = .ok (.invokevirtual 179, 3) := by decide +kernel
theorem dX3_digest_204 : decode cX3_digest 204 = .ok (.iinc 1 1, 3) := by decide +kernel
theorem dX3_digest_207 : decode cX3_digest 207 = .ok (.goto (-22), 3) := by decide +kernel
theorem dX3_digest_210 : decode cX3_digest 210 = .ok (.aload_n 0, 1) := by decide +kernel
theorem dX3_digest_211 : decode cX3_digest 211 = .ok (.getfield 173, 3) := by decide +kernel
theorem dX3_digest_214 : decode cX3_digest 214 = .ok (.lreturn, 1) := by decide +kernel

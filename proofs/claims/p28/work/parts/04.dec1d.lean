theorem dX1_cheapestPlot_74 : decode cX1_cheapestPlot 74 = .ok (.istore_n 2, 1) := by decide +kernel
theorem dX1_cheapestPlot_75 : decode cX1_cheapestPlot 75 = .ok (.iload 5, 2) := by decide +kernel
theorem dX1_cheapestPlot_77 : decode cX1_cheapestPlot 77 = .ok (.istore_n 3, 1) := by decide +kernel
theorem dX1_cheapestPlot_78 : decode cX1_cheapestPlot 78 = .ok (.iinc 4 1, 3) := by decide +kernel
theorem dX1_cheapestPlot_81 : decode cX1_cheapestPlot 81 = .ok (.goto (-74), 3) := by decide +kernel
theorem dX1_cheapestPlot_84 : decode cX1_cheapestPlot 84 = .ok (.iload_n 2, 1) := by decide +kernel
theorem dX1_cheapestPlot_85 : decode cX1_cheapestPlot 85 = .ok (.ireturn, 1) := by decide +kernel
theorem dX1_plotProperty_0 : decode cX1_plotProperty 0 = .ok (.iload_n 2, 1) := by decide +kernel
theorem dX1_plotProperty_1 : decode cX1_plotProperty 1 = .ok (.tableswitch 111 0 7 #[47, 54, 64, 70, 76, 83, 90, 97], 47) := by decide +kernel
theorem dX1_plotProperty_48 : decode cX1_plotProperty 48 = .ok (.aload_n 0, 1) := by decide +kernel
theorem dX1_plotProperty_49 : decode cX1_plotProperty 49 = .ok (.getfield 25, 3) := by decide +kernel
theorem dX1_plotProperty_52 : decode cX1_plotProperty 52 = .ok (.iload_n 1, 1) := by decide +kernel
theorem dX1_plotProperty_53 : decode cX1_plotProperty 53 = .ok (.iaload, 1) := by decide +kernel
theorem dX1_plotProperty_54 : decode cX1_plotProperty 54 = .ok (.ireturn, 1) := by decide +kernel
theorem dX1_plotProperty_55 : decode cX1_plotProperty 55 = .ok (.aload_n 0, 1) := by decide +kernel
theorem dX1_plotProperty_56 : decode cX1_plotProperty 56 = .ok (.iload_n 1, 1) := by decide +kernel
theorem dX1_plotProperty_57 : decode cX1_plotProperty 57 = .ok (.aload_n 0, 1) := by decide +kernel
theorem dX1_plotProperty_58 : decode cX1_plotProperty 58 = .ok (.getfield 9, 3) := by decide +kernel
theorem dX1_plotProperty_61 : decode cX1_plotProperty 61 = .ok (.invokevirtual 74, 3) := by decide +kernel
theorem dX1_plotProperty_64 : decode cX1_plotProperty 64 = .ok (.ireturn, 1) := by decide +kernel
theorem dX1_plotProperty_65 : decode cX1_plotProperty 65 = .ok (.aload_n 0, 1) := by decide +kernel
theorem dX1_plotProperty_66 : decode cX1_plotProperty 66 = .ok (.iload_n 1, 1) := by decide +kernel
theorem dX1_plotProperty_67 : decode cX1_plotProperty 67 = .ok (.invokevirtual 58, 3) := by decide +kernel
theorem dX1_plotProperty_70 : decode cX1_plotProperty 70 = .ok (.ireturn, 1) := by decide +kernel
theorem dX1_plotProperty_71 : decode cX1_plotProperty 71 = .ok (.aload_n 0, 1) := by decide +kernel
theorem dX1_plotProperty_72 : decode cX1_plotProperty 72 = .ok (.iload_n 1, 1) := by decide +kernel
theorem dX1_plotProperty_73 : decode cX1_plotProperty 73 = .ok (.invokevirtual 162, 3) := by decide +kernel
theorem dX1_plotProperty_76 : decode cX1_plotProperty 76 = .ok (.ireturn, 1) := by decide +kernel
theorem dX1_plotProperty_77 : decode cX1_plotProperty 77 = .ok (.aload_n 0, 1) := by decide +kernel
theorem dX1_plotProperty_78 : decode cX1_plotProperty 78 = .ok (.getfield 28, 3) := by decide +kernel
theorem dX1_plotProperty_81 : decode cX1_plotProperty 81 = .ok (.iload_n 1, 1) := by decide +kernel
theorem dX1_plotProperty_82 : decode cX1_plotProperty 82 = .ok (.iaload, 1) := by decide +kernel
theorem dX1_plotProperty_83 : decode cX1_plotProperty 83 = .ok (.ireturn, 1) := by decide +kernel
theorem dX1_plotProperty_84 : decode cX1_plotProperty 84 = .ok (.aload_n 0, 1) := by decide +kernel
theorem dX1_plotProperty_85 : decode cX1_plotProperty 85 = .ok (.getfield 31, 3) := by decide +kernel
theorem dX1_plotProperty_88 : decode cX1_plotProperty 88 = .ok (.iload_n 1, 1) := by decide +kernel
theorem dX1_plotProperty_89 : decode cX1_plotProperty 89 = .ok (.iaload, 1) := by decide +kernel
theorem dX1_plotProperty_90 : decode cX1_plotProperty 90 = .ok (.ireturn, 1) := by decide +kernel
theorem dX1_plotProperty_91 : decode cX1_plotProperty 91 = .ok (.aload_n 0, 1) := by decide +kernel
theorem dX1_plotProperty_92 : decode cX1_plotProperty 92 = .ok (.getfield 34, 3) := by decide +kernel
theorem dX1_plotProperty_95 : decode cX1_plotProperty 95 = .ok (.iload_n 1, 1) := by decide +kernel
theorem dX1_plotProperty_96 : decode cX1_plotProperty 96 = .ok (.iaload, 1) := by decide +kernel
theorem dX1_plotProperty_97 : decode cX1_plotProperty 97 = .ok (.ireturn, 1) := by decide +kernel
theorem dX1_plotProperty_98 : decode cX1_plotProperty 98 = .ok (.aload_n 0, 1) := by decide +kernel
theorem dX1_plotProperty_99 : decode cX1_plotProperty 99 = .ok (.iload_n 1, 1) := by decide +kernel
theorem dX1_plotProperty_100 : decode cX1_plotProperty 100 = .ok (.invokevirtual 87, 3) := by decide +kernel
theorem dX1_plotProperty_103 : decode cX1_plotProperty 103 = .ok (.ifCond .eq 7, 3) := by decide +kernel
theorem dX1_plotProperty_106 : decode cX1_plotProperty 106 = .ok (.iconst 1, 1) := by decide +kernel
theorem dX1_plotProperty_107 : decode cX1_plotProperty 107 = .ok (.goto 4, 3) := by decide +kernel
theorem dX1_plotProperty_110 : decode cX1_plotProperty 110 = .ok (.iconst 0, 1) := by decide +kernel
theorem dX1_plotProperty_111 : decode cX1_plotProperty 111 = .ok (.ireturn, 1) := by decide +kernel
theorem dX1_plotProperty_112 : decode cX1_plotProperty 112 = .ok (.aload_n 0, 1) := by decide +kernel
theorem dX1_plotProperty_113 : decode cX1_plotProperty 113 = .ok (.iload_n 1, 1) := by decide +kernel
theorem dX1_plotProperty_114 : decode cX1_plotProperty 114 = .ok (.invokevirtual 140, 3) := by decide +kernel
theorem dX1_plotProperty_117 : decode cX1_plotProperty 117 = .ok (.ireturn, 1) := by decide +kernel
theorem dX1_burialProperty_0 : decode cX1_burialProperty 0 = .ok (.iload_n 1, 1) := by decide +kernel
theorem dX1_burialProperty_1 : decode cX1_burialProperty 1 = .ok (.iload_n 2, 1) := by decide +kernel
theorem dX1_burialProperty_2 : decode cX1_burialProperty 2 = .ok (.invokestatic 62, 3) := by decide +kernel
theorem dX1_burialProperty_5 : decode cX1_burialProperty 5 = .ok (.istore 4, 2) := by decide +kernel
theorem dX1_burialProperty_7 : decode cX1_burialProperty 7 = .ok (.aload_n 0, 1) := by decide +kernel
theorem dX1_burialProperty_8 : decode cX1_burialProperty 8 = .ok (.getfield 37, 3) := by decide +kernel
theorem dX1_burialProperty_11 : decode cX1_burialProperty 11 = .ok (.iload 4, 2) := by decide +kernel
theorem dX1_burialProperty_13 : decode cX1_burialProperty 13 = .ok (.iaload, 1) := by decide +kernel
theorem dX1_burialProperty_14 : decode cX1_burialProperty 14 = .ok (.iconst (-1), 1) := by decide +kernel
theorem dX1_burialProperty_15 : decode cX1_burialProperty 15 = .ok (.if_icmp .ne 5, 3) := by decide +kernel
theorem dX1_burialProperty_18 : decode cX1_burialProperty 18 = .ok (.iconst (-1), 1) := by decide +kernel
theorem dX1_burialProperty_19 : decode cX1_burialProperty 19 = .ok (.ireturn, 1) := by decide +kernel
theorem dX1_burialProperty_20 : decode cX1_burialProperty 20 = .ok (.iload_n 3, 1) := by decide +kernel
theorem dX1_burialProperty_21 : decode cX1_burialProperty 21 = .ok (.tableswitch 62 0 2 #[27, 35, 43], 27) := by decide +kernel
theorem dX1_burialProperty_48 : decode cX1_burialProperty 48 = .ok (.aload_n 0, 1) := by decide +kernel
theorem dX1_burialProperty_49 : decode cX1_burialProperty 49 = .ok (.getfield 37, 3) := by decide +kernel
theorem dX1_burialProperty_52 : decode cX1_burialProperty 52 = .ok (.iload 4, 2) := by decide +kernel
theorem dX1_burialProperty_54 : decode cX1_burialProperty 54 = .ok (.iaload, 1) := by decide +kernel
theorem dX1_burialProperty_55 : decode cX1_burialProperty 55 = .ok (.ireturn, 1) := by decide +kernel
theorem dX1_burialProperty_56 : decode cX1_burialProperty 56 = .ok (.aload_n 0, 1) := by decide +kernel
theorem dX1_burialProperty_57 : decode cX1_burialProperty 57 = .ok (.getfield 40, 3) := by decide +kernel
theorem dX1_burialProperty_60 : decode cX1_burialProperty 60 = .ok (.iload 4, 2) := by decide +kernel
theorem dX1_burialProperty_62 : decode cX1_burialProperty 62 = .ok (.iaload, 1) := by decide +kernel
theorem dX1_burialProperty_63 : decode cX1_burialProperty 63 = .ok (.ireturn, 1) := by decide +kernel
theorem dX1_burialProperty_64 : decode cX1_burialProperty 64 = .ok (.aload_n 0, 1) := by decide +kernel
theorem dX1_burialProperty_65 : decode cX1_burialProperty 65 = .ok (.iload 4, 2) := by decide +kernel
theorem dX1_burialProperty_67 : decode cX1_burialProperty 67 = .ok (.aload_n 0, 1) := by decide +kernel
theorem dX1_burialProperty_68 : decode cX1_burialProperty 68 = .ok (.getfield 9, 3) := by decide +kernel
theorem dX1_burialProperty_71 : decode cX1_burialProperty 71 = .ok (.invokevirtual 100, 3) := by decide +kernel
theorem dX1_burialProperty_74 : decode cX1_burialProperty 74 = .ok (.ifCond .eq 7, 3) := by decide +kernel
theorem dX1_burialProperty_77 : decode cX1_burialProperty 77 = .ok (.iconst 0, 1) := by decide +kernel
theorem dX1_burialProperty_78 : decode cX1_burialProperty 78 = .ok (.goto 4, 3) := by decide +kernel
theorem dX1_burialProperty_81 : decode cX1_burialProperty 81 = .ok (.iconst 1, 1) := by decide +kernel
theorem dX1_burialProperty_82 : decode cX1_burialProperty 82 = .ok (.ireturn, 1) := by decide +kernel
theorem dX1_burialProperty_83 : decode cX1_burialProperty 83 = .ok (.aload_n 0, 1) := by decide +kernel
theorem dX1_burialProperty_84 : decode cX1_burialProperty 84 = .ok (.getfield 43, 3) := by decide +kernel
theorem dX1_burialProperty_87 : decode cX1_burialProperty 87 = .ok (.iload 4, 2) := by decide +kernel
theorem dX1_burialProperty_89 : decode cX1_burialProperty 89 = .ok (.iaload, 1) := by decide +kernel
theorem dX1_burialProperty_90 : decode cX1_burialProperty 90 = .ok (.ireturn, 1) := by decide +kernel
theorem dX1_familyProperty_0 : decode cX1_familyProperty 0 = .ok (.iload_n 2, 1) := by decide +kernel
theorem dX1_familyProperty_1 : decode cX1_familyProperty 1 = .ok (.tableswitch 68 0 4 #[35, 42, 49, 56, 62], 35) := by decide +kernel
theorem dX1_familyProperty_36 : decode cX1_familyProperty 36 = .ok (.aload_n 0, 1) := by decide +kernel
theorem dX1_familyProperty_37 : decode cX1_familyProperty 37 = .ok (.getfield 15, 3) := by decide +kernel
theorem dX1_familyProperty_40 : decode cX1_familyProperty 40 = .ok (.iload_n 1, 1) := by decide +kernel
theorem dX1_familyProperty_41 : decode cX1_familyProperty 41 = .ok (.iaload, 1) := by decide +kernel
theorem dX1_familyProperty_42 : decode cX1_familyProperty 42 = .ok (.ireturn, 1) := by decide +kernel
theorem dX1_familyProperty_43 : decode cX1_familyProperty 43 = .ok (.aload_n 0, 1) := by decide +kernel
theorem dX1_familyProperty_44 : decode cX1_familyProperty 44 = .ok (.getfield 19, 3) := by decide +kernel
theorem dX1_familyProperty_47 : decode cX1_familyProperty 47 = .ok (.iload_n 1, 1) := by decide +kernel
theorem dX1_familyProperty_48 : decode cX1_familyProperty 48 = .ok (.iaload, 1) := by decide +kernel
theorem dX1_familyProperty_49 : decode cX1_familyProperty 49 = .ok (.ireturn, 1) := by decide +kernel
theorem dX1_familyProperty_50 : decode cX1_familyProperty 50 = .ok (.aload_n 0, 1) := by decide +kernel
theorem dX1_familyProperty_51 : decode cX1_familyProperty 51 = .ok (.getfield 22, 3) := by decide +kernel
theorem dX1_familyProperty_54 : decode cX1_familyProperty 54 = .ok (.iload_n 1, 1) := by decide +kernel
theorem dX1_familyProperty_55 : decode cX1_familyProperty 55 = .ok (.iaload, 1) := by decide +kernel
theorem dX1_familyProperty_56 : decode cX1_familyProperty 56 = .ok (.ireturn, 1) := by decide +kernel
theorem dX1_familyProperty_57 : decode cX1_familyProperty 57 = .ok (.aload_n 0, 1) := by decide +kernel
theorem dX1_familyProperty_58 : decode cX1_familyProperty 58 = .ok (.iload_n 1, 1) := by decide +kernel
theorem dX1_familyProperty_59 : decode cX1_familyProperty 59 = .ok (.invokevirtual 165, 3) := by decide +kernel
theorem dX1_familyProperty_62 : decode cX1_familyProperty 62 = .ok (.ireturn, 1) := by decide +kernel
theorem dX1_familyProperty_63 : decode cX1_familyProperty 63 = .ok (.aload_n 0, 1) := by decide +kernel
theorem dX1_familyProperty_64 : decode cX1_familyProperty 64 = .ok (.iload_n 1, 1) := by decide +kernel
theorem dX1_familyProperty_65 : decode cX1_familyProperty 65 = .ok (.invokevirtual 168, 3) := by decide +kernel
theorem dX1_familyProperty_68 : decode cX1_familyProperty 68 = .ok (.ireturn, 1) := by decide +kernel
theorem dX1_familyProperty_69 : decode cX1_familyProperty 69 = .ok (.aload_n 0, 1) := by decide +kernel
theorem dX1_familyProperty_70 : decode cX1_familyProperty 70 = .ok (.iload_n 1, 1) := by decide +kernel
theorem dX1_familyProperty_71 : decode cX1_familyProperty 71 = .ok (.invokevirtual 171, 3) := by decide +kernel
theorem dX1_familyProperty_74 : decode cX1_familyProperty 74 = .ok (.ireturn, 1) := by decide +kernel
theorem dX1_burialsOf_0 : decode cX1_burialsOf 0 = .ok (.iconst 0, 1) := by decide +kernel
theorem dX1_burialsOf_1 : decode cX1_burialsOf 1 = .ok (.istore_n 2, 1) := by decide +kernel
theorem dX1_burialsOf_2 : decode cX1_burialsOf 2 = .ok (.iconst 0, 1) := by decide +kernel
theorem dX1_burialsOf_3 : decode cX1_burialsOf 3 = .ok (.istore_n 3, 1) := by decide +kernel
theorem dX1_burialsOf_4 : decode cX1_burialsOf 4 = .ok (.iload_n 3, 1) := by decide +kernel
theorem dX1_burialsOf_5 : decode cX1_burialsOf 5 = .ok (.bipush 120, 2) := by decide +kernel
theorem dX1_burialsOf_7 : decode cX1_burialsOf 7 = .ok (.if_icmp .ge 22, 3) := by decide +kernel
theorem dX1_burialsOf_10 : decode cX1_burialsOf 10 = .ok (.aload_n 0, 1) := by decide +kernel
theorem dX1_burialsOf_11 : decode cX1_burialsOf 11 = .ok (.getfield 37, 3) := by decide +kernel
theorem dX1_burialsOf_14 : decode cX1_burialsOf 14 = .ok (.iload_n 3, 1) := by decide +kernel
theorem dX1_burialsOf_15 : decode cX1_burialsOf 15 = .ok (.iaload, 1) := by decide +kernel
theorem dX1_burialsOf_16 : decode cX1_burialsOf 16 = .ok (.iload_n 1, 1) := by decide +kernel
theorem dX1_burialsOf_17 : decode cX1_burialsOf 17 = .ok (.if_icmp .ne 6, 3) := by decide +kernel
theorem dX1_burialsOf_20 : decode cX1_burialsOf 20 = .ok (.iinc 2 1, 3) := by decide +kernel
theorem dX1_burialsOf_23 : decode cX1_burialsOf 23 = .ok (.iinc 3 1, 3) := by decide +kernel
theorem dX1_burialsOf_26 : decode cX1_burialsOf 26 = .ok (.goto (-22), 3) := by decide +kernel
theorem dX1_burialsOf_29 : decode cX1_burialsOf 29 = .ok (.iload_n 2, 1) := by decide +kernel
theorem dX1_burialsOf_30 : decode cX1_burialsOf 30 = .ok (.ireturn, 1) := by decide +kernel
theorem dX1_plotsHeldBy_0 : decode cX1_plotsHeldBy 0 = .ok (.iconst 0, 1) := by decide +kernel
theorem dX1_plotsHeldBy_1 : decode cX1_plotsHeldBy 1 = .ok (.istore_n 2, 1) := by decide +kernel
theorem dX1_plotsHeldBy_2 : decode cX1_plotsHeldBy 2 = .ok (.iconst 0, 1) := by decide +kernel
theorem dX1_plotsHeldBy_3 : decode cX1_plotsHeldBy 3 = .ok (.istore_n 3, 1) := by decide +kernel
theorem dX1_plotsHeldBy_4 : decode cX1_plotsHeldBy 4 = .ok (.iload_n 3, 1) := by decide +kernel
theorem dX1_plotsHeldBy_5 : decode cX1_plotsHeldBy 5 = .ok (.bipush 40, 2) := by decide +kernel
theorem dX1_plotsHeldBy_7 : decode cX1_plotsHeldBy 7 = .ok (.if_icmp .ge 25, 3) := by decide +kernel
theorem dX1_plotsHeldBy_10 : decode cX1_plotsHeldBy 10 = .ok (.aload_n 0, 1) := by decide +kernel
theorem dX1_plotsHeldBy_11 : decode cX1_plotsHeldBy 11 = .ok (.iload_n 3, 1) := by decide +kernel
theorem dX1_plotsHeldBy_12 : decode cX1_plotsHeldBy 12 = .ok (.aload_n 0, 1) := by decide +kernel
theorem dX1_plotsHeldBy_13 : decode cX1_plotsHeldBy 13 = .ok (.getfield 9, 3) := by decide +kernel
theorem dX1_plotsHeldBy_16 : decode cX1_plotsHeldBy 16 = .ok (.invokevirtual 74, 3) := by decide +kernel
theorem dX1_plotsHeldBy_19 : decode cX1_plotsHeldBy 19 = .ok (.iload_n 1, 1) := by decide +kernel
theorem dX1_plotsHeldBy_20 : decode cX1_plotsHeldBy 20 = .ok (.if_icmp .ne 6, 3) := by decide +kernel
theorem dX1_plotsHeldBy_23 : decode cX1_plotsHeldBy 23 = .ok (.iinc 2 1, 3) := by decide +kernel
theorem dX1_plotsHeldBy_26 : decode cX1_plotsHeldBy 26 = .ok (.iinc 3 1, 3) := by decide +kernel
theorem dX1_plotsHeldBy_29 : decode cX1_plotsHeldBy 29 = .ok (.goto (-25), 3) := by decide +kernel
theorem dX1_plotsHeldBy_32 : decode cX1_plotsHeldBy 32 = .ok (.iload_n 2, 1) := by decide +kernel
theorem dX1_plotsHeldBy_33 : decode cX1_plotsHeldBy 33 = .ok (.ireturn, 1) := by decide +kernel
theorem dX1_vaultsOf_0 : decode cX1_vaultsOf 0 = .ok (.iconst 0, 1) := by decide +kernel
theorem dX1_vaultsOf_1 : decode cX1_vaultsOf 1 = .ok (.istore_n 2, 1) := by decide +kernel
theorem dX1_vaultsOf_2 : decode cX1_vaultsOf 2 = .ok (.iconst 0, 1) := by decide +kernel
theorem dX1_vaultsOf_3 : decode cX1_vaultsOf 3 = .ok (.istore_n 3, 1) := by decide +kernel
theorem dX1_vaultsOf_4 : decode cX1_vaultsOf 4 = .ok (.iload_n 3, 1) := by decide +kernel
theorem dX1_vaultsOf_5 : decode cX1_vaultsOf 5 = .ok (.bipush 40, 2) := by decide +kernel
theorem dX1_vaultsOf_7 : decode cX1_vaultsOf 7 = .ok (.if_icmp .ge 22, 3) := by decide +kernel
theorem dX1_vaultsOf_10 : decode cX1_vaultsOf 10 = .ok (.aload_n 0, 1) := by decide +kernel
theorem dX1_vaultsOf_11 : decode cX1_vaultsOf 11 = .ok (.getfield 28, 3) := by decide +kernel
theorem dX1_vaultsOf_14 : decode cX1_vaultsOf 14 = .ok (.iload_n 3, 1) := by decide +kernel
theorem dX1_vaultsOf_15 : decode cX1_vaultsOf 15 = .ok (.iaload, 1) := by decide +kernel
theorem dX1_vaultsOf_16 : decode cX1_vaultsOf 16 = .ok (.iload_n 1, 1) := by decide +kernel
theorem dX1_vaultsOf_17 : decode cX1_vaultsOf 17 = .ok (.if_icmp .ne 6, 3) := by decide +kernel
theorem dX1_vaultsOf_20 : decode cX1_vaultsOf 20 = .ok (.iinc 2 1, 3) := by decide +kernel
theorem dX1_vaultsOf_23 : decode cX1_vaultsOf 23 = .ok (.iinc 3 1, 3) := by decide +kernel
theorem dX1_vaultsOf_26 : decode cX1_vaultsOf 26 = .ok (.goto (-22), 3) := by decide +kernel
theorem dX1_vaultsOf_29 : decode cX1_vaultsOf 29 = .ok (.iload_n 2, 1) := by decide +kernel
theorem dX1_vaultsOf_30 : decode cX1_vaultsOf 30 = .ok (.ireturn, 1) := by decide +kernel
theorem dX1_total_0 : decode cX1_total 0 = .ok (.iload_n 1, 1) := by decide +kernel
theorem dX1_total_1 : decode cX1_total 1 = .ok (.tableswitch 98 0 6 #[43, 48, 53, 58, 71, 88, 93], 43) := by decide +kernel
theorem dX1_total_44 : decode cX1_total 44 = .ok (.aload_n 0, 1) := by decide +kernel
theorem dX1_total_45 : decode cX1_total 45 = .ok (.getfield 9, 3) := by decide +kernel
theorem dX1_total_48 : decode cX1_total 48 = .ok (.ireturn, 1) := by decide +kernel
theorem dX1_total_49 : decode cX1_total 49 = .ok (.aload_n 0, 1) := by decide +kernel
theorem dX1_total_50 : decode cX1_total 50 = .ok (.invokevirtual 174, 3) := by decide +kernel
theorem dX1_total_53 : decode cX1_total 53 = .ok (.ireturn, 1) := by decide +kernel
theorem dX1_total_54 : decode cX1_total 54 = .ok (.aload_n 0, 1) := by decide +kernel
theorem dX1_total_55 : decode cX1_total 55 = .ok (.invokevirtual 178, 3) := by decide +kernel
theorem dX1_total_58 : decode cX1_total 58 = .ok (.ireturn, 1) := by decide +kernel
theorem dX1_total_59 : decode cX1_total 59 = .ok (.aload_n 0, 1) := by decide +kernel
theorem dX1_total_60 : decode cX1_total 60 = .ok (.invokevirtual 131, 3) := by decide +kernel
theorem dX1_total_63 : decode cX1_total 63 = .ok (.aload_n 0, 1) := by decide +kernel
theorem dX1_total_64 : decode cX1_total 64 = .ok (.invokevirtual 122, 3) := by decide +kernel
theorem dX1_total_67 : decode cX1_total 67 = .ok (.land, 1) := by decide +kernel
theorem dX1_total_68 : decode cX1_total 68 = .ok (.invokestatic 134, 3) := by decide +kernel
theorem dX1_total_71 : decode cX1_total 71 = .ok (.ireturn, 1) := by decide +kernel
theorem dX1_total_72 : decode cX1_total 72 = .ok (.aload_n 0, 1) := by decide +kernel
theorem dX1_total_73 : decode cX1_total 73 = .ok (.invokevirtual 131, 3) := by decide +kernel
theorem dX1_total_76 : decode cX1_total 76 = .ok (.aload_n 0, 1) := by decide +kernel
theorem dX1_total_77 : decode cX1_total 77 = .ok (.getfield 48, 3) := by decide +kernel
theorem dX1_total_80 : decode cX1_total 80 = .ok (.ldc2_w 126, 3) := by decide +kernel
theorem dX1_total_83 : decode cX1_total 83 = .ok (.lxor, 1) := by decide +kernel
theorem dX1_total_84 : decode cX1_total 84 = .ok (.land, 1) := by decide +kernel
theorem dX1_total_85 : decode cX1_total 85 = .ok (.invokestatic 134, 3) := by decide +kernel
theorem dX1_total_88 : decode cX1_total 88 = .ok (.ireturn, 1) := by decide +kernel
theorem dX1_total_89 : decode cX1_total 89 = .ok (.aload_n 0, 1) := by decide +kernel
theorem dX1_total_90 : decode cX1_total 90 = .ok (.invokevirtual 181, 3) := by decide +kernel
theorem dX1_total_93 : decode cX1_total 93 = .ok (.ireturn, 1) := by decide +kernel
theorem dX1_total_94 : decode cX1_total 94 = .ok (.aload_n 0, 1) := by decide +kernel
theorem dX1_total_95 : decode cX1_total 95 = .ok (.invokevirtual 184, 3) := by decide +kernel
theorem dX1_total_98 : decode cX1_total 98 = .ok (.ireturn, 1) := by decide +kernel
theorem dX1_total_99 : decode cX1_total 99 = .ok (.aload_n 0, 1) := by decide +kernel
theorem dX1_total_100 : decode cX1_total 100 = .ok (.invokevirtual 187, 3) := by decide +kernel
theorem dX1_total_103 : decode cX1_total 103 = .ok (.ireturn, 1) := by decide +kernel
theorem dX1_allBurials_0 : decode cX1_allBurials 0 = .ok (.iconst 0, 1) := by decide +kernel
theorem dX1_allBurials_1 : decode cX1_allBurials 1 = .ok (.istore_n 1, 1) := by decide +kernel
theorem dX1_allBurials_2 : decode cX1_allBurials 2 = .ok (.iconst 0, 1) := by decide +kernel
theorem dX1_allBurials_3 : decode cX1_allBurials 3 = .ok (.istore_n 2, 1) := by decide +kernel
theorem dX1_allBurials_4 : decode cX1_allBurials 4 = .ok (.iload_n 2, 1) := by decide +kernel
theorem dX1_allBurials_5 : decode cX1_allBurials 5 = .ok (.bipush 40, 2) := by decide +kernel
theorem dX1_allBurials_7 : decode cX1_allBurials 7 = .ok (.if_icmp .ge 17, 3) := by decide +kernel
theorem dX1_allBurials_10 : decode cX1_allBurials 10 = .ok (.iload_n 1, 1) := by decide +kernel
theorem dX1_allBurials_11 : decode cX1_allBurials 11 = .ok (.aload_n 0, 1) := by decide +kernel
theorem dX1_allBurials_12 : decode cX1_allBurials 12 = .ok (.iload_n 2, 1) := by decide +kernel
theorem dX1_allBurials_13 : decode cX1_allBurials 13 = .ok (.invokevirtual 58, 3) := by decide +kernel
theorem dX1_allBurials_16 : decode cX1_allBurials 16 = .ok (.iadd, 1) := by decide +kernel
theorem dX1_allBurials_17 : decode cX1_allBurials 17 = .ok (.istore_n 1, 1) := by decide +kernel
theorem dX1_allBurials_18 : decode cX1_allBurials 18 = .ok (.iinc 2 1, 3) := by decide +kernel
theorem dX1_allBurials_21 : decode cX1_allBurials 21 = .ok (.goto (-17), 3) := by decide +kernel
theorem dX1_allBurials_24 : decode cX1_allBurials 24 = .ok (.iload_n 1, 1) := by decide +kernel
theorem dX1_allBurials_25 : decode cX1_allBurials 25 = .ok (.ireturn, 1) := by decide +kernel
theorem dX1_allRestingBurials_0 : decode cX1_allRestingBurials 0 = .ok (.iconst 0, 1) := by decide +kernel
theorem dX1_allRestingBurials_1 : decode cX1_allRestingBurials 1 = .ok (.istore_n 1, 1) := by decide +kernel
theorem dX1_allRestingBurials_2 : decode cX1_allRestingBurials 2 = .ok (.iconst 0, 1) := by decide +kernel
theorem dX1_allRestingBurials_3 : decode cX1_allRestingBurials 3 = .ok (.istore_n 2, 1) := by decide +kernel
theorem dX1_allRestingBurials_4 : decode cX1_allRestingBurials 4 = .ok (.iload_n 2, 1) := by decide +kernel
theorem dX1_allRestingBurials_5 : decode cX1_allRestingBurials 5 = .ok (.bipush 40, 2) := by decide +kernel
theorem dX1_allRestingBurials_7 : decode cX1_allRestingBurials 7 = .ok (.if_icmp .ge 17, 3) := by decide +kernel
theorem dX1_allRestingBurials_10 : decode cX1_allRestingBurials 10 = .ok (.iload_n 1, 1) := by decide +kernel
theorem dX1_allRestingBurials_11 : decode cX1_allRestingBurials 11 = .ok (.aload_n 0, 1) := by decide +kernel
theorem dX1_allRestingBurials_12 : decode cX1_allRestingBurials 12 = .ok (.iload_n 2, 1) := by decide +kernel
theorem dX1_allRestingBurials_13 : decode cX1_allRestingBurials 13 = .ok (.invokevirtual 162, 3) := by decide +kernel
theorem dX1_allRestingBurials_16 : decode cX1_allRestingBurials 16 = .ok (.iadd, 1) := by decide +kernel
theorem dX1_allRestingBurials_17 : decode cX1_allRestingBurials 17 = .ok (.istore_n 1, 1) := by decide +kernel
theorem dX1_allRestingBurials_18 : decode cX1_allRestingBurials 18 = .ok (.iinc 2 1, 3) := by decide +kernel
theorem dX1_allRestingBurials_21 : decode cX1_allRestingBurials 21 = .ok (.goto (-17), 3) := by decide +kernel
theorem dX1_allRestingBurials_24 : decode cX1_allRestingBurials 24 = .ok (.iload_n 1, 1) := by decide +kernel
theorem dX1_allRestingBurials_25 : decode cX1_allRestingBurials 25 = .ok (.ireturn, 1) := by decide +kernel
theorem dX1_lastingReservations_0 : decode cX1_lastingReservations 0 = .ok (.iconst 0, 1) := by decide +kernel
theorem dX1_lastingReservations_1 : decode cX1_lastingReservations 1 = .ok (.istore_n 1, 1) := by decide +kernel
theorem dX1_lastingReservations_2 : decode cX1_lastingReservations 2 = .ok (.iconst 0, 1) := by decide +kernel
theorem dX1_lastingReservations_3 : decode cX1_lastingReservations 3 = .ok (.istore_n 2, 1) := by decide +kernel
theorem dX1_lastingReservations_4 : decode cX1_lastingReservations 4 = .ok (.iload_n 2, 1) := by decide +kernel
theorem dX1_lastingReservations_5 : decode cX1_lastingReservations 5 = .ok (.bipush 40, 2) := by decide +kernel
theorem dX1_lastingReservations_7 : decode cX1_lastingReservations 7 = .ok (.if_icmp .ge 24, 3) := by decide +kernel
theorem dX1_lastingReservations_10 : decode cX1_lastingReservations 10 = .ok (.aload_n 0, 1) := by decide +kernel
theorem dX1_lastingReservations_11 : decode cX1_lastingReservations 11 = .ok (.iload_n 2, 1) := by decide +kernel
theorem dX1_lastingReservations_12 : decode cX1_lastingReservations 12 = .ok (.aload_n 0, 1) := by decide +kernel
theorem dX1_lastingReservations_13 : decode cX1_lastingReservations 13 = .ok (.getfield 9, 3) := by decide +kernel
theorem dX1_lastingReservations_16 : decode cX1_lastingReservations 16 = .ok (.invokevirtual 108, 3) := by decide +kernel
theorem dX1_lastingReservations_19 : decode cX1_lastingReservations 19 = .ok (.ifCond .eq 6, 3) := by decide +kernel
theorem dX1_lastingReservations_22 : decode cX1_lastingReservations 22 = .ok (.iinc 1 1, 3) := by decide +kernel
theorem dX1_lastingReservations_25 : decode cX1_lastingReservations 25 = .ok (.iinc 2 1, 3) := by decide +kernel
theorem dX1_lastingReservations_28 : decode cX1_lastingReservations 28 = .ok (.goto (-24), 3) := by decide +kernel
theorem dX1_lastingReservations_31 : decode cX1_lastingReservations 31 = .ok (.iload_n 1, 1) := by decide +kernel
theorem dX1_lastingReservations_32 : decode cX1_lastingReservations 32 = .ok (.ireturn, 1) := by decide +kernel
theorem dX1_allVaults_0 : decode cX1_allVaults 0 = .ok (.iconst 0, 1) := by decide +kernel
theorem dX1_allVaults_1 : decode cX1_allVaults 1 = .ok (.istore_n 1, 1) := by decide +kernel
theorem dX1_allVaults_2 : decode cX1_allVaults 2 = .ok (.iconst 0, 1) := by decide +kernel
theorem dX1_allVaults_3 : decode cX1_allVaults 3 = .ok (.istore_n 2, 1) := by decide +kernel
theorem dX1_allVaults_4 : decode cX1_allVaults 4 = .ok (.iload_n 2, 1) := by decide +kernel
theorem dX1_allVaults_5 : decode cX1_allVaults 5 = .ok (.bipush 10, 2) := by decide +kernel
theorem dX1_allVaults_7 : decode cX1_allVaults 7 = .ok (.if_icmp .ge 17, 3) := by decide +kernel
theorem dX1_allVaults_10 : decode cX1_allVaults 10 = .ok (.iload_n 1, 1) := by decide +kernel
theorem dX1_allVaults_11 : decode cX1_allVaults 11 = .ok (.aload_n 0, 1) := by decide +kernel
theorem dX1_allVaults_12 : decode cX1_allVaults 12 = .ok (.iload_n 2, 1) := by decide +kernel
theorem dX1_allVaults_13 : decode cX1_allVaults 13 = .ok (.invokevirtual 171, 3) := by decide +kernel
theorem dX1_allVaults_16 : decode cX1_allVaults 16 = .ok (.iadd, 1) := by decide +kernel
theorem dX1_allVaults_17 : decode cX1_allVaults 17 = .ok (.istore_n 1, 1) := by decide +kernel
theorem dX1_allVaults_18 : decode cX1_allVaults 18 = .ok (.iinc 2 1, 3) := by decide +kernel
theorem dX1_allVaults_21 : decode cX1_allVaults 21 = .ok (.goto (-17), 3) := by decide +kernel
theorem dX1_allVaults_24 : decode cX1_allVaults 24 = .ok (.iload_n 1, 1) := by decide +kernel
theorem dX1_allVaults_25 : decode cX1_allVaults 25 = .ok (.ireturn, 1) := by decide +kernel
theorem dX1_allPaid_0 : decode cX1_allPaid 0 = .ok (.iconst 0, 1) := by decide +kernel
theorem dX1_allPaid_1 : decode cX1_allPaid 1 = .ok (.istore_n 1, 1) := by decide +kernel
theorem dX1_allPaid_2 : decode cX1_allPaid 2 = .ok (.iconst 0, 1) := by decide +kernel
theorem dX1_allPaid_3 : decode cX1_allPaid 3 = .ok (.istore_n 2, 1) := by decide +kernel
theorem dX1_allPaid_4 : decode cX1_allPaid 4 = .ok (.iload_n 2, 1) := by decide +kernel
theorem dX1_allPaid_5 : decode cX1_allPaid 5 = .ok (.bipush 10, 2) := by decide +kernel
theorem dX1_allPaid_7 : decode cX1_allPaid 7 = .ok (.if_icmp .ge 18, 3) := by decide +kernel
theorem dX1_allPaid_10 : decode cX1_allPaid 10 = .ok (.iload_n 1, 1) := by decide +kernel
theorem dX1_allPaid_11 : decode cX1_allPaid 11 = .ok (.aload_n 0, 1) := by decide +kernel
theorem dX1_allPaid_12 : decode cX1_allPaid 12 = .ok (.getfield 19, 3) := by decide +kernel
theorem dX1_allPaid_15 : decode cX1_allPaid 15 = .ok (.iload_n 2, 1) := by decide +kernel
theorem dX1_allPaid_16 : decode cX1_allPaid 16 = .ok (.iaload, 1) := by decide +kernel
theorem dX1_allPaid_17 : decode cX1_allPaid 17 = .ok (.iadd, 1) := by decide +kernel
theorem dX1_allPaid_18 : decode cX1_allPaid 18 = .ok (.istore_n 1, 1) := by decide +kernel
theorem dX1_allPaid_19 : decode cX1_allPaid 19 = .ok (.iinc 2 1, 3) := by decide +kernel
theorem dX1_allPaid_22 : decode cX1_allPaid 22 = .ok (.goto (-18), 3) := by decide +kernel
theorem dX1_allPaid_25 : decode cX1_allPaid 25 = .ok (.iload_n 1, 1) := by decide +kernel
theorem dX1_allPaid_26 : decode cX1_allPaid 26 = .ok (.ireturn, 1) := by decide +kernel
theorem dX1_meanOfFees_0 : decode cX1_meanOfFees 0 = .ok (.aload_n 0, 1) := by decide +kernel
theorem dX1_meanOfFees_1 : decode cX1_meanOfFees 1 = .ok (.invokevirtual 174, 3) := by decide +kernel
theorem dX1_meanOfFees_4 : decode cX1_meanOfFees 4 = .ok (.istore_n 1, 1) := by decide +kernel
theorem dX1_meanOfFees_5 : decode cX1_meanOfFees 5 = .ok (.iload_n 1, 1) := by decide +kernel
theorem dX1_meanOfFees_6 : decode cX1_meanOfFees 6 = .ok (.ifCond .ne 5, 3) := by decide +kernel
theorem dX1_meanOfFees_9 : decode cX1_meanOfFees 9 = .ok (.dconst 0, 1) := by decide +kernel
theorem dX1_meanOfFees_10 : decode cX1_meanOfFees 10 = .ok (.dreturn, 1) := by decide +kernel
theorem dX1_meanOfFees_11 : decode cX1_meanOfFees 11 = .ok (.iconst 0, 1) := by decide +kernel
theorem dX1_meanOfFees_12 : decode cX1_meanOfFees 12 = .ok (.istore_n 2, 1) := by decide +kernel
theorem dX1_meanOfFees_13 : decode cX1_meanOfFees 13 = .ok (.iconst 0, 1) := by decide +kernel
theorem dX1_meanOfFees_14 : decode cX1_meanOfFees 14 = .ok (.istore_n 3, 1) := by decide +kernel
theorem dX1_meanOfFees_15 : decode cX1_meanOfFees 15 = .ok (.iload_n 3, 1) := by decide +kernel
theorem dX1_meanOfFees_16 : decode cX1_meanOfFees 16 = .ok (.bipush 120, 2) := by decide +kernel
theorem dX1_meanOfFees_18 : decode cX1_meanOfFees 18 = .ok (.if_icmp .ge 28, 3) := by decide +kernel
theorem dX1_meanOfFees_21 : decode cX1_meanOfFees 21 = .ok (.aload_n 0, 1) := by decide +kernel
theorem dX1_meanOfFees_22 : decode cX1_meanOfFees 22 = .ok (.getfield 37, 3) := by decide +kernel
theorem dX1_meanOfFees_25 : decode cX1_meanOfFees 25 = .ok (.iload_n 3, 1) := by decide +kernel
theorem dX1_meanOfFees_26 : decode cX1_meanOfFees 26 = .ok (.iaload, 1) := by decide +kernel
theorem dX1_meanOfFees_27 : decode cX1_meanOfFees 27 = .ok (.iconst (-1), 1) := by decide +kernel
theorem dX1_meanOfFees_28 : decode cX1_meanOfFees 28 = .ok (.if_icmp .eq 12, 3) := by decide +kernel
theorem dX1_meanOfFees_31 : decode cX1_meanOfFees 31 = .ok (.iload_n 2, 1) := by decide +kernel
theorem dX1_meanOfFees_32 : decode cX1_meanOfFees 32 = .ok (.aload_n 0, 1) := by decide +kernel
theorem dX1_meanOfFees_33 : decode cX1_meanOfFees 33 = .ok (.getfield 43, 3) := by decide +kernel
theorem dX1_meanOfFees_36 : decode cX1_meanOfFees 36 = .ok (.iload_n 3, 1) := by decide +kernel
theorem dX1_meanOfFees_37 : decode cX1_meanOfFees 37 = .ok (.iaload, 1) := by decide +kernel
theorem dX1_meanOfFees_38 : decode cX1_meanOfFees 38 = .ok (.iadd, 1) := by decide +kernel
theorem dX1_meanOfFees_39 : decode cX1_meanOfFees 39 = .ok (.istore_n 2, 1) := by decide +kernel
theorem dX1_meanOfFees_40 : decode cX1_meanOfFees 40 = .ok (.iinc 3 1, 3) := by decide +kernel
theorem dX1_meanOfFees_43 : decode cX1_meanOfFees 43 = .ok (.goto (-28), 3) := by decide +kernel
theorem dX1_meanOfFees_46 : decode cX1_meanOfFees 46 = .ok (.iload_n 2, 1) := by decide +kernel
theorem dX1_meanOfFees_47 : decode cX1_meanOfFees 47 = .ok (.i2d, 1) := by decide +kernel
theorem dX1_meanOfFees_48 : decode cX1_meanOfFees 48 = .ok (.iload_n 1, 1) := by decide +kernel
theorem dX1_meanOfFees_49 : decode cX1_meanOfFees 49 = .ok (.i2d, 1) := by decide +kernel
theorem dX1_meanOfFees_50 : decode cX1_meanOfFees 50 = .ok (.ddiv, 1) := by decide +kernel
theorem dX1_meanOfFees_51 : decode cX1_meanOfFees 51 = .ok (.dreturn, 1) := by decide +kernel

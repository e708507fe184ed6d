theorem dX3_bury_63 : decode cX3_bury 63 = .ok (.invokevirtual 118, 3) := by decide +kernel
theorem dX3_bury_66 : decode cX3_bury 66 = .ok (.ireturn, 1) := by decide +kernel
theorem dX3_mayReserve_0 : decode cX3_mayReserve 0 = .ok (.aload_n 0, 1) := by decide +kernel
theorem dX3_mayReserve_1 : decode cX3_mayReserve 1 = .ok (.getfield 7, 3) := by decide +kernel
theorem dX3_mayReserve_4 : decode cX3_mayReserve 4 = .ok (.iload_n 2, 1) := by decide +kernel
theorem dX3_mayReserve_5 : decode cX3_mayReserve 5 = .ok (.iaload, 1) := by decide +kernel
theorem dX3_mayReserve_6 : decode cX3_mayReserve 6 = .ok (.iconst 3, 1) := by decide +kernel
theorem dX3_mayReserve_7 : decode cX3_mayReserve 7 = .ok (.if_icmp .eq 29, 3) := by decide +kernel
theorem dX3_mayReserve_10 : decode cX3_mayReserve 10 = .ok (.aload_n 0, 1) := by decide +kernel
theorem dX3_mayReserve_11 : decode cX3_mayReserve 11 = .ok (.getfield 7, 3) := by decide +kernel
theorem dX3_mayReserve_14 : decode cX3_mayReserve 14 = .ok (.bipush 40, 2) := by decide +kernel
theorem dX3_mayReserve_16 : decode cX3_mayReserve 16 = .ok (.iload_n 2, 1) := by decide +kernel
theorem dX3_mayReserve_17 : decode cX3_mayReserve 17 = .ok (.iadd, 1) := by decide +kernel
theorem dX3_mayReserve_18 : decode cX3_mayReserve 18 = .ok (.iaload, 1) := by decide +kernel
theorem dX3_mayReserve_19 : decode cX3_mayReserve 19 = .ok (.iconst (-1), 1) := by decide +kernel
theorem dX3_mayReserve_20 : decode cX3_mayReserve 20 = .ok (.if_icmp .ne 16, 3) := by decide +kernel
theorem dX3_mayReserve_23 : decode cX3_mayReserve 23 = .ok (.aload_n 0, 1) := by decide +kernel
theorem dX3_mayReserve_24 : decode cX3_mayReserve 24 = .ok (.iload_n 1, 1) := by decide +kernel
theorem dX3_mayReserve_25 : decode cX3_mayReserve 25 = .ok (.iload_n 2, 1) := by decide +kernel
theorem dX3_mayReserve_26 : decode cX3_mayReserve 26 = .ok (.invokevirtual 70, 3) := by decide +kernel
theorem dX3_mayReserve_29 : decode cX3_mayReserve 29 = .ok (.ifCond .ne 7, 3) := by decide +kernel
theorem dX3_mayReserve_32 : decode cX3_mayReserve 32 = .ok (.iconst 1, 1) := by decide +kernel
theorem dX3_mayReserve_33 : decode cX3_mayReserve 33 = .ok (.goto 4, 3) := by decide +kernel
theorem dX3_mayReserve_36 : decode cX3_mayReserve 36 = .ok (.iconst 0, 1) := by decide +kernel
theorem dX3_mayReserve_37 : decode cX3_mayReserve 37 = .ok (.ireturn, 1) := by decide +kernel
theorem dX3_reserves_0 : decode cX3_reserves 0 = .ok (.aload_n 0, 1) := by decide +kernel
theorem dX3_reserves_1 : decode cX3_reserves 1 = .ok (.getfield 7, 3) := by decide +kernel
theorem dX3_reserves_4 : decode cX3_reserves 4 = .ok (.bipush 120, 2) := by decide +kernel
theorem dX3_reserves_6 : decode cX3_reserves 6 = .ok (.iload_n 2, 1) := by decide +kernel
theorem dX3_reserves_7 : decode cX3_reserves 7 = .ok (.iadd, 1) := by decide +kernel
theorem dX3_reserves_8 : decode cX3_reserves 8 = .ok (.aload_n 0, 1) := by decide +kernel
theorem dX3_reserves_9 : decode cX3_reserves 9 = .ok (.iload_n 2, 1) := by decide +kernel
theorem dX3_reserves_10 : decode cX3_reserves 10 = .ok (.invokevirtual 56, 3) := by decide +kernel
theorem dX3_reserves_13 : decode cX3_reserves 13 = .ok (.ifCond .eq 17, 3) := by decide +kernel
theorem dX3_reserves_16 : decode cX3_reserves 16 = .ok (.aload_n 0, 1) := by decide +kernel
theorem dX3_reserves_17 : decode cX3_reserves 17 = .ok (.getfield 7, 3) := by decide +kernel
theorem dX3_reserves_20 : decode cX3_reserves 20 = .ok (.bipush 120, 2) := by decide +kernel
theorem dX3_reserves_22 : decode cX3_reserves 22 = .ok (.iload_n 2, 1) := by decide +kernel
theorem dX3_reserves_23 : decode cX3_reserves 23 = .ok (.iadd, 1) := by decide +kernel
theorem dX3_reserves_24 : decode cX3_reserves 24 = .ok (.iaload, 1) := by decide +kernel
theorem dX3_reserves_25 : decode cX3_reserves 25 = .ok (.iload_n 3, 1) := by decide +kernel
theorem dX3_reserves_26 : decode cX3_reserves 26 = .ok (.iadd, 1) := by decide +kernel
theorem dX3_reserves_27 : decode cX3_reserves 27 = .ok (.goto 13, 3) := by decide +kernel
theorem dX3_reserves_30 : decode cX3_reserves 30 = .ok (.aload_n 0, 1) := by decide +kernel
theorem dX3_reserves_31 : decode cX3_reserves 31 = .ok (.getfield 7, 3) := by decide +kernel
theorem dX3_reserves_34 : decode cX3_reserves 34 = .ok (.sipush 550, 3) := by decide +kernel
theorem dX3_reserves_37 : decode cX3_reserves 37 = .ok (.iaload, 1) := by decide +kernel
theorem dX3_reserves_38 : decode cX3_reserves 38 = .ok (.iload_n 3, 1) := by decide +kernel
theorem dX3_reserves_39 : decode cX3_reserves 39 = .ok (.iadd, 1) := by decide +kernel
theorem dX3_reserves_40 : decode cX3_reserves 40 = .ok (.iastore, 1) := by decide +kernel
theorem dX3_reserves_41 : decode cX3_reserves 41 = .ok (.aload_n 0, 1) := by decide +kernel
theorem dX3_reserves_42 : decode cX3_reserves 42 = .ok (.getfield 7, 3) := by decide +kernel
theorem dX3_reserves_45 : decode cX3_reserves 45 = .ok (.bipush 80, 2) := by decide +kernel
theorem dX3_reserves_47 : decode cX3_reserves 47 = .ok (.iload_n 2, 1) := by decide +kernel
theorem dX3_reserves_48 : decode cX3_reserves 48 = .ok (.iadd, 1) := by decide +kernel
theorem dX3_reserves_49 : decode cX3_reserves 49 = .ok (.iload_n 1, 1) := by decide +kernel
theorem dX3_reserves_50 : decode cX3_reserves 50 = .ok (.iastore, 1) := by decide +kernel
theorem dX3_reserves_51 : decode cX3_reserves 51 = .ok (.aload_n 0, 1) := by decide +kernel
theorem dX3_reserves_52 : decode cX3_reserves 52 = .ok (.getfield 7, 3) := by decide +kernel
theorem dX3_reserves_55 : decode cX3_reserves 55 = .ok (.sipush 520, 3) := by decide +kernel
theorem dX3_reserves_58 : decode cX3_reserves 58 = .ok (.iload_n 1, 1) := by decide +kernel
theorem dX3_reserves_59 : decode cX3_reserves 59 = .ok (.iadd, 1) := by decide +kernel
theorem dX3_reserves_60 : decode cX3_reserves 60 = .ok (.iaload, 1) := by decide +kernel
theorem dX3_reserves_61 : decode cX3_reserves 61 = .ok (.iconst 1, 1) := by decide +kernel
theorem dX3_reserves_62 : decode cX3_reserves 62 = .ok (.if_icmp .ne 9, 3) := by decide +kernel
theorem dX3_reserves_65 : decode cX3_reserves 65 = .ok (.iconst 2, 1) := by decide +kernel
theorem dX3_reserves_66 : decode cX3_reserves 66 = .ok (.iload_n 3, 1) := by decide +kernel
theorem dX3_reserves_67 : decode cX3_reserves 67 = .ok (.imul, 1) := by decide +kernel
theorem dX3_reserves_68 : decode cX3_reserves 68 = .ok (.goto 6, 3) := by decide +kernel
theorem dX3_reserves_71 : decode cX3_reserves 71 = .ok (.iconst 4, 1) := by decide +kernel
theorem dX3_reserves_72 : decode cX3_reserves 72 = .ok (.iload_n 3, 1) := by decide +kernel
theorem dX3_reserves_73 : decode cX3_reserves 73 = .ok (.imul, 1) := by decide +kernel
theorem dX3_reserves_74 : decode cX3_reserves 74 = .ok (.istore 4, 2) := by decide +kernel
theorem dX3_reserves_76 : decode cX3_reserves 76 = .ok (.aload_n 0, 1) := by decide +kernel
theorem dX3_reserves_77 : decode cX3_reserves 77 = .ok (.getfield 7, 3) := by decide +kernel
theorem dX3_reserves_80 : decode cX3_reserves 80 = .ok (.sipush 530, 3) := by decide +kernel
theorem dX3_reserves_83 : decode cX3_reserves 83 = .ok (.iload_n 1, 1) := by decide +kernel
theorem dX3_reserves_84 : decode cX3_reserves 84 = .ok (.iadd, 1) := by decide +kernel
theorem dX3_reserves_85 : decode cX3_reserves 85 = .ok (.dup2, 1) := by decide +kernel
theorem dX3_reserves_86 : decode cX3_reserves 86 = .ok (.iaload, 1) := by decide +kernel
theorem dX3_reserves_87 : decode cX3_reserves 87 = .ok (.iload 4, 2) := by decide +kernel
theorem dX3_reserves_89 : decode cX3_reserves 89 = .ok (.iadd, 1) := by decide +kernel
theorem dX3_reserves_90 : decode cX3_reserves 90 = .ok (.iastore, 1) := by decide +kernel
theorem dX3_reserves_91 : decode cX3_reserves 91 = .ok (.iload 4, 2) := by decide +kernel
theorem dX3_reserves_93 : decode cX3_reserves 93 = .ok (.ireturn, 1) := by decide +kernel
theorem dX3_reserve_0 : decode cX3_reserve 0 = .ok (.aload_n 0, 1) := by decide +kernel
theorem dX3_reserve_1 : decode cX3_reserve 1 = .ok (.invokevirtual 92, 3) := by decide +kernel
theorem dX3_reserve_4 : decode cX3_reserve 4 = .ok (.iload_n 1, 1) := by decide +kernel
theorem dX3_reserve_5 : decode cX3_reserve 5 = .ok (.invokestatic 105, 3) := by decide +kernel
theorem dX3_reserve_8 : decode cX3_reserve 8 = .ok (.ifCond .eq 10, 3) := by decide +kernel
theorem dX3_reserve_11 : decode cX3_reserve 11 = .ok (.iload_n 2, 1) := by decide +kernel
theorem dX3_reserve_12 : decode cX3_reserve 12 = .ok (.invokestatic 112, 3) := by decide +kernel
theorem dX3_reserve_15 : decode cX3_reserve 15 = .ok (.ifCond .ne 9, 3) := by decide +kernel
theorem dX3_reserve_18 : decode cX3_reserve 18 = .ok (.aload_n 0, 1) := by decide +kernel
theorem dX3_reserve_19 : decode cX3_reserve 19 = .ok (.iconst 1, 1) := by decide +kernel
theorem dX3_reserve_20 : decode cX3_reserve 20 = .ok (.invokevirtual 95, 3) := by decide +kernel
theorem dX3_reserve_23 : decode cX3_reserve 23 = .ok (.ireturn, 1) := by decide +kernel
theorem dX3_reserve_24 : decode cX3_reserve 24 = .ok (.iload_n 3, 1) := by decide +kernel
theorem dX3_reserve_25 : decode cX3_reserve 25 = .ok (.iconst 1, 1) := by decide +kernel
theorem dX3_reserve_26 : decode cX3_reserve 26 = .ok (.bipush 50, 2) := by decide +kernel
theorem dX3_reserve_28 : decode cX3_reserve 28 = .ok (.invokestatic 41, 3) := by decide +kernel
theorem dX3_reserve_31 : decode cX3_reserve 31 = .ok (.ifCond .ne 9, 3) := by decide +kernel
theorem dX3_reserve_34 : decode cX3_reserve 34 = .ok (.aload_n 0, 1) := by decide +kernel
theorem dX3_reserve_35 : decode cX3_reserve 35 = .ok (.iconst 2, 1) := by decide +kernel
theorem dX3_reserve_36 : decode cX3_reserve 36 = .ok (.invokevirtual 95, 3) := by decide +kernel
theorem dX3_reserve_39 : decode cX3_reserve 39 = .ok (.ireturn, 1) := by decide +kernel
theorem dX3_reserve_40 : decode cX3_reserve 40 = .ok (.aload_n 0, 1) := by decide +kernel
theorem dX3_reserve_41 : decode cX3_reserve 41 = .ok (.iload_n 1, 1) := by decide +kernel
theorem dX3_reserve_42 : decode cX3_reserve 42 = .ok (.iload_n 2, 1) := by decide +kernel
theorem dX3_reserve_43 : decode cX3_reserve 43 = .ok (.invokevirtual 121, 3) := by decide +kernel
theorem dX3_reserve_46 : decode cX3_reserve 46 = .ok (.ifCond .ne 9, 3) := by decide +kernel
theorem dX3_reserve_49 : decode cX3_reserve 49 = .ok (.aload_n 0, 1) := by decide +kernel
theorem dX3_reserve_50 : decode cX3_reserve 50 = .ok (.iconst 3, 1) := by decide +kernel
theorem dX3_reserve_51 : decode cX3_reserve 51 = .ok (.invokevirtual 95, 3) := by decide +kernel
theorem dX3_reserve_54 : decode cX3_reserve 54 = .ok (.ireturn, 1) := by decide +kernel
theorem dX3_reserve_55 : decode cX3_reserve 55 = .ok (.aload_n 0, 1) := by decide +kernel
theorem dX3_reserve_56 : decode cX3_reserve 56 = .ok (.invokevirtual 98, 3) := by decide +kernel
theorem dX3_reserve_59 : decode cX3_reserve 59 = .ok (.aload_n 0, 1) := by decide +kernel
theorem dX3_reserve_60 : decode cX3_reserve 60 = .ok (.iload_n 1, 1) := by decide +kernel
theorem dX3_reserve_61 : decode cX3_reserve 61 = .ok (.iload_n 2, 1) := by decide +kernel
theorem dX3_reserve_62 : decode cX3_reserve 62 = .ok (.iload_n 3, 1) := by decide +kernel
theorem dX3_reserve_63 : decode cX3_reserve 63 = .ok (.invokevirtual 124, 3) := by decide +kernel
theorem dX3_reserve_66 : decode cX3_reserve 66 = .ok (.ireturn, 1) := by decide +kernel
theorem dX3_buildVault_0 : decode cX3_buildVault 0 = .ok (.aload_n 0, 1) := by decide +kernel
theorem dX3_buildVault_1 : decode cX3_buildVault 1 = .ok (.invokevirtual 92, 3) := by decide +kernel
theorem dX3_buildVault_4 : decode cX3_buildVault 4 = .ok (.iload_n 1, 1) := by decide +kernel
theorem dX3_buildVault_5 : decode cX3_buildVault 5 = .ok (.invokestatic 105, 3) := by decide +kernel
theorem dX3_buildVault_8 : decode cX3_buildVault 8 = .ok (.ifCond .eq 10, 3) := by decide +kernel
theorem dX3_buildVault_11 : decode cX3_buildVault 11 = .ok (.iload_n 2, 1) := by decide +kernel
theorem dX3_buildVault_12 : decode cX3_buildVault 12 = .ok (.invokestatic 112, 3) := by decide +kernel
theorem dX3_buildVault_15 : decode cX3_buildVault 15 = .ok (.ifCond .ne 9, 3) := by decide +kernel
theorem dX3_buildVault_18 : decode cX3_buildVault 18 = .ok (.aload_n 0, 1) := by decide +kernel
theorem dX3_buildVault_19 : decode cX3_buildVault 19 = .ok (.iconst 1, 1) := by decide +kernel
theorem dX3_buildVault_20 : decode cX3_buildVault 20 = .ok (.invokevirtual 95, 3) := by decide +kernel
theorem dX3_buildVault_23 : decode cX3_buildVault 23 = .ok (.ireturn, 1) := by decide +kernel
theorem dX3_buildVault_24 : decode cX3_buildVault 24 = .ok (.aload_n 0, 1) := by decide +kernel
theorem dX3_buildVault_25 : decode cX3_buildVault 25 = .ok (.getfield 7, 3) := by decide +kernel
theorem dX3_buildVault_28 : decode cX3_buildVault 28 = .ok (.iload_n 2, 1) := by decide +kernel
theorem dX3_buildVault_29 : decode cX3_buildVault 29 = .ok (.iaload, 1) := by decide +kernel
theorem dX3_buildVault_30 : decode cX3_buildVault 30 = .ok (.iconst 3, 1) := by decide +kernel
theorem dX3_buildVault_31 : decode cX3_buildVault 31 = .ok (.if_icmp .eq 38, 3) := by decide +kernel
theorem dX3_buildVault_34 : decode cX3_buildVault 34 = .ok (.aload_n 0, 1) := by decide +kernel
theorem dX3_buildVault_35 : decode cX3_buildVault 35 = .ok (.getfield 7, 3) := by decide +kernel
theorem dX3_buildVault_38 : decode cX3_buildVault 38 = .ok (.iload_n 2, 1) := by decide +kernel
theorem dX3_buildVault_39 : decode cX3_buildVault 39 = .ok (.iaload, 1) := by decide +kernel
theorem dX3_buildVault_40 : decode cX3_buildVault 40 = .ok (.iconst 2, 1) := by decide +kernel
theorem dX3_buildVault_41 : decode cX3_buildVault 41 = .ok (.if_icmp .eq 28, 3) := by decide +kernel
theorem dX3_buildVault_44 : decode cX3_buildVault 44 = .ok (.aload_n 0, 1) := by decide +kernel
theorem dX3_buildVault_45 : decode cX3_buildVault 45 = .ok (.getfield 7, 3) := by decide +kernel
theorem dX3_buildVault_48 : decode cX3_buildVault 48 = .ok (.bipush 40, 2) := by decide +kernel
theorem dX3_buildVault_50 : decode cX3_buildVault 50 = .ok (.iload_n 2, 1) := by decide +kernel
theorem dX3_buildVault_51 : decode cX3_buildVault 51 = .ok (.iadd, 1) := by decide +kernel
theorem dX3_buildVault_52 : decode cX3_buildVault 52 = .ok (.iaload, 1) := by decide +kernel
theorem dX3_buildVault_53 : decode cX3_buildVault 53 = .ok (.iconst (-1), 1) := by decide +kernel
theorem dX3_buildVault_54 : decode cX3_buildVault 54 = .ok (.if_icmp .ne 15, 3) := by decide +kernel
theorem dX3_buildVault_57 : decode cX3_buildVault 57 = .ok (.aload_n 0, 1) := by decide +kernel
theorem dX3_buildVault_58 : decode cX3_buildVault 58 = .ok (.iload_n 2, 1) := by decide +kernel
theorem dX3_buildVault_59 : decode cX3_buildVault 59 = .ok (.invokevirtual 67, 3) := by decide +kernel
theorem dX3_buildVault_62 : decode cX3_buildVault 62 = .ok (.ifCond .ne 7, 3) := by decide +kernel
theorem dX3_buildVault_65 : decode cX3_buildVault 65 = .ok (.iconst 1, 1) := by decide +kernel
theorem dX3_buildVault_66 : decode cX3_buildVault 66 = .ok (.goto 4, 3) := by decide +kernel
theorem dX3_buildVault_69 : decode cX3_buildVault 69 = .ok (.iconst 0, 1) := by decide +kernel
theorem dX3_buildVault_70 : decode cX3_buildVault 70 = .ok (.istore_n 3, 1) := by decide +kernel
theorem dX3_buildVault_71 : decode cX3_buildVault 71 = .ok (.iload_n 3, 1) := by decide +kernel
theorem dX3_buildVault_72 : decode cX3_buildVault 72 = .ok (.ifCond .eq 20, 3) := by decide +kernel
theorem dX3_buildVault_75 : decode cX3_buildVault 75 = .ok (.aload_n 0, 1) := by decide +kernel
theorem dX3_buildVault_76 : decode cX3_buildVault 76 = .ok (.iload_n 1, 1) := by decide +kernel
theorem dX3_buildVault_77 : decode cX3_buildVault 77 = .ok (.iload_n 2, 1) := by decide +kernel
theorem dX3_buildVault_78 : decode cX3_buildVault 78 = .ok (.invokevirtual 70, 3) := by decide +kernel
theorem dX3_buildVault_81 : decode cX3_buildVault 81 = .ok (.ifCond .ne 11, 3) := by decide +kernel
theorem dX3_buildVault_84 : decode cX3_buildVault 84 = .ok (.aload_n 0, 1) := by decide +kernel
theorem dX3_buildVault_85 : decode cX3_buildVault 85 = .ok (.iload_n 2, 1) := by decide +kernel
theorem dX3_buildVault_86 : decode cX3_buildVault 86 = .ok (.invokevirtual 79, 3) := by decide +kernel
theorem dX3_buildVault_89 : decode cX3_buildVault 89 = .ok (.ifCond .ne 9, 3) := by decide +kernel
theorem dX3_buildVault_92 : decode cX3_buildVault 92 = .ok (.aload_n 0, 1) := by decide +kernel
theorem dX3_buildVault_93 : decode cX3_buildVault 93 = .ok (.iconst 2, 1) := by decide +kernel
theorem dX3_buildVault_94 : decode cX3_buildVault 94 = .ok (.invokevirtual 95, 3) := by decide +kernel
theorem dX3_buildVault_97 : decode cX3_buildVault 97 = .ok (.ireturn, 1) := by decide +kernel
theorem dX3_buildVault_98 : decode cX3_buildVault 98 = .ok (.aload_n 0, 1) := by decide +kernel
theorem dX3_buildVault_99 : decode cX3_buildVault 99 = .ok (.invokevirtual 98, 3) := by decide +kernel
theorem dX3_buildVault_102 : decode cX3_buildVault 102 = .ok (.aload_n 0, 1) := by decide +kernel
theorem dX3_buildVault_103 : decode cX3_buildVault 103 = .ok (.getfield 7, 3) := by decide +kernel
theorem dX3_buildVault_106 : decode cX3_buildVault 106 = .ok (.bipush 40, 2) := by decide +kernel
theorem dX3_buildVault_108 : decode cX3_buildVault 108 = .ok (.iload_n 2, 1) := by decide +kernel
theorem dX3_buildVault_109 : decode cX3_buildVault 109 = .ok (.iadd, 1) := by decide +kernel
theorem dX3_buildVault_110 : decode cX3_buildVault 110 = .ok (.iload_n 1, 1) := by decide +kernel
theorem dX3_buildVault_111 : decode cX3_buildVault 111 = .ok (.iastore, 1) := by decide +kernel
theorem dX3_buildVault_112 : decode cX3_buildVault 112 = .ok (.aload_n 0, 1) := by decide +kernel
theorem dX3_buildVault_113 : decode cX3_buildVault 113 = .ok (.getfield 7, 3) := by decide +kernel
theorem dX3_buildVault_116 : decode cX3_buildVault 116 = .ok (.bipush 80, 2) := by decide +kernel
theorem dX3_buildVault_118 : decode cX3_buildVault 118 = .ok (.iload_n 2, 1) := by decide +kernel
theorem dX3_buildVault_119 : decode cX3_buildVault 119 = .ok (.iadd, 1) := by decide +kernel
theorem dX3_buildVault_120 : decode cX3_buildVault 120 = .ok (.iconst (-1), 1) := by decide +kernel
theorem dX3_buildVault_121 : decode cX3_buildVault 121 = .ok (.iastore, 1) := by decide +kernel
theorem dX3_buildVault_122 : decode cX3_buildVault 122 = .ok (.aload_n 0, 1) := by decide +kernel
theorem dX3_buildVault_123 : decode cX3_buildVault 123 = .ok (.getfield 7, 3) := by decide +kernel
theorem dX3_buildVault_126 : decode cX3_buildVault 126 = .ok (.bipush 120, 2) := by decide +kernel
theorem dX3_buildVault_128 : decode cX3_buildVault 128 = .ok (.iload_n 2, 1) := by decide +kernel
theorem dX3_buildVault_129 : decode cX3_buildVault 129 = .ok (.iadd, 1) := by decide +kernel
theorem dX3_buildVault_130 : decode cX3_buildVault 130 = .ok (.iconst (-1), 1) := by decide +kernel
theorem dX3_buildVault_131 : decode cX3_buildVault 131 = .ok (.iastore, 1) := by decide +kernel
theorem dX3_buildVault_132 : decode cX3_buildVault 132 = .ok (.aload_n 0, 1) := by decide +kernel
theorem dX3_buildVault_133 : decode cX3_buildVault 133 = .ok (.getfield 7, 3) := by decide +kernel
theorem dX3_buildVault_136 : decode cX3_buildVault 136 = .ok (.sipush 520, 3) := by decide +kernel
theorem dX3_buildVault_139 : decode cX3_buildVault 139 = .ok (.iload_n 1, 1) := by decide +kernel
theorem dX3_buildVault_140 : decode cX3_buildVault 140 = .ok (.iadd, 1) := by decide +kernel
theorem dX3_buildVault_141 : decode cX3_buildVault 141 = .ok (.iaload, 1) := by decide +kernel
theorem dX3_buildVault_142 : decode cX3_buildVault 142 = .ok (.iconst 1, 1) := by decide +kernel
theorem dX3_buildVault_143 : decode cX3_buildVault 143 = .ok (.if_icmp .ne 8, 3) := by decide +kernel
theorem dX3_buildVault_146 : decode cX3_buildVault 146 = .ok (.bipush 100, 2) := by decide +kernel
theorem dX3_buildVault_148 : decode cX3_buildVault 148 = .ok (.goto 6, 3) := by decide +kernel
theorem dX3_buildVault_151 : decode cX3_buildVault 151 = .ok (.sipush 200, 3) := by decide +kernel
theorem dX3_buildVault_154 : decode cX3_buildVault 154 = .ok (.istore 4, 2) := by decide +kernel
theorem dX3_buildVault_156 : decode cX3_buildVault 156 = .ok (.aload_n 0, 1) := by decide +kernel
theorem dX3_buildVault_157 : decode cX3_buildVault 157 = .ok (.getfield 7, 3) := by decide +kernel
theorem dX3_buildVault_160 : decode cX3_buildVault 160 = .ok (.sipush 530, 3) := by decide +kernel
theorem dX3_buildVault_163 : decode cX3_buildVault 163 = .ok (.iload_n 1, 1) := by decide +kernel
theorem dX3_buildVault_164 : decode cX3_buildVault 164 = .ok (.iadd, 1) := by decide +kernel
theorem dX3_buildVault_165 : decode cX3_buildVault 165 = .ok (.dup2, 1) := by decide +kernel
theorem dX3_buildVault_166 : decode cX3_buildVault 166 = .ok (.iaload, 1) := by decide +kernel
theorem dX3_buildVault_167 : decode cX3_buildVault 167 = .ok (.iload 4, 2) := by decide +kernel
theorem dX3_buildVault_169 : decode cX3_buildVault 169 = .ok (.iadd, 1) := by decide +kernel
theorem dX3_buildVault_170 : decode cX3_buildVault 170 = .ok (.iastore, 1) := by decide +kernel
theorem dX3_buildVault_171 : decode cX3_buildVault 171 = .ok (.iload 4, 2) := by decide +kernel
theorem dX3_buildVault_173 : decode cX3_buildVault 173 = .ok (.ireturn, 1) := by decide +kernel
theorem dX3_clear_0 : decode cX3_clear 0 = .ok (.aload_n 0, 1) := by decide +kernel
theorem dX3_clear_1 : decode cX3_clear 1 = .ok (.invokevirtual 92, 3) := by decide +kernel
theorem dX3_clear_4 : decode cX3_clear 4 = .ok (.iload_n 1, 1) := by decide +kernel
theorem dX3_clear_5 : decode cX3_clear 5 = .ok (.invokestatic 112, 3) := by decide +kernel
theorem dX3_clear_8 : decode cX3_clear 8 = .ok (.ifCond .ne 9, 3) := by decide +kernel
theorem dX3_clear_11 : decode cX3_clear 11 = .ok (.aload_n 0, 1) := by decide +kernel
theorem dX3_clear_12 : decode cX3_clear 12 = .ok (.iconst 1, 1) := by decide +kernel
theorem dX3_clear_13 : decode cX3_clear 13 = .ok (.invokevirtual 95, 3) := by decide +kernel
theorem dX3_clear_16 : decode cX3_clear 16 = .ok (.ireturn, 1) := by decide +kernel
theorem dX3_clear_17 : decode cX3_clear 17 = .ok (.aload_n 0, 1) := by decide +kernel
theorem dX3_clear_18 : decode cX3_clear 18 = .ok (.iload_n 1, 1) := by decide +kernel
theorem dX3_clear_19 : decode cX3_clear 19 = .ok (.invokevirtual 127, 3) := by decide +kernel
theorem dX3_clear_22 : decode cX3_clear 22 = .ok (.ifCond .le 9, 3) := by decide +kernel
theorem dX3_clear_25 : decode cX3_clear 25 = .ok (.aload_n 0, 1) := by decide +kernel
theorem dX3_clear_26 : decode cX3_clear 26 = .ok (.iconst 2, 1) := by decide +kernel
theorem dX3_clear_27 : decode cX3_clear 27 = .ok (.invokevirtual 95, 3) := by decide +kernel
theorem dX3_clear_30 : decode cX3_clear 30 = .ok (.ireturn, 1) := by decide +kernel
theorem dX3_clear_31 : decode cX3_clear 31 = .ok (.aload_n 0, 1) := by decide +kernel
theorem dX3_clear_32 : decode cX3_clear 32 = .ok (.invokevirtual 98, 3) := by decide +kernel
theorem dX3_clear_35 : decode cX3_clear 35 = .ok (.aload_n 0, 1) := by decide +kernel
theorem dX3_clear_36 : decode cX3_clear 36 = .ok (.iload_n 1, 1) := by decide +kernel
theorem dX3_clear_37 : decode cX3_clear 37 = .ok (.invokevirtual 67, 3) := by decide +kernel
theorem dX3_clear_40 : decode cX3_clear 40 = .ok (.istore_n 2, 1) := by decide +kernel
theorem dX3_clear_41 : decode cX3_clear 41 = .ok (.iconst 3, 1) := by decide +kernel
theorem dX3_clear_42 : decode cX3_clear 42 = .ok (.iload_n 1, 1) := by decide +kernel
theorem dX3_clear_43 : decode cX3_clear 43 = .ok (.imul, 1) := by decide +kernel
theorem dX3_clear_44 : decode cX3_clear 44 = .ok (.istore_n 3, 1) := by decide +kernel
theorem dX3_clear_45 : decode cX3_clear 45 = .ok (.iload_n 3, 1) := by decide +kernel
theorem dX3_clear_46 : decode cX3_clear 46 = .ok (.iconst 3, 1) := by decide +kernel
theorem dX3_clear_47 : decode cX3_clear 47 = .ok (.iload_n 1, 1) := by decide +kernel
theorem dX3_clear_48 : decode cX3_clear 48 = .ok (.imul, 1) := by decide +kernel
theorem dX3_clear_49 : decode cX3_clear 49 = .ok (.iconst 3, 1) := by decide +kernel
theorem dX3_clear_50 : decode cX3_clear 50 = .ok (.iadd, 1) := by decide +kernel
theorem dX3_clear_51 : decode cX3_clear 51 = .ok (.if_icmp .ge 42, 3) := by decide +kernel
theorem dX3_clear_54 : decode cX3_clear 54 = .ok (.aload_n 0, 1) := by decide +kernel
theorem dX3_clear_55 : decode cX3_clear 55 = .ok (.getfield 7, 3) := by decide +kernel
theorem dX3_clear_58 : decode cX3_clear 58 = .ok (.sipush 160, 3) := by decide +kernel
theorem dX3_clear_61 : decode cX3_clear 61 = .ok (.iload_n 3, 1) := by decide +kernel
theorem dX3_clear_62 : decode cX3_clear 62 = .ok (.iadd, 1) := by decide +kernel
theorem dX3_clear_63 : decode cX3_clear 63 = .ok (.iconst (-1), 1) := by decide +kernel
theorem dX3_clear_64 : decode cX3_clear 64 = .ok (.iastore, 1) := by decide +kernel
theorem dX3_clear_65 : decode cX3_clear 65 = .ok (.aload_n 0, 1) := by decide +kernel
theorem dX3_clear_66 : decode cX3_clear 66 = .ok (.getfield 7, 3) := by decide +kernel
theorem dX3_clear_69 : decode cX3_clear 69 = .ok (.sipush 280, 3) := by decide +kernel
theorem dX3_clear_72 : decode cX3_clear 72 = .ok (.iload_n 3, 1) := by decide +kernel
theorem dX3_clear_73 : decode cX3_clear 73 = .ok (.iadd, 1) := by decide +kernel
theorem dX3_clear_74 : decode cX3_clear 74 = .ok (.iconst 0, 1) := by decide +kernel
theorem dX3_clear_75 : decode cX3_clear 75 = .ok (.iastore, 1) := by decide +kernel
theorem dX3_clear_76 : decode cX3_clear 76 = .ok (.aload_n 0, 1) := by decide +kernel
theorem dX3_clear_77 : decode cX3_clear 77 = .ok (.getfield 7, 3) := by decide +kernel
theorem dX3_clear_80 : decode cX3_clear 80 = .ok (.sipush 400, 3) := by decide +kernel
theorem dX3_clear_83 : decode cX3_clear 83 = .ok (.iload_n 3, 1) := by decide +kernel
theorem dX3_clear_84 : decode cX3_clear 84 = .ok (.iadd, 1) := by decide +kernel
theorem dX3_clear_85 : decode cX3_clear 85 = .ok (.iconst 0, 1) := by decide +kernel
theorem dX3_clear_86 : decode cX3_clear 86 = .ok (.iastore, 1) := by decide +kernel
theorem dX3_clear_87 : decode cX3_clear 87 = .ok (.iinc 3 1, 3) := by decide +kernel
theorem dX3_clear_90 : decode cX3_clear 90 = .ok (.goto (-45), 3) := by decide +kernel
theorem dX3_clear_93 : decode cX3_clear 93 = .ok (.iload_n 2, 1) := by decide +kernel
theorem dX3_clear_94 : decode cX3_clear 94 = .ok (.ireturn, 1) := by decide +kernel
theorem dX3_append_0 : decode cX3_append 0 = .ok (.aload_n 0, 1) := by decide +kernel
theorem dX3_append_1 : decode cX3_append 1 = .ok (.iconst 0, 1) := by decide +kernel
theorem dX3_append_2 : decode cX3_append 2 = .ok (.putfield 37, 3) := by decide +kernel
theorem dX3_append_5 : decode cX3_append 5 = .ok (.iload_n 1, 1) := by decide +kernel
theorem dX3_append_6 : decode cX3_append 6 = .ok (.bipush 33, 2) := by decide +kernel
theorem dX3_append_8 : decode cX3_append 8 = .ok (.bipush 126, 2) := by decide +kernel
theorem dX3_append_10 : decode cX3_append 10 = .ok (.invokestatic 41, 3) := by decide +kernel
theorem dX3_append_13 : decode cX3_append 13 = .ok (.ifCond .ne 9, 3) := by decide +kernel
theorem dX3_append_16 : decode cX3_append 16 = .ok (.aload_n 0, 1) := by decide +kernel
theorem dX3_append_17 : decode cX3_append 17 = .ok (.iconst 1, 1) := by decide +kernel
theorem dX3_append_18 : decode cX3_append 18 = .ok (.invokevirtual 95, 3) := by decide +kernel
theorem dX3_append_21 : decode cX3_append 21 = .ok (.ireturn, 1) := by decide +kernel
theorem dX3_append_22 : decode cX3_append 22 = .ok (.aload_n 0, 1) := by decide +kernel
theorem dX3_append_23 : decode cX3_append 23 = .ok (.getfield 130, 3) := by decide +kernel
theorem dX3_append_26 : decode cX3_append 26 = .ok (.bipush 60, 2) := by decide +kernel
theorem dX3_append_28 : decode cX3_append 28 = .ok (.if_icmp .ne 9, 3) := by decide +kernel
theorem dX3_append_31 : decode cX3_append 31 = .ok (.aload_n 0, 1) := by decide +kernel
theorem dX3_append_32 : decode cX3_append 32 = .ok (.iconst 2, 1) := by decide +kernel
theorem dX3_append_33 : decode cX3_append 33 = .ok (.invokevirtual 95, 3) := by decide +kernel
theorem dX3_append_36 : decode cX3_append 36 = .ok (.ireturn, 1) := by decide +kernel
theorem dX3_append_37 : decode cX3_append 37 = .ok (.aload_n 0, 1) := by decide +kernel
theorem dX3_append_38 : decode cX3_append 38 = .ok (.getfield 16, 3) := by decide +kernel
theorem dX3_append_41 : decode cX3_append 41 = .ok (.aload_n 0, 1) := by decide +kernel
theorem dX3_append_42 : decode cX3_append 42 = .ok (.getfield 130, 3) := by decide +kernel
theorem dX3_append_45 : decode cX3_append 45 = .ok (.iload_n 1, 1) := by decide +kernel
theorem dX3_append_46 : decode cX3_append 46 = .ok (.iastore, 1) := by decide +kernel
theorem dX3_append_47 : decode cX3_append 47 = .ok (.aload_n 0, 1) := by decide +kernel
theorem dX3_append_48 : decode cX3_append 48 = .ok (.dup, 1) := by decide +kernel
theorem dX3_append_49 : decode cX3_append 49 = .ok (.getfield 130, 3) := by decide +kernel
theorem dX3_append_52 : decode cX3_append 52 = .ok (.iconst 1, 1) := by decide +kernel
theorem dX3_append_53 : decode cX3_append 53 = .ok (.iadd, 1) := by decide +kernel
theorem dX3_append_54 : decode cX3_append 54 = .ok (.putfield 130, 3) := by decide +kernel
theorem dX3_append_57 : decode cX3_append 57 = .ok (.aload_n 0, 1) := by decide +kernel
theorem dX3_append_58 : decode cX3_append 58 = .ok (.getfield 130, 3) := by decide +kernel
theorem dX3_append_61 : decode cX3_append 61 = .ok (.ireturn, 1) := by decide +kernel
theorem dX3_clearBuffer_0 : decode cX3_clearBuffer 0 = .ok (.aload_n 0, 1) := by decide +kernel
theorem dX3_clearBuffer_1 : decode cX3_clearBuffer 1 = .ok (.iconst 0, 1) := by decide +kernel
theorem dX3_clearBuffer_2 : decode cX3_clearBuffer 2 = .ok (.putfield 37, 3) := by decide +kernel
theorem dX3_clearBuffer_5 : decode cX3_clearBuffer 5 = .ok (.aload_n 0, 1) := by decide +kernel
theorem dX3_clearBuffer_6 : decode cX3_clearBuffer 6 = .ok (.getfield 130, 3) := by decide +kernel
theorem dX3_clearBuffer_9 : decode cX3_clearBuffer 9 = .ok (.istore_n 1, 1) := by decide +kernel
theorem dX3_clearBuffer_10 : decode cX3_clearBuffer 10 = .ok (.aload_n 0, 1) := by decide +kernel
theorem dX3_clearBuffer_11 : decode cX3_clearBuffer 11 = .ok (.iconst 0, 1) := by decide +kernel
theorem dX3_clearBuffer_12 : decode cX3_clearBuffer 12 = .ok (.putfield 130, 3) := by decide +kernel
theorem dX3_clearBuffer_15 : decode cX3_clearBuffer 15 = .ok (.iload_n 1, 1) := by decide +kernel
theorem dX3_clearBuffer_16 : decode cX3_clearBuffer 16 = .ok (.ireturn, 1) := by decide +kernel
theorem dX3_next_0 : decode cX3_next 0 = .ok (.iload_n 2, 1) := by decide +kernel
theorem dX3_next_1 : decode cX3_next 1 = .ok (.bipush 48, 2) := by decide +kernel
theorem dX3_next_3 : decode cX3_next 3 = .ok (.isub, 1) := by decide +kernel
theorem dX3_next_4 : decode cX3_next 4 = .ok (.istore_n 3, 1) := by decide +kernel
theorem dX3_next_5 : decode cX3_next 5 = .ok (.aload_n 0, 1) := by decide +kernel
theorem dX3_next_6 : decode cX3_next 6 = .ok (.getfield 133, 3) := by decide +kernel
theorem dX3_next_9 : decode cX3_next 9 = .ok (.iconst 1, 1) := by decide +kernel
theorem dX3_next_10 : decode cX3_next 10 = .ok (.isub, 1) := by decide +kernel
theorem dX3_next_11 : decode cX3_next 11 = .ok (.istore 4, 2) := by decide +kernel
theorem dX3_next_13 : decode cX3_next 13 = .ok (.iload_n 3, 1) := by decide +kernel
theorem dX3_next_14 : decode cX3_next 14 = .ok (.iconst 0, 1) := by decide +kernel
theorem dX3_next_15 : decode cX3_next 15 = .ok (.bipush 9, 2) := by decide +kernel
theorem dX3_next_17 : decode cX3_next 17 = .ok (.invokestatic 41, 3) := by decide +kernel
theorem dX3_next_20 : decode cX3_next 20 = .ok (.istore 5, 2) := by decide +kernel
theorem dX3_next_22 : decode cX3_next 22 = .ok (.iload_n 1, 1) := by decide +kernel
theorem dX3_next_23 : decode cX3_next 23 = .ok (.tableswitch 323 0 7 #[45, 91, 110, 122, 154, 193, 206, 267], 45) := by decide +kernel
theorem dX3_next_68 : decode cX3_next 68 = .ok (.iload_n 2, 1) := by decide +kernel
theorem dX3_next_69 : decode cX3_next 69 = .ok (.bipush 98, 2) := by decide +kernel
theorem dX3_next_71 : decode cX3_next 71 = .ok (.if_icmp .eq 11, 3) := by decide +kernel
theorem dX3_next_74 : decode cX3_next 74 = .ok (.iload_n 2, 1) := by decide +kernel

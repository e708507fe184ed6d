theorem dX3_deep_40 : decode cX3_deep 40 = .ok (.aload_n 0, 1) := by decide +kernel
theorem dX3_deep_41 : decode cX3_deep 41 = .ok (.getfield 7, 3) := by decide +kernel
theorem dX3_deep_44 : decode cX3_deep 44 = .ok (.iload_n 1, 1) := by decide +kernel
theorem dX3_deep_45 : decode cX3_deep 45 = .ok (.iaload, 1) := by decide +kernel
theorem dX3_deep_46 : decode cX3_deep 46 = .ok (.iconst 1, 1) := by decide +kernel
theorem dX3_deep_47 : decode cX3_deep 47 = .ok (.if_icmp .ne 7, 3) := by decide +kernel
theorem dX3_deep_50 : decode cX3_deep 50 = .ok (.iconst 2, 1) := by decide +kernel
theorem dX3_deep_51 : decode cX3_deep 51 = .ok (.goto 4, 3) := by decide +kernel
theorem dX3_deep_54 : decode cX3_deep 54 = .ok (.iconst 1, 1) := by decide +kernel
theorem dX3_deep_55 : decode cX3_deep 55 = .ok (.ireturn, 1) := by decide +kernel
theorem dX3_beside_0 : decode cX3_beside 0 = .ok (.iload_n 1, 1) := by decide +kernel
theorem dX3_beside_1 : decode cX3_beside 1 = .ok (.tableswitch 74 0 2 #[27, 42, 59], 27) := by decide +kernel
theorem dX3_beside_28 : decode cX3_beside 28 = .ok (.iload_n 0, 1) := by decide +kernel
theorem dX3_beside_29 : decode cX3_beside 29 = .ok (.bipush 8, 2) := by decide +kernel
theorem dX3_beside_31 : decode cX3_beside 31 = .ok (.if_icmp .ge 7, 3) := by decide +kernel
theorem dX3_beside_34 : decode cX3_beside 34 = .ok (.iconst (-1), 1) := by decide +kernel
theorem dX3_beside_35 : decode cX3_beside 35 = .ok (.goto 7, 3) := by decide +kernel
theorem dX3_beside_38 : decode cX3_beside 38 = .ok (.iload_n 0, 1) := by decide +kernel
theorem dX3_beside_39 : decode cX3_beside 39 = .ok (.bipush 8, 2) := by decide +kernel
theorem dX3_beside_41 : decode cX3_beside 41 = .ok (.isub, 1) := by decide +kernel
theorem dX3_beside_42 : decode cX3_beside 42 = .ok (.ireturn, 1) := by decide +kernel
theorem dX3_beside_43 : decode cX3_beside 43 = .ok (.iload_n 0, 1) := by decide +kernel
theorem dX3_beside_44 : decode cX3_beside 44 = .ok (.bipush 8, 2) := by decide +kernel
theorem dX3_beside_46 : decode cX3_beside 46 = .ok (.irem, 1) := by decide +kernel
theorem dX3_beside_47 : decode cX3_beside 47 = .ok (.bipush 7, 2) := by decide +kernel
theorem dX3_beside_49 : decode cX3_beside 49 = .ok (.if_icmp .ne 7, 3) := by decide +kernel
theorem dX3_beside_52 : decode cX3_beside 52 = .ok (.iconst (-1), 1) := by decide +kernel
theorem dX3_beside_53 : decode cX3_beside 53 = .ok (.goto 6, 3) := by decide +kernel
theorem dX3_beside_56 : decode cX3_beside 56 = .ok (.iload_n 0, 1) := by decide +kernel
theorem dX3_beside_57 : decode cX3_beside 57 = .ok (.iconst 1, 1) := by decide +kernel
theorem dX3_beside_58 : decode cX3_beside 58 = .ok (.iadd, 1) := by decide +kernel
theorem dX3_beside_59 : decode cX3_beside 59 = .ok (.ireturn, 1) := by decide +kernel
theorem dX3_beside_60 : decode cX3_beside 60 = .ok (.iload_n 0, 1) := by decide +kernel
theorem dX3_beside_61 : decode cX3_beside 61 = .ok (.bipush 31, 2) := by decide +kernel
theorem dX3_beside_63 : decode cX3_beside 63 = .ok (.if_icmp .le 7, 3) := by decide +kernel
theorem dX3_beside_66 : decode cX3_beside 66 = .ok (.iconst (-1), 1) := by decide +kernel
theorem dX3_beside_67 : decode cX3_beside 67 = .ok (.goto 7, 3) := by decide +kernel
theorem dX3_beside_70 : decode cX3_beside 70 = .ok (.iload_n 0, 1) := by decide +kernel
theorem dX3_beside_71 : decode cX3_beside 71 = .ok (.bipush 8, 2) := by decide +kernel
theorem dX3_beside_73 : decode cX3_beside 73 = .ok (.iadd, 1) := by decide +kernel
theorem dX3_beside_74 : decode cX3_beside 74 = .ok (.ireturn, 1) := by decide +kernel
theorem dX3_beside_75 : decode cX3_beside 75 = .ok (.iload_n 0, 1) := by decide +kernel
theorem dX3_beside_76 : decode cX3_beside 76 = .ok (.bipush 8, 2) := by decide +kernel
theorem dX3_beside_78 : decode cX3_beside 78 = .ok (.irem, 1) := by decide +kernel
theorem dX3_beside_79 : decode cX3_beside 79 = .ok (.ifCond .ne 7, 3) := by decide +kernel
theorem dX3_beside_82 : decode cX3_beside 82 = .ok (.iconst (-1), 1) := by decide +kernel
theorem dX3_beside_83 : decode cX3_beside 83 = .ok (.goto 6, 3) := by decide +kernel
theorem dX3_beside_86 : decode cX3_beside 86 = .ok (.iload_n 0, 1) := by decide +kernel
theorem dX3_beside_87 : decode cX3_beside 87 = .ok (.iconst 1, 1) := by decide +kernel
theorem dX3_beside_88 : decode cX3_beside 88 = .ok (.isub, 1) := by decide +kernel
theorem dX3_beside_89 : decode cX3_beside 89 = .ok (.ireturn, 1) := by decide +kernel
theorem dX3_walk_0 : decode cX3_walk 0 = .ok (.iconst 0, 1) := by decide +kernel
theorem dX3_walk_1 : decode cX3_walk 1 = .ok (.istore_n 2, 1) := by decide +kernel
theorem dX3_walk_2 : decode cX3_walk 2 = .ok (.iload_n 2, 1) := by decide +kernel
theorem dX3_walk_3 : decode cX3_walk 3 = .ok (.bipush 40, 2) := by decide +kernel
theorem dX3_walk_5 : decode cX3_walk 5 = .ok (.if_icmp .ge 16, 3) := by decide +kernel
theorem dX3_walk_8 : decode cX3_walk 8 = .ok (.aload_n 0, 1) := by decide +kernel
theorem dX3_walk_9 : decode cX3_walk 9 = .ok (.getfield 19, 3) := by decide +kernel
theorem dX3_walk_12 : decode cX3_walk 12 = .ok (.iload_n 2, 1) := by decide +kernel
theorem dX3_walk_13 : decode cX3_walk 13 = .ok (.iconst 0, 1) := by decide +kernel
theorem dX3_walk_14 : decode cX3_walk 14 = .ok (.iastore, 1) := by decide +kernel
theorem dX3_walk_15 : decode cX3_walk 15 = .ok (.iinc 2 1, 3) := by decide +kernel
theorem dX3_walk_18 : decode cX3_walk 18 = .ok (.goto (-16), 3) := by decide +kernel
theorem dX3_walk_21 : decode cX3_walk 21 = .ok (.iconst 0, 1) := by decide +kernel
theorem dX3_walk_22 : decode cX3_walk 22 = .ok (.istore_n 2, 1) := by decide +kernel
theorem dX3_walk_23 : decode cX3_walk 23 = .ok (.iload_n 1, 1) := by decide +kernel
theorem dX3_walk_24 : decode cX3_walk 24 = .ok (.ifCond .eq 19, 3) := by decide +kernel
theorem dX3_walk_27 : decode cX3_walk 27 = .ok (.aload_n 0, 1) := by decide +kernel
theorem dX3_walk_28 : decode cX3_walk 28 = .ok (.getfield 19, 3) := by decide +kernel
theorem dX3_walk_31 : decode cX3_walk 31 = .ok (.iconst 0, 1) := by decide +kernel
theorem dX3_walk_32 : decode cX3_walk 32 = .ok (.iconst 1, 1) := by decide +kernel
theorem dX3_walk_33 : decode cX3_walk 33 = .ok (.iastore, 1) := by decide +kernel
theorem dX3_walk_34 : decode cX3_walk 34 = .ok (.aload_n 0, 1) := by decide +kernel
theorem dX3_walk_35 : decode cX3_walk 35 = .ok (.getfield 22, 3) := by decide +kernel
theorem dX3_walk_38 : decode cX3_walk 38 = .ok (.iconst 0, 1) := by decide +kernel
theorem dX3_walk_39 : decode cX3_walk 39 = .ok (.iconst 0, 1) := by decide +kernel
theorem dX3_walk_40 : decode cX3_walk 40 = .ok (.iastore, 1) := by decide +kernel
theorem dX3_walk_41 : decode cX3_walk 41 = .ok (.iconst 1, 1) := by decide +kernel
theorem dX3_walk_42 : decode cX3_walk 42 = .ok (.istore_n 2, 1) := by decide +kernel
theorem dX3_walk_43 : decode cX3_walk 43 = .ok (.iconst 0, 1) := by decide +kernel
theorem dX3_walk_44 : decode cX3_walk 44 = .ok (.istore_n 3, 1) := by decide +kernel
theorem dX3_walk_45 : decode cX3_walk 45 = .ok (.iload_n 3, 1) := by decide +kernel
theorem dX3_walk_46 : decode cX3_walk 46 = .ok (.iload_n 2, 1) := by decide +kernel
theorem dX3_walk_47 : decode cX3_walk 47 = .ok (.if_icmp .ge 98, 3) := by decide +kernel
theorem dX3_walk_50 : decode cX3_walk 50 = .ok (.iconst 0, 1) := by decide +kernel
theorem dX3_walk_51 : decode cX3_walk 51 = .ok (.istore 4, 2) := by decide +kernel
theorem dX3_walk_53 : decode cX3_walk 53 = .ok (.iload 4, 2) := by decide +kernel
theorem dX3_walk_55 : decode cX3_walk 55 = .ok (.iconst 4, 1) := by decide +kernel
theorem dX3_walk_56 : decode cX3_walk 56 = .ok (.if_icmp .ge 83, 3) := by decide +kernel
theorem dX3_walk_59 : decode cX3_walk 59 = .ok (.aload_n 0, 1) := by decide +kernel
theorem dX3_walk_60 : decode cX3_walk 60 = .ok (.getfield 22, 3) := by decide +kernel
theorem dX3_walk_63 : decode cX3_walk 63 = .ok (.iload_n 3, 1) := by decide +kernel
theorem dX3_walk_64 : decode cX3_walk 64 = .ok (.iaload, 1) := by decide +kernel
theorem dX3_walk_65 : decode cX3_walk 65 = .ok (.iload 4, 2) := by decide +kernel
theorem dX3_walk_67 : decode cX3_walk 67 = .ok (.invokestatic 63, 3) := by decide +kernel
theorem dX3_walk_70 : decode cX3_walk 70 = .ok (.istore 5, 2) := by decide +kernel
theorem dX3_walk_72 : decode cX3_walk 72 = .ok (.iload 5, 2) := by decide +kernel
theorem dX3_walk_74 : decode cX3_walk 74 = .ok (.iconst (-1), 1) := by decide +kernel
theorem dX3_walk_75 : decode cX3_walk 75 = .ok (.if_icmp .eq 58, 3) := by decide +kernel
theorem dX3_walk_78 : decode cX3_walk 78 = .ok (.iload 5, 2) := by decide +kernel
theorem dX3_walk_80 : decode cX3_walk 80 = .ok (.iload_n 1, 1) := by decide +kernel
theorem dX3_walk_81 : decode cX3_walk 81 = .ok (.if_icmp .eq 52, 3) := by decide +kernel
theorem dX3_walk_84 : decode cX3_walk 84 = .ok (.aload_n 0, 1) := by decide +kernel
theorem dX3_walk_85 : decode cX3_walk 85 = .ok (.getfield 19, 3) := by decide +kernel
theorem dX3_walk_88 : decode cX3_walk 88 = .ok (.iload 5, 2) := by decide +kernel
theorem dX3_walk_90 : decode cX3_walk 90 = .ok (.iaload, 1) := by decide +kernel
theorem dX3_walk_91 : decode cX3_walk 91 = .ok (.ifCond .ne 42, 3) := by decide +kernel
theorem dX3_walk_94 : decode cX3_walk 94 = .ok (.aload_n 0, 1) := by decide +kernel
theorem dX3_walk_95 : decode cX3_walk 95 = .ok (.getfield 7, 3) := by decide +kernel
theorem dX3_walk_98 : decode cX3_walk 98 = .ok (.iload 5, 2) := by decide +kernel
theorem dX3_walk_100 : decode cX3_walk 100 = .ok (.iaload, 1) := by decide +kernel
theorem dX3_walk_101 : decode cX3_walk 101 = .ok (.iconst 3, 1) := by decide +kernel
theorem dX3_walk_102 : decode cX3_walk 102 = .ok (.if_icmp .eq 12, 3) := by decide +kernel
theorem dX3_walk_105 : decode cX3_walk 105 = .ok (.aload_n 0, 1) := by decide +kernel
theorem dX3_walk_106 : decode cX3_walk 106 = .ok (.iload 5, 2) := by decide +kernel
theorem dX3_walk_108 : decode cX3_walk 108 = .ok (.invokevirtual 67, 3) := by decide +kernel
theorem dX3_walk_111 : decode cX3_walk 111 = .ok (.ifCond .ne 22, 3) := by decide +kernel
theorem dX3_walk_114 : decode cX3_walk 114 = .ok (.aload_n 0, 1) := by decide +kernel
theorem dX3_walk_115 : decode cX3_walk 115 = .ok (.getfield 19, 3) := by decide +kernel
theorem dX3_walk_118 : decode cX3_walk 118 = .ok (.iload 5, 2) := by decide +kernel
theorem dX3_walk_120 : decode cX3_walk 120 = .ok (.iconst 1, 1) := by decide +kernel
theorem dX3_walk_121 : decode cX3_walk 121 = .ok (.iastore, 1) := by decide +kernel
theorem dX3_walk_122 : decode cX3_walk 122 = .ok (.aload_n 0, 1) := by decide +kernel
theorem dX3_walk_123 : decode cX3_walk 123 = .ok (.getfield 22, 3) := by decide +kernel
theorem dX3_walk_126 : decode cX3_walk 126 = .ok (.iload_n 2, 1) := by decide +kernel
theorem dX3_walk_127 : decode cX3_walk 127 = .ok (.iload 5, 2) := by decide +kernel
theorem dX3_walk_129 : decode cX3_walk 129 = .ok (.iastore, 1) := by decide +kernel
theorem dX3_walk_130 : decode cX3_walk 130 = .ok (.iinc 2 1, 3) := by decide +kernel
theorem dX3_walk_133 : decode cX3_walk 133 = .ok (.iinc 4 1, 3) := by decide +kernel
theorem dX3_walk_136 : decode cX3_walk 136 = .ok (.goto (-83), 3) := by decide +kernel
theorem dX3_walk_139 : decode cX3_walk 139 = .ok (.iinc 3 1, 3) := by decide +kernel
theorem dX3_walk_142 : decode cX3_walk 142 = .ok (.goto (-97), 3) := by decide +kernel
theorem dX3_walk_145 : decode cX3_walk 145 = .ok (.return_, 1) := by decide +kernel
theorem dX3_isReached_0 : decode cX3_isReached 0 = .ok (.iload_n 1, 1) := by decide +kernel
theorem dX3_isReached_1 : decode cX3_isReached 1 = .ok (.ifCond .ne 7, 3) := by decide +kernel
theorem dX3_isReached_4 : decode cX3_isReached 4 = .ok (.iconst 1, 1) := by decide +kernel
theorem dX3_isReached_5 : decode cX3_isReached 5 = .ok (.goto 4, 3) := by decide +kernel
theorem dX3_isReached_8 : decode cX3_isReached 8 = .ok (.iconst 0, 1) := by decide +kernel
theorem dX3_isReached_9 : decode cX3_isReached 9 = .ok (.istore_n 2, 1) := by decide +kernel
theorem dX3_isReached_10 : decode cX3_isReached 10 = .ok (.iconst 0, 1) := by decide +kernel
theorem dX3_isReached_11 : decode cX3_isReached 11 = .ok (.istore_n 3, 1) := by decide +kernel
theorem dX3_isReached_12 : decode cX3_isReached 12 = .ok (.iload_n 3, 1) := by decide +kernel
theorem dX3_isReached_13 : decode cX3_isReached 13 = .ok (.iconst 4, 1) := by decide +kernel
theorem dX3_isReached_14 : decode cX3_isReached 14 = .ok (.if_icmp .ge 43, 3) := by decide +kernel
theorem dX3_isReached_17 : decode cX3_isReached 17 = .ok (.iload_n 1, 1) := by decide +kernel
theorem dX3_isReached_18 : decode cX3_isReached 18 = .ok (.iload_n 3, 1) := by decide +kernel
theorem dX3_isReached_19 : decode cX3_isReached 19 = .ok (.invokestatic 63, 3) := by decide +kernel
theorem dX3_isReached_22 : decode cX3_isReached 22 = .ok (.istore 4, 2) := by decide +kernel
theorem dX3_isReached_24 : decode cX3_isReached 24 = .ok (.iload_n 2, 1) := by decide +kernel
theorem dX3_isReached_25 : decode cX3_isReached 25 = .ok (.ifCond .ne 20, 3) := by decide +kernel
theorem dX3_isReached_28 : decode cX3_isReached 28 = .ok (.iload 4, 2) := by decide +kernel
theorem dX3_isReached_30 : decode cX3_isReached 30 = .ok (.iconst (-1), 1) := by decide +kernel
theorem dX3_isReached_31 : decode cX3_isReached 31 = .ok (.if_icmp .eq 18, 3) := by decide +kernel
theorem dX3_isReached_34 : decode cX3_isReached 34 = .ok (.aload_n 0, 1) := by decide +kernel
theorem dX3_isReached_35 : decode cX3_isReached 35 = .ok (.getfield 19, 3) := by decide +kernel
theorem dX3_isReached_38 : decode cX3_isReached 38 = .ok (.iload 4, 2) := by decide +kernel
theorem dX3_isReached_40 : decode cX3_isReached 40 = .ok (.iaload, 1) := by decide +kernel
theorem dX3_isReached_41 : decode cX3_isReached 41 = .ok (.iconst 1, 1) := by decide +kernel
theorem dX3_isReached_42 : decode cX3_isReached 42 = .ok (.if_icmp .ne 7, 3) := by decide +kernel
theorem dX3_isReached_45 : decode cX3_isReached 45 = .ok (.iconst 1, 1) := by decide +kernel
theorem dX3_isReached_46 : decode cX3_isReached 46 = .ok (.goto 4, 3) := by decide +kernel
theorem dX3_isReached_49 : decode cX3_isReached 49 = .ok (.iconst 0, 1) := by decide +kernel
theorem dX3_isReached_50 : decode cX3_isReached 50 = .ok (.istore_n 2, 1) := by decide +kernel
theorem dX3_isReached_51 : decode cX3_isReached 51 = .ok (.iinc 3 1, 3) := by decide +kernel
theorem dX3_isReached_54 : decode cX3_isReached 54 = .ok (.goto (-42), 3) := by decide +kernel
theorem dX3_isReached_57 : decode cX3_isReached 57 = .ok (.iload_n 2, 1) := by decide +kernel
theorem dX3_isReached_58 : decode cX3_isReached 58 = .ok (.ireturn, 1) := by decide +kernel
theorem dX3_highest_0 : decode cX3_highest 0 = .ok (.iconst 4, 1) := by decide +kernel
theorem dX3_highest_1 : decode cX3_highest 1 = .ok (.istore_n 2, 1) := by decide +kernel
theorem dX3_highest_2 : decode cX3_highest 2 = .ok (.iconst 2, 1) := by decide +kernel
theorem dX3_highest_3 : decode cX3_highest 3 = .ok (.istore_n 3, 1) := by decide +kernel
theorem dX3_highest_4 : decode cX3_highest 4 = .ok (.iload_n 3, 1) := by decide +kernel
theorem dX3_highest_5 : decode cX3_highest 5 = .ok (.ifCond .lt 35, 3) := by decide +kernel
theorem dX3_highest_8 : decode cX3_highest 8 = .ok (.aload_n 0, 1) := by decide +kernel
theorem dX3_highest_9 : decode cX3_highest 9 = .ok (.getfield 7, 3) := by decide +kernel
theorem dX3_highest_12 : decode cX3_highest 12 = .ok (.sipush 160, 3) := by decide +kernel
theorem dX3_highest_15 : decode cX3_highest 15 = .ok (.iconst 3, 1) := by decide +kernel
theorem dX3_highest_16 : decode cX3_highest 16 = .ok (.iload_n 1, 1) := by decide +kernel
theorem dX3_highest_17 : decode cX3_highest 17 = .ok (.imul, 1) := by decide +kernel
theorem dX3_highest_18 : decode cX3_highest 18 = .ok (.iadd, 1) := by decide +kernel
theorem dX3_highest_19 : decode cX3_highest 19 = .ok (.iload_n 3, 1) := by decide +kernel
theorem dX3_highest_20 : decode cX3_highest 20 = .ok (.iadd, 1) := by decide +kernel
theorem dX3_highest_21 : decode cX3_highest 21 = .ok (.iaload, 1) := by decide +kernel
theorem dX3_highest_22 : decode cX3_highest 22 = .ok (.iconst (-1), 1) := by decide +kernel
theorem dX3_highest_23 : decode cX3_highest 23 = .ok (.if_icmp .ne 7, 3) := by decide +kernel
theorem dX3_highest_26 : decode cX3_highest 26 = .ok (.iload_n 2, 1) := by decide +kernel
theorem dX3_highest_27 : decode cX3_highest 27 = .ok (.goto 6, 3) := by decide +kernel
theorem dX3_highest_30 : decode cX3_highest 30 = .ok (.iload_n 3, 1) := by decide +kernel
theorem dX3_highest_31 : decode cX3_highest 31 = .ok (.iconst 1, 1) := by decide +kernel
theorem dX3_highest_32 : decode cX3_highest 32 = .ok (.iadd, 1) := by decide +kernel
theorem dX3_highest_33 : decode cX3_highest 33 = .ok (.istore_n 2, 1) := by decide +kernel
theorem dX3_highest_34 : decode cX3_highest 34 = .ok (.iinc 3 (-1), 3) := by decide +kernel
theorem dX3_highest_37 : decode cX3_highest 37 = .ok (.goto (-33), 3) := by decide +kernel
theorem dX3_highest_40 : decode cX3_highest 40 = .ok (.iload_n 2, 1) := by decide +kernel
theorem dX3_highest_41 : decode cX3_highest 41 = .ok (.ireturn, 1) := by decide +kernel
theorem dX3_latest_0 : decode cX3_latest 0 = .ok (.iconst (-1), 1) := by decide +kernel
theorem dX3_latest_1 : decode cX3_latest 1 = .ok (.istore_n 2, 1) := by decide +kernel
theorem dX3_latest_2 : decode cX3_latest 2 = .ok (.iconst 0, 1) := by decide +kernel
theorem dX3_latest_3 : decode cX3_latest 3 = .ok (.istore_n 3, 1) := by decide +kernel
theorem dX3_latest_4 : decode cX3_latest 4 = .ok (.iload_n 3, 1) := by decide +kernel
theorem dX3_latest_5 : decode cX3_latest 5 = .ok (.iconst 3, 1) := by decide +kernel
theorem dX3_latest_6 : decode cX3_latest 6 = .ok (.if_icmp .ge 64, 3) := by decide +kernel
theorem dX3_latest_9 : decode cX3_latest 9 = .ok (.aload_n 0, 1) := by decide +kernel
theorem dX3_latest_10 : decode cX3_latest 10 = .ok (.getfield 7, 3) := by decide +kernel
theorem dX3_latest_13 : decode cX3_latest 13 = .ok (.sipush 160, 3) := by decide +kernel
theorem dX3_latest_16 : decode cX3_latest 16 = .ok (.iconst 3, 1) := by decide +kernel
theorem dX3_latest_17 : decode cX3_latest 17 = .ok (.iload_n 1, 1) := by decide +kernel
theorem dX3_latest_18 : decode cX3_latest 18 = .ok (.imul, 1) := by decide +kernel
theorem dX3_latest_19 : decode cX3_latest 19 = .ok (.iadd, 1) := by decide +kernel
theorem dX3_latest_20 : decode cX3_latest 20 = .ok (.iload_n 3, 1) := by decide +kernel
theorem dX3_latest_21 : decode cX3_latest 21 = .ok (.iadd, 1) := by decide +kernel
theorem dX3_latest_22 : decode cX3_latest 22 = .ok (.iaload, 1) := by decide +kernel
theorem dX3_latest_23 : decode cX3_latest 23 = .ok (.iconst (-1), 1) := by decide +kernel
theorem dX3_latest_24 : decode cX3_latest 24 = .ok (.if_icmp .eq 38, 3) := by decide +kernel
theorem dX3_latest_27 : decode cX3_latest 27 = .ok (.aload_n 0, 1) := by decide +kernel
theorem dX3_latest_28 : decode cX3_latest 28 = .ok (.getfield 7, 3) := by decide +kernel
theorem dX3_latest_31 : decode cX3_latest 31 = .ok (.sipush 280, 3) := by decide +kernel
theorem dX3_latest_34 : decode cX3_latest 34 = .ok (.iconst 3, 1) := by decide +kernel
theorem dX3_latest_35 : decode cX3_latest 35 = .ok (.iload_n 1, 1) := by decide +kernel
theorem dX3_latest_36 : decode cX3_latest 36 = .ok (.imul, 1) := by decide +kernel
theorem dX3_latest_37 : decode cX3_latest 37 = .ok (.iadd, 1) := by decide +kernel
theorem dX3_latest_38 : decode cX3_latest 38 = .ok (.iload_n 3, 1) := by decide +kernel
theorem dX3_latest_39 : decode cX3_latest 39 = .ok (.iadd, 1) := by decide +kernel
theorem dX3_latest_40 : decode cX3_latest 40 = .ok (.iaload, 1) := by decide +kernel
theorem dX3_latest_41 : decode cX3_latest 41 = .ok (.iload_n 2, 1) := by decide +kernel
theorem dX3_latest_42 : decode cX3_latest 42 = .ok (.if_icmp .le 20, 3) := by decide +kernel
theorem dX3_latest_45 : decode cX3_latest 45 = .ok (.aload_n 0, 1) := by decide +kernel
theorem dX3_latest_46 : decode cX3_latest 46 = .ok (.getfield 7, 3) := by decide +kernel
theorem dX3_latest_49 : decode cX3_latest 49 = .ok (.sipush 280, 3) := by decide +kernel
theorem dX3_latest_52 : decode cX3_latest 52 = .ok (.iconst 3, 1) := by decide +kernel
theorem dX3_latest_53 : decode cX3_latest 53 = .ok (.iload_n 1, 1) := by decide +kernel
theorem dX3_latest_54 : decode cX3_latest 54 = .ok (.imul, 1) := by decide +kernel
theorem dX3_latest_55 : decode cX3_latest 55 = .ok (.iadd, 1) := by decide +kernel
theorem dX3_latest_56 : decode cX3_latest 56 = .ok (.iload_n 3, 1) := by decide +kernel
theorem dX3_latest_57 : decode cX3_latest 57 = .ok (.iadd, 1) := by decide +kernel
theorem dX3_latest_58 : decode cX3_latest 58 = .ok (.iaload, 1) := by decide +kernel
theorem dX3_latest_59 : decode cX3_latest 59 = .ok (.goto 4, 3) := by decide +kernel
theorem dX3_latest_62 : decode cX3_latest 62 = .ok (.iload_n 2, 1) := by decide +kernel
theorem dX3_latest_63 : decode cX3_latest 63 = .ok (.istore_n 2, 1) := by decide +kernel
theorem dX3_latest_64 : decode cX3_latest 64 = .ok (.iinc 3 1, 3) := by decide +kernel
theorem dX3_latest_67 : decode cX3_latest 67 = .ok (.goto (-63), 3) := by decide +kernel
theorem dX3_latest_70 : decode cX3_latest 70 = .ok (.iload_n 2, 1) := by decide +kernel
theorem dX3_latest_71 : decode cX3_latest 71 = .ok (.ireturn, 1) := by decide +kernel
theorem dX3_reason_0 : decode cX3_reason 0 = .ok (.aload_n 0, 1) := by decide +kernel
theorem dX3_reason_1 : decode cX3_reason 1 = .ok (.getfield 7, 3) := by decide +kernel
theorem dX3_reason_4 : decode cX3_reason 4 = .ok (.bipush 40, 2) := by decide +kernel
theorem dX3_reason_6 : decode cX3_reason 6 = .ok (.iload_n 2, 1) := by decide +kernel
theorem dX3_reason_7 : decode cX3_reason 7 = .ok (.iadd, 1) := by decide +kernel
theorem dX3_reason_8 : decode cX3_reason 8 = .ok (.iaload, 1) := by decide +kernel
theorem dX3_reason_9 : decode cX3_reason 9 = .ok (.iconst (-1), 1) := by decide +kernel
theorem dX3_reason_10 : decode cX3_reason 10 = .ok (.if_icmp .eq 7, 3) := by decide +kernel
theorem dX3_reason_13 : decode cX3_reason 13 = .ok (.iconst 1, 1) := by decide +kernel
theorem dX3_reason_14 : decode cX3_reason 14 = .ok (.goto 4, 3) := by decide +kernel
theorem dX3_reason_17 : decode cX3_reason 17 = .ok (.iconst 0, 1) := by decide +kernel
theorem dX3_reason_18 : decode cX3_reason 18 = .ok (.istore 4, 2) := by decide +kernel
theorem dX3_reason_20 : decode cX3_reason 20 = .ok (.aload_n 0, 1) := by decide +kernel
theorem dX3_reason_21 : decode cX3_reason 21 = .ok (.getfield 7, 3) := by decide +kernel
theorem dX3_reason_24 : decode cX3_reason 24 = .ok (.iload_n 2, 1) := by decide +kernel
theorem dX3_reason_25 : decode cX3_reason 25 = .ok (.iaload, 1) := by decide +kernel
theorem dX3_reason_26 : decode cX3_reason 26 = .ok (.iconst 3, 1) := by decide +kernel
theorem dX3_reason_27 : decode cX3_reason 27 = .ok (.if_icmp .ne 5, 3) := by decide +kernel
theorem dX3_reason_30 : decode cX3_reason 30 = .ok (.iconst 1, 1) := by decide +kernel
theorem dX3_reason_31 : decode cX3_reason 31 = .ok (.ireturn, 1) := by decide +kernel
theorem dX3_reason_32 : decode cX3_reason 32 = .ok (.aload_n 0, 1) := by decide +kernel
theorem dX3_reason_33 : decode cX3_reason 33 = .ok (.iload_n 1, 1) := by decide +kernel
theorem dX3_reason_34 : decode cX3_reason 34 = .ok (.iload_n 2, 1) := by decide +kernel
theorem dX3_reason_35 : decode cX3_reason 35 = .ok (.invokevirtual 70, 3) := by decide +kernel
theorem dX3_reason_38 : decode cX3_reason 38 = .ok (.ifCond .eq 5, 3) := by decide +kernel
theorem dX3_reason_41 : decode cX3_reason 41 = .ok (.iconst 2, 1) := by decide +kernel
theorem dX3_reason_42 : decode cX3_reason 42 = .ok (.ireturn, 1) := by decide +kernel
theorem dX3_reason_43 : decode cX3_reason 43 = .ok (.iload_n 3, 1) := by decide +kernel
theorem dX3_reason_44 : decode cX3_reason 44 = .ok (.aload_n 0, 1) := by decide +kernel
theorem dX3_reason_45 : decode cX3_reason 45 = .ok (.iload_n 2, 1) := by decide +kernel
theorem dX3_reason_46 : decode cX3_reason 46 = .ok (.invokevirtual 73, 3) := by decide +kernel
theorem dX3_reason_49 : decode cX3_reason 49 = .ok (.if_icmp .le 5, 3) := by decide +kernel
theorem dX3_reason_52 : decode cX3_reason 52 = .ok (.iconst 3, 1) := by decide +kernel
theorem dX3_reason_53 : decode cX3_reason 53 = .ok (.ireturn, 1) := by decide +kernel
theorem dX3_reason_54 : decode cX3_reason 54 = .ok (.aload_n 0, 1) := by decide +kernel
theorem dX3_reason_55 : decode cX3_reason 55 = .ok (.iload_n 2, 1) := by decide +kernel
theorem dX3_reason_56 : decode cX3_reason 56 = .ok (.invokevirtual 76, 3) := by decide +kernel
theorem dX3_reason_59 : decode cX3_reason 59 = .ok (.iload_n 3, 1) := by decide +kernel
theorem dX3_reason_60 : decode cX3_reason 60 = .ok (.if_icmp .gt 5, 3) := by decide +kernel
theorem dX3_reason_63 : decode cX3_reason 63 = .ok (.iconst 4, 1) := by decide +kernel
theorem dX3_reason_64 : decode cX3_reason 64 = .ok (.ireturn, 1) := by decide +kernel
theorem dX3_reason_65 : decode cX3_reason 65 = .ok (.aload_n 0, 1) := by decide +kernel
theorem dX3_reason_66 : decode cX3_reason 66 = .ok (.iload_n 2, 1) := by decide +kernel
theorem dX3_reason_67 : decode cX3_reason 67 = .ok (.invokevirtual 79, 3) := by decide +kernel
theorem dX3_reason_70 : decode cX3_reason 70 = .ok (.ifCond .ne 5, 3) := by decide +kernel
theorem dX3_reason_73 : decode cX3_reason 73 = .ok (.iconst 5, 1) := by decide +kernel
theorem dX3_reason_74 : decode cX3_reason 74 = .ok (.ireturn, 1) := by decide +kernel
theorem dX3_reason_75 : decode cX3_reason 75 = .ok (.iload 4, 2) := by decide +kernel
theorem dX3_reason_77 : decode cX3_reason 77 = .ok (.ifCond .eq 28, 3) := by decide +kernel
theorem dX3_reason_80 : decode cX3_reason 80 = .ok (.aload_n 0, 1) := by decide +kernel
theorem dX3_reason_81 : decode cX3_reason 81 = .ok (.iload_n 2, 1) := by decide +kernel
theorem dX3_reason_82 : decode cX3_reason 82 = .ok (.invokevirtual 67, 3) := by decide +kernel
theorem dX3_reason_85 : decode cX3_reason 85 = .ok (.ifCond .le 20, 3) := by decide +kernel
theorem dX3_reason_88 : decode cX3_reason 88 = .ok (.aload_n 0, 1) := by decide +kernel
theorem dX3_reason_89 : decode cX3_reason 89 = .ok (.getfield 45, 3) := by decide +kernel
theorem dX3_reason_92 : decode cX3_reason 92 = .ok (.aload_n 0, 1) := by decide +kernel
theorem dX3_reason_93 : decode cX3_reason 93 = .ok (.iload_n 2, 1) := by decide +kernel
theorem dX3_reason_94 : decode cX3_reason 94 = .ok (.invokevirtual 82, 3) := by decide +kernel
theorem dX3_reason_97 : decode cX3_reason 97 = .ok (.iconst 2, 1) := by decide +kernel
theorem dX3_reason_98 : decode cX3_reason 98 = .ok (.iadd, 1) := by decide +kernel
theorem dX3_reason_99 : decode cX3_reason 99 = .ok (.if_icmp .ge 6, 3) := by decide +kernel
theorem dX3_reason_102 : decode cX3_reason 102 = .ok (.bipush 6, 2) := by decide +kernel
theorem dX3_reason_104 : decode cX3_reason 104 = .ok (.ireturn, 1) := by decide +kernel
theorem dX3_reason_105 : decode cX3_reason 105 = .ok (.aload_n 0, 1) := by decide +kernel
theorem dX3_reason_106 : decode cX3_reason 106 = .ok (.iload_n 2, 1) := by decide +kernel
theorem dX3_reason_107 : decode cX3_reason 107 = .ok (.invokevirtual 67, 3) := by decide +kernel
theorem dX3_reason_110 : decode cX3_reason 110 = .ok (.ifCond .ne 11, 3) := by decide +kernel
theorem dX3_reason_113 : decode cX3_reason 113 = .ok (.aload_n 0, 1) := by decide +kernel
theorem dX3_reason_114 : decode cX3_reason 114 = .ok (.iload_n 2, 1) := by decide +kernel
theorem dX3_reason_115 : decode cX3_reason 115 = .ok (.invokevirtual 73, 3) := by decide +kernel
theorem dX3_reason_118 : decode cX3_reason 118 = .ok (.goto 10, 3) := by decide +kernel
theorem dX3_reason_121 : decode cX3_reason 121 = .ok (.aload_n 0, 1) := by decide +kernel
theorem dX3_reason_122 : decode cX3_reason 122 = .ok (.iload_n 2, 1) := by decide +kernel
theorem dX3_reason_123 : decode cX3_reason 123 = .ok (.invokevirtual 76, 3) := by decide +kernel
theorem dX3_reason_126 : decode cX3_reason 126 = .ok (.iconst 1, 1) := by decide +kernel
theorem dX3_reason_127 : decode cX3_reason 127 = .ok (.isub, 1) := by decide +kernel
theorem dX3_reason_128 : decode cX3_reason 128 = .ok (.istore 5, 2) := by decide +kernel
theorem dX3_reason_130 : decode cX3_reason 130 = .ok (.iload 4, 2) := by decide +kernel
theorem dX3_reason_132 : decode cX3_reason 132 = .ok (.ifCond .eq 14, 3) := by decide +kernel
theorem dX3_reason_135 : decode cX3_reason 135 = .ok (.iload_n 3, 1) := by decide +kernel
theorem dX3_reason_136 : decode cX3_reason 136 = .ok (.iload 5, 2) := by decide +kernel
theorem dX3_reason_138 : decode cX3_reason 138 = .ok (.if_icmp .eq 8, 3) := by decide +kernel
theorem dX3_reason_141 : decode cX3_reason 141 = .ok (.bipush 7, 2) := by decide +kernel
theorem dX3_reason_143 : decode cX3_reason 143 = .ok (.goto 4, 3) := by decide +kernel
theorem dX3_reason_146 : decode cX3_reason 146 = .ok (.iconst 0, 1) := by decide +kernel
theorem dX3_reason_147 : decode cX3_reason 147 = .ok (.ireturn, 1) := by decide +kernel
theorem dX3_price_0 : decode cX3_price 0 = .ok (.bipush 10, 2) := by decide +kernel
theorem dX3_price_2 : decode cX3_price 2 = .ok (.iload_n 3, 1) := by decide +kernel
theorem dX3_price_3 : decode cX3_price 3 = .ok (.imul, 1) := by decide +kernel
theorem dX3_price_4 : decode cX3_price 4 = .ok (.bipush 20, 2) := by decide +kernel
theorem dX3_price_6 : decode cX3_price 6 = .ok (.iadd, 1) := by decide +kernel
theorem dX3_price_7 : decode cX3_price 7 = .ok (.aload_n 0, 1) := by decide +kernel
theorem dX3_price_8 : decode cX3_price 8 = .ok (.getfield 7, 3) := by decide +kernel
theorem dX3_price_11 : decode cX3_price 11 = .ok (.bipush 40, 2) := by decide +kernel
theorem dX3_price_13 : decode cX3_price 13 = .ok (.iload_n 2, 1) := by decide +kernel
theorem dX3_price_14 : decode cX3_price 14 = .ok (.iadd, 1) := by decide +kernel
theorem dX3_price_15 : decode cX3_price 15 = .ok (.iaload, 1) := by decide +kernel
theorem dX3_price_16 : decode cX3_price 16 = .ok (.iconst (-1), 1) := by decide +kernel
theorem dX3_price_17 : decode cX3_price 17 = .ok (.if_icmp .ne 7, 3) := by decide +kernel
theorem dX3_price_20 : decode cX3_price 20 = .ok (.iconst 0, 1) := by decide +kernel
theorem dX3_price_21 : decode cX3_price 21 = .ok (.goto 5, 3) := by decide +kernel
theorem dX3_price_24 : decode cX3_price 24 = .ok (.bipush 30, 2) := by decide +kernel
theorem dX3_price_26 : decode cX3_price 26 = .ok (.iadd, 1) := by decide +kernel
theorem dX3_price_27 : decode cX3_price 27 = .ok (.istore 4, 2) := by decide +kernel
theorem dX3_price_29 : decode cX3_price 29 = .ok (.iload 4, 2) := by decide +kernel
theorem dX3_price_31 : decode cX3_price 31 = .ok (.aload_n 0, 1) := by decide +kernel
theorem dX3_price_32 : decode cX3_price 32 = .ok (.getfield 7, 3) := by decide +kernel

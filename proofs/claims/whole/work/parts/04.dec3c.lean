theorem dX3_price_35 : decode cX3_price 35 = .ok (.sipush 520, 3) := by decide +kernel
theorem dX3_price_38 : decode cX3_price 38 = .ok (.iload_n 1, 1) := by decide +kernel
theorem dX3_price_39 : decode cX3_price 39 = .ok (.iadd, 1) := by decide +kernel
theorem dX3_price_40 : decode cX3_price 40 = .ok (.iaload, 1) := by decide +kernel
theorem dX3_price_41 : decode cX3_price 41 = .ok (.iconst 1, 1) := by decide +kernel
theorem dX3_price_42 : decode cX3_price 42 = .ok (.if_icmp .ne 7, 3) := by decide +kernel
theorem dX3_price_45 : decode cX3_price 45 = .ok (.iconst 1, 1) := by decide +kernel
theorem dX3_price_46 : decode cX3_price 46 = .ok (.goto 4, 3) := by decide +kernel
theorem dX3_price_49 : decode cX3_price 49 = .ok (.iconst 2, 1) := by decide +kernel
theorem dX3_price_50 : decode cX3_price 50 = .ok (.imul, 1) := by decide +kernel
theorem dX3_price_51 : decode cX3_price 51 = .ok (.istore 4, 2) := by decide +kernel
theorem dX3_price_53 : decode cX3_price 53 = .ok (.iload 4, 2) := by decide +kernel
theorem dX3_price_55 : decode cX3_price 55 = .ok (.aload_n 0, 1) := by decide +kernel
theorem dX3_price_56 : decode cX3_price 56 = .ok (.iload_n 2, 1) := by decide +kernel
theorem dX3_price_57 : decode cX3_price 57 = .ok (.invokevirtual 56, 3) := by decide +kernel
theorem dX3_price_60 : decode cX3_price 60 = .ok (.ifCond .eq 20, 3) := by decide +kernel
theorem dX3_price_63 : decode cX3_price 63 = .ok (.aload_n 0, 1) := by decide +kernel
theorem dX3_price_64 : decode cX3_price 64 = .ok (.getfield 7, 3) := by decide +kernel
theorem dX3_price_67 : decode cX3_price 67 = .ok (.bipush 80, 2) := by decide +kernel
theorem dX3_price_69 : decode cX3_price 69 = .ok (.iload_n 2, 1) := by decide +kernel
theorem dX3_price_70 : decode cX3_price 70 = .ok (.iadd, 1) := by decide +kernel
theorem dX3_price_71 : decode cX3_price 71 = .ok (.iaload, 1) := by decide +kernel
theorem dX3_price_72 : decode cX3_price 72 = .ok (.iload_n 1, 1) := by decide +kernel
theorem dX3_price_73 : decode cX3_price 73 = .ok (.if_icmp .ne 7, 3) := by decide +kernel
theorem dX3_price_76 : decode cX3_price 76 = .ok (.iconst 5, 1) := by decide +kernel
theorem dX3_price_77 : decode cX3_price 77 = .ok (.goto 4, 3) := by decide +kernel
theorem dX3_price_80 : decode cX3_price 80 = .ok (.iconst 0, 1) := by decide +kernel
theorem dX3_price_81 : decode cX3_price 81 = .ok (.isub, 1) := by decide +kernel
theorem dX3_price_82 : decode cX3_price 82 = .ok (.ireturn, 1) := by decide +kernel
theorem dX3_save_0 : decode cX3_save 0 = .ok (.aload_n 0, 1) := by decide +kernel
theorem dX3_save_1 : decode cX3_save 1 = .ok (.getfield 85, 3) := by decide +kernel
theorem dX3_save_4 : decode cX3_save 4 = .ok (.bipush 6, 2) := by decide +kernel
theorem dX3_save_6 : decode cX3_save 6 = .ok (.if_icmp .ne 44, 3) := by decide +kernel
theorem dX3_save_9 : decode cX3_save 9 = .ok (.iconst 0, 1) := by decide +kernel
theorem dX3_save_10 : decode cX3_save 10 = .ok (.istore_n 1, 1) := by decide +kernel
theorem dX3_save_11 : decode cX3_save 11 = .ok (.iload_n 1, 1) := by decide +kernel
theorem dX3_save_12 : decode cX3_save 12 = .ok (.sipush 2755, 3) := by decide +kernel
theorem dX3_save_15 : decode cX3_save 15 = .ok (.if_icmp .ge 25, 3) := by decide +kernel
theorem dX3_save_18 : decode cX3_save 18 = .ok (.aload_n 0, 1) := by decide +kernel
theorem dX3_save_19 : decode cX3_save 19 = .ok (.getfield 13, 3) := by decide +kernel
theorem dX3_save_22 : decode cX3_save 22 = .ok (.iload_n 1, 1) := by decide +kernel
theorem dX3_save_23 : decode cX3_save 23 = .ok (.aload_n 0, 1) := by decide +kernel
theorem dX3_save_24 : decode cX3_save 24 = .ok (.getfield 13, 3) := by decide +kernel
theorem dX3_save_27 : decode cX3_save 27 = .ok (.sipush 551, 3) := by decide +kernel
theorem dX3_save_30 : decode cX3_save 30 = .ok (.iload_n 1, 1) := by decide +kernel
theorem dX3_save_31 : decode cX3_save 31 = .ok (.iadd, 1) := by decide +kernel
theorem dX3_save_32 : decode cX3_save 32 = .ok (.iaload, 1) := by decide +kernel
theorem dX3_save_33 : decode cX3_save 33 = .ok (.iastore, 1) := by decide +kernel
theorem dX3_save_34 : decode cX3_save 34 = .ok (.iinc 1 1, 3) := by decide +kernel
theorem dX3_save_37 : decode cX3_save 37 = .ok (.goto (-26), 3) := by decide +kernel
theorem dX3_save_40 : decode cX3_save 40 = .ok (.aload_n 0, 1) := by decide +kernel
theorem dX3_save_41 : decode cX3_save 41 = .ok (.dup, 1) := by decide +kernel
theorem dX3_save_42 : decode cX3_save 42 = .ok (.getfield 85, 3) := by decide +kernel
theorem dX3_save_45 : decode cX3_save 45 = .ok (.iconst 1, 1) := by decide +kernel
theorem dX3_save_46 : decode cX3_save 46 = .ok (.isub, 1) := by decide +kernel
theorem dX3_save_47 : decode cX3_save 47 = .ok (.putfield 85, 3) := by decide +kernel
theorem dX3_save_50 : decode cX3_save 50 = .ok (.iconst 0, 1) := by decide +kernel
theorem dX3_save_51 : decode cX3_save 51 = .ok (.istore_n 1, 1) := by decide +kernel
theorem dX3_save_52 : decode cX3_save 52 = .ok (.iload_n 1, 1) := by decide +kernel
theorem dX3_save_53 : decode cX3_save 53 = .ok (.sipush 551, 3) := by decide +kernel
theorem dX3_save_56 : decode cX3_save 56 = .ok (.if_icmp .ge 30, 3) := by decide +kernel
theorem dX3_save_59 : decode cX3_save 59 = .ok (.aload_n 0, 1) := by decide +kernel
theorem dX3_save_60 : decode cX3_save 60 = .ok (.getfield 13, 3) := by decide +kernel
theorem dX3_save_63 : decode cX3_save 63 = .ok (.sipush 551, 3) := by decide +kernel
theorem dX3_save_66 : decode cX3_save 66 = .ok (.aload_n 0, 1) := by decide +kernel
theorem dX3_save_67 : decode cX3_save 67 = .ok (.getfield 85, 3) := by decide +kernel
theorem dX3_save_70 : decode cX3_save 70 = .ok (.imul, 1) := by decide +kernel
theorem dX3_save_71 : decode cX3_save 71 = .ok (.iload_n 1, 1) := by decide +kernel
theorem dX3_save_72 : decode cX3_save 72 = .ok (.iadd, 1) := by decide +kernel
theorem dX3_save_73 : decode cX3_save 73 = .ok (.aload_n 0, 1) := by decide +kernel
theorem dX3_save_74 : decode cX3_save 74 = .ok (.getfield 7, 3) := by decide +kernel
theorem dX3_save_77 : decode cX3_save 77 = .ok (.iload_n 1, 1) := by decide +kernel
theorem dX3_save_78 : decode cX3_save 78 = .ok (.iaload, 1) := by decide +kernel
theorem dX3_save_79 : decode cX3_save 79 = .ok (.iastore, 1) := by decide +kernel
theorem dX3_save_80 : decode cX3_save 80 = .ok (.iinc 1 1, 3) := by decide +kernel
theorem dX3_save_83 : decode cX3_save 83 = .ok (.goto (-31), 3) := by decide +kernel
theorem dX3_save_86 : decode cX3_save 86 = .ok (.aload_n 0, 1) := by decide +kernel
theorem dX3_save_87 : decode cX3_save 87 = .ok (.dup, 1) := by decide +kernel
theorem dX3_save_88 : decode cX3_save 88 = .ok (.getfield 85, 3) := by decide +kernel
theorem dX3_save_91 : decode cX3_save 91 = .ok (.iconst 1, 1) := by decide +kernel
theorem dX3_save_92 : decode cX3_save 92 = .ok (.iadd, 1) := by decide +kernel
theorem dX3_save_93 : decode cX3_save 93 = .ok (.putfield 85, 3) := by decide +kernel
theorem dX3_save_96 : decode cX3_save 96 = .ok (.return_, 1) := by decide +kernel
theorem dX3_look_0 : decode cX3_look 0 = .ok (.aload_n 0, 1) := by decide +kernel
theorem dX3_look_1 : decode cX3_look 1 = .ok (.iconst 0, 1) := by decide +kernel
theorem dX3_look_2 : decode cX3_look 2 = .ok (.putfield 37, 3) := by decide +kernel
theorem dX3_look_5 : decode cX3_look 5 = .ok (.aload_n 0, 1) := by decide +kernel
theorem dX3_look_6 : decode cX3_look 6 = .ok (.aload_n 0, 1) := by decide +kernel
theorem dX3_look_7 : decode cX3_look 7 = .ok (.getfield 7, 3) := by decide +kernel
theorem dX3_look_10 : decode cX3_look 10 = .ok (.sipush 550, 3) := by decide +kernel
theorem dX3_look_13 : decode cX3_look 13 = .ok (.iaload, 1) := by decide +kernel
theorem dX3_look_14 : decode cX3_look 14 = .ok (.putfield 45, 3) := by decide +kernel
theorem dX3_look_17 : decode cX3_look 17 = .ok (.aload_n 0, 1) := by decide +kernel
theorem dX3_look_18 : decode cX3_look 18 = .ok (.iconst (-1), 1) := by decide +kernel
theorem dX3_look_19 : decode cX3_look 19 = .ok (.invokevirtual 88, 3) := by decide +kernel
theorem dX3_look_22 : decode cX3_look 22 = .ok (.return_, 1) := by decide +kernel
theorem dX3_lay_0 : decode cX3_lay 0 = .ok (.aload_n 0, 1) := by decide +kernel
theorem dX3_lay_1 : decode cX3_lay 1 = .ok (.invokevirtual 92, 3) := by decide +kernel
theorem dX3_lay_4 : decode cX3_lay 4 = .ok (.iload_n 1, 1) := by decide +kernel
theorem dX3_lay_5 : decode cX3_lay 5 = .ok (.iconst 1, 1) := by decide +kernel
theorem dX3_lay_6 : decode cX3_lay 6 = .ok (.bipush 39, 2) := by decide +kernel
theorem dX3_lay_8 : decode cX3_lay 8 = .ok (.invokestatic 41, 3) := by decide +kernel
theorem dX3_lay_11 : decode cX3_lay 11 = .ok (.ifCond .ne 9, 3) := by decide +kernel
theorem dX3_lay_14 : decode cX3_lay 14 = .ok (.aload_n 0, 1) := by decide +kernel
theorem dX3_lay_15 : decode cX3_lay 15 = .ok (.iconst 1, 1) := by decide +kernel
theorem dX3_lay_16 : decode cX3_lay 16 = .ok (.invokevirtual 95, 3) := by decide +kernel
theorem dX3_lay_19 : decode cX3_lay 19 = .ok (.ireturn, 1) := by decide +kernel
theorem dX3_lay_20 : decode cX3_lay 20 = .ok (.iload_n 2, 1) := by decide +kernel
theorem dX3_lay_21 : decode cX3_lay 21 = .ok (.iconst 0, 1) := by decide +kernel
theorem dX3_lay_22 : decode cX3_lay 22 = .ok (.iconst 3, 1) := by decide +kernel
theorem dX3_lay_23 : decode cX3_lay 23 = .ok (.invokestatic 41, 3) := by decide +kernel
theorem dX3_lay_26 : decode cX3_lay 26 = .ok (.ifCond .ne 9, 3) := by decide +kernel
theorem dX3_lay_29 : decode cX3_lay 29 = .ok (.aload_n 0, 1) := by decide +kernel
theorem dX3_lay_30 : decode cX3_lay 30 = .ok (.iconst 2, 1) := by decide +kernel
theorem dX3_lay_31 : decode cX3_lay 31 = .ok (.invokevirtual 95, 3) := by decide +kernel
theorem dX3_lay_34 : decode cX3_lay 34 = .ok (.ireturn, 1) := by decide +kernel
theorem dX3_lay_35 : decode cX3_lay 35 = .ok (.aload_n 0, 1) := by decide +kernel
theorem dX3_lay_36 : decode cX3_lay 36 = .ok (.iload_n 1, 1) := by decide +kernel
theorem dX3_lay_37 : decode cX3_lay 37 = .ok (.invokevirtual 67, 3) := by decide +kernel
theorem dX3_lay_40 : decode cX3_lay 40 = .ok (.ifCond .gt 29, 3) := by decide +kernel
theorem dX3_lay_43 : decode cX3_lay 43 = .ok (.aload_n 0, 1) := by decide +kernel
theorem dX3_lay_44 : decode cX3_lay 44 = .ok (.getfield 7, 3) := by decide +kernel
theorem dX3_lay_47 : decode cX3_lay 47 = .ok (.bipush 40, 2) := by decide +kernel
theorem dX3_lay_49 : decode cX3_lay 49 = .ok (.iload_n 1, 1) := by decide +kernel
theorem dX3_lay_50 : decode cX3_lay 50 = .ok (.iadd, 1) := by decide +kernel
theorem dX3_lay_51 : decode cX3_lay 51 = .ok (.iaload, 1) := by decide +kernel
theorem dX3_lay_52 : decode cX3_lay 52 = .ok (.iconst (-1), 1) := by decide +kernel
theorem dX3_lay_53 : decode cX3_lay 53 = .ok (.if_icmp .ne 16, 3) := by decide +kernel
theorem dX3_lay_56 : decode cX3_lay 56 = .ok (.aload_n 0, 1) := by decide +kernel
theorem dX3_lay_57 : decode cX3_lay 57 = .ok (.getfield 7, 3) := by decide +kernel
theorem dX3_lay_60 : decode cX3_lay 60 = .ok (.bipush 80, 2) := by decide +kernel
theorem dX3_lay_62 : decode cX3_lay 62 = .ok (.iload_n 1, 1) := by decide +kernel
theorem dX3_lay_63 : decode cX3_lay 63 = .ok (.iadd, 1) := by decide +kernel
theorem dX3_lay_64 : decode cX3_lay 64 = .ok (.iaload, 1) := by decide +kernel
theorem dX3_lay_65 : decode cX3_lay 65 = .ok (.iconst (-1), 1) := by decide +kernel
theorem dX3_lay_66 : decode cX3_lay 66 = .ok (.if_icmp .eq 9, 3) := by decide +kernel
theorem dX3_lay_69 : decode cX3_lay 69 = .ok (.aload_n 0, 1) := by decide +kernel
theorem dX3_lay_70 : decode cX3_lay 70 = .ok (.iconst 3, 1) := by decide +kernel
theorem dX3_lay_71 : decode cX3_lay 71 = .ok (.invokevirtual 95, 3) := by decide +kernel
theorem dX3_lay_74 : decode cX3_lay 74 = .ok (.ireturn, 1) := by decide +kernel
theorem dX3_lay_75 : decode cX3_lay 75 = .ok (.aload_n 0, 1) := by decide +kernel
theorem dX3_lay_76 : decode cX3_lay 76 = .ok (.invokevirtual 98, 3) := by decide +kernel
theorem dX3_lay_79 : decode cX3_lay 79 = .ok (.aload_n 0, 1) := by decide +kernel
theorem dX3_lay_80 : decode cX3_lay 80 = .ok (.getfield 7, 3) := by decide +kernel
theorem dX3_lay_83 : decode cX3_lay 83 = .ok (.iload_n 1, 1) := by decide +kernel
theorem dX3_lay_84 : decode cX3_lay 84 = .ok (.iaload, 1) := by decide +kernel
theorem dX3_lay_85 : decode cX3_lay 85 = .ok (.istore_n 3, 1) := by decide +kernel
theorem dX3_lay_86 : decode cX3_lay 86 = .ok (.aload_n 0, 1) := by decide +kernel
theorem dX3_lay_87 : decode cX3_lay 87 = .ok (.getfield 7, 3) := by decide +kernel
theorem dX3_lay_90 : decode cX3_lay 90 = .ok (.iload_n 1, 1) := by decide +kernel
theorem dX3_lay_91 : decode cX3_lay 91 = .ok (.iload_n 2, 1) := by decide +kernel
theorem dX3_lay_92 : decode cX3_lay 92 = .ok (.iastore, 1) := by decide +kernel
theorem dX3_lay_93 : decode cX3_lay 93 = .ok (.iload_n 3, 1) := by decide +kernel
theorem dX3_lay_94 : decode cX3_lay 94 = .ok (.ireturn, 1) := by decide +kernel
theorem dX3_pass_0 : decode cX3_pass 0 = .ok (.aload_n 0, 1) := by decide +kernel
theorem dX3_pass_1 : decode cX3_pass 1 = .ok (.invokevirtual 92, 3) := by decide +kernel
theorem dX3_pass_4 : decode cX3_pass 4 = .ok (.iload_n 1, 1) := by decide +kernel
theorem dX3_pass_5 : decode cX3_pass 5 = .ok (.iconst 1, 1) := by decide +kernel
theorem dX3_pass_6 : decode cX3_pass 6 = .ok (.bipush 100, 2) := by decide +kernel
theorem dX3_pass_8 : decode cX3_pass 8 = .ok (.invokestatic 41, 3) := by decide +kernel
theorem dX3_pass_11 : decode cX3_pass 11 = .ok (.ifCond .ne 9, 3) := by decide +kernel
theorem dX3_pass_14 : decode cX3_pass 14 = .ok (.aload_n 0, 1) := by decide +kernel
theorem dX3_pass_15 : decode cX3_pass 15 = .ok (.iconst 1, 1) := by decide +kernel
theorem dX3_pass_16 : decode cX3_pass 16 = .ok (.invokevirtual 95, 3) := by decide +kernel
theorem dX3_pass_19 : decode cX3_pass 19 = .ok (.ireturn, 1) := by decide +kernel
theorem dX3_pass_20 : decode cX3_pass 20 = .ok (.aload_n 0, 1) := by decide +kernel
theorem dX3_pass_21 : decode cX3_pass 21 = .ok (.getfield 7, 3) := by decide +kernel
theorem dX3_pass_24 : decode cX3_pass 24 = .ok (.sipush 550, 3) := by decide +kernel
theorem dX3_pass_27 : decode cX3_pass 27 = .ok (.iaload, 1) := by decide +kernel
theorem dX3_pass_28 : decode cX3_pass 28 = .ok (.iload_n 1, 1) := by decide +kernel
theorem dX3_pass_29 : decode cX3_pass 29 = .ok (.iadd, 1) := by decide +kernel
theorem dX3_pass_30 : decode cX3_pass 30 = .ok (.sipush 2000, 3) := by decide +kernel
theorem dX3_pass_33 : decode cX3_pass 33 = .ok (.if_icmp .le 9, 3) := by decide +kernel
theorem dX3_pass_36 : decode cX3_pass 36 = .ok (.aload_n 0, 1) := by decide +kernel
theorem dX3_pass_37 : decode cX3_pass 37 = .ok (.iconst 2, 1) := by decide +kernel
theorem dX3_pass_38 : decode cX3_pass 38 = .ok (.invokevirtual 95, 3) := by decide +kernel
theorem dX3_pass_41 : decode cX3_pass 41 = .ok (.ireturn, 1) := by decide +kernel
theorem dX3_pass_42 : decode cX3_pass 42 = .ok (.aload_n 0, 1) := by decide +kernel
theorem dX3_pass_43 : decode cX3_pass 43 = .ok (.invokevirtual 98, 3) := by decide +kernel
theorem dX3_pass_46 : decode cX3_pass 46 = .ok (.aload_n 0, 1) := by decide +kernel
theorem dX3_pass_47 : decode cX3_pass 47 = .ok (.invokevirtual 101, 3) := by decide +kernel
theorem dX3_pass_50 : decode cX3_pass 50 = .ok (.istore_n 2, 1) := by decide +kernel
theorem dX3_pass_51 : decode cX3_pass 51 = .ok (.aload_n 0, 1) := by decide +kernel
theorem dX3_pass_52 : decode cX3_pass 52 = .ok (.getfield 7, 3) := by decide +kernel
theorem dX3_pass_55 : decode cX3_pass 55 = .ok (.sipush 550, 3) := by decide +kernel
theorem dX3_pass_58 : decode cX3_pass 58 = .ok (.dup2, 1) := by decide +kernel
theorem dX3_pass_59 : decode cX3_pass 59 = .ok (.iaload, 1) := by decide +kernel
theorem dX3_pass_60 : decode cX3_pass 60 = .ok (.iload_n 1, 1) := by decide +kernel
theorem dX3_pass_61 : decode cX3_pass 61 = .ok (.iadd, 1) := by decide +kernel
theorem dX3_pass_62 : decode cX3_pass 62 = .ok (.iastore, 1) := by decide +kernel
theorem dX3_pass_63 : decode cX3_pass 63 = .ok (.aload_n 0, 1) := by decide +kernel
theorem dX3_pass_64 : decode cX3_pass 64 = .ok (.aload_n 0, 1) := by decide +kernel
theorem dX3_pass_65 : decode cX3_pass 65 = .ok (.getfield 7, 3) := by decide +kernel
theorem dX3_pass_68 : decode cX3_pass 68 = .ok (.sipush 550, 3) := by decide +kernel
theorem dX3_pass_71 : decode cX3_pass 71 = .ok (.iaload, 1) := by decide +kernel
theorem dX3_pass_72 : decode cX3_pass 72 = .ok (.putfield 45, 3) := by decide +kernel
theorem dX3_pass_75 : decode cX3_pass 75 = .ok (.iload_n 2, 1) := by decide +kernel
theorem dX3_pass_76 : decode cX3_pass 76 = .ok (.aload_n 0, 1) := by decide +kernel
theorem dX3_pass_77 : decode cX3_pass 77 = .ok (.invokevirtual 101, 3) := by decide +kernel
theorem dX3_pass_80 : decode cX3_pass 80 = .ok (.isub, 1) := by decide +kernel
theorem dX3_pass_81 : decode cX3_pass 81 = .ok (.ireturn, 1) := by decide +kernel
theorem dX3_keptMany_0 : decode cX3_keptMany 0 = .ok (.iconst 0, 1) := by decide +kernel
theorem dX3_keptMany_1 : decode cX3_keptMany 1 = .ok (.istore_n 1, 1) := by decide +kernel
theorem dX3_keptMany_2 : decode cX3_keptMany 2 = .ok (.iconst 0, 1) := by decide +kernel
theorem dX3_keptMany_3 : decode cX3_keptMany 3 = .ok (.istore_n 2, 1) := by decide +kernel
theorem dX3_keptMany_4 : decode cX3_keptMany 4 = .ok (.iload_n 2, 1) := by decide +kernel
theorem dX3_keptMany_5 : decode cX3_keptMany 5 = .ok (.bipush 40, 2) := by decide +kernel
theorem dX3_keptMany_7 : decode cX3_keptMany 7 = .ok (.if_icmp .ge 25, 3) := by decide +kernel
theorem dX3_keptMany_10 : decode cX3_keptMany 10 = .ok (.iload_n 1, 1) := by decide +kernel
theorem dX3_keptMany_11 : decode cX3_keptMany 11 = .ok (.aload_n 0, 1) := by decide +kernel
theorem dX3_keptMany_12 : decode cX3_keptMany 12 = .ok (.iload_n 2, 1) := by decide +kernel
theorem dX3_keptMany_13 : decode cX3_keptMany 13 = .ok (.invokevirtual 56, 3) := by decide +kernel
theorem dX3_keptMany_16 : decode cX3_keptMany 16 = .ok (.ifCond .eq 7, 3) := by decide +kernel
theorem dX3_keptMany_19 : decode cX3_keptMany 19 = .ok (.iconst 1, 1) := by decide +kernel
theorem dX3_keptMany_20 : decode cX3_keptMany 20 = .ok (.goto 4, 3) := by decide +kernel
theorem dX3_keptMany_23 : decode cX3_keptMany 23 = .ok (.iconst 0, 1) := by decide +kernel
theorem dX3_keptMany_24 : decode cX3_keptMany 24 = .ok (.iadd, 1) := by decide +kernel
theorem dX3_keptMany_25 : decode cX3_keptMany 25 = .ok (.istore_n 1, 1) := by decide +kernel
theorem dX3_keptMany_26 : decode cX3_keptMany 26 = .ok (.iinc 2 1, 3) := by decide +kernel
theorem dX3_keptMany_29 : decode cX3_keptMany 29 = .ok (.goto (-25), 3) := by decide +kernel
theorem dX3_keptMany_32 : decode cX3_keptMany 32 = .ok (.iload_n 1, 1) := by decide +kernel
theorem dX3_keptMany_33 : decode cX3_keptMany 33 = .ok (.ireturn, 1) := by decide +kernel
theorem dX3_setParish_0 : decode cX3_setParish 0 = .ok (.aload_n 0, 1) := by decide +kernel
theorem dX3_setParish_1 : decode cX3_setParish 1 = .ok (.invokevirtual 92, 3) := by decide +kernel
theorem dX3_setParish_4 : decode cX3_setParish 4 = .ok (.iload_n 1, 1) := by decide +kernel
theorem dX3_setParish_5 : decode cX3_setParish 5 = .ok (.invokestatic 105, 3) := by decide +kernel
theorem dX3_setParish_8 : decode cX3_setParish 8 = .ok (.ifCond .ne 9, 3) := by decide +kernel
theorem dX3_setParish_11 : decode cX3_setParish 11 = .ok (.aload_n 0, 1) := by decide +kernel
theorem dX3_setParish_12 : decode cX3_setParish 12 = .ok (.iconst 1, 1) := by decide +kernel
theorem dX3_setParish_13 : decode cX3_setParish 13 = .ok (.invokevirtual 95, 3) := by decide +kernel
theorem dX3_setParish_16 : decode cX3_setParish 16 = .ok (.ireturn, 1) := by decide +kernel
theorem dX3_setParish_17 : decode cX3_setParish 17 = .ok (.aload_n 0, 1) := by decide +kernel
theorem dX3_setParish_18 : decode cX3_setParish 18 = .ok (.invokevirtual 98, 3) := by decide +kernel
theorem dX3_setParish_21 : decode cX3_setParish 21 = .ok (.aload_n 0, 1) := by decide +kernel
theorem dX3_setParish_22 : decode cX3_setParish 22 = .ok (.getfield 7, 3) := by decide +kernel
theorem dX3_setParish_25 : decode cX3_setParish 25 = .ok (.sipush 520, 3) := by decide +kernel
theorem dX3_setParish_28 : decode cX3_setParish 28 = .ok (.iload_n 1, 1) := by decide +kernel
theorem dX3_setParish_29 : decode cX3_setParish 29 = .ok (.iadd, 1) := by decide +kernel
theorem dX3_setParish_30 : decode cX3_setParish 30 = .ok (.iaload, 1) := by decide +kernel
theorem dX3_setParish_31 : decode cX3_setParish 31 = .ok (.istore_n 3, 1) := by decide +kernel
theorem dX3_setParish_32 : decode cX3_setParish 32 = .ok (.aload_n 0, 1) := by decide +kernel
theorem dX3_setParish_33 : decode cX3_setParish 33 = .ok (.getfield 7, 3) := by decide +kernel
theorem dX3_setParish_36 : decode cX3_setParish 36 = .ok (.sipush 520, 3) := by decide +kernel
theorem dX3_setParish_39 : decode cX3_setParish 39 = .ok (.iload_n 1, 1) := by decide +kernel
theorem dX3_setParish_40 : decode cX3_setParish 40 = .ok (.iadd, 1) := by decide +kernel
theorem dX3_setParish_41 : decode cX3_setParish 41 = .ok (.iload_n 2, 1) := by decide +kernel
theorem dX3_setParish_42 : decode cX3_setParish 42 = .ok (.ifCond .eq 7, 3) := by decide +kernel
theorem dX3_setParish_45 : decode cX3_setParish 45 = .ok (.iconst 1, 1) := by decide +kernel
theorem dX3_setParish_46 : decode cX3_setParish 46 = .ok (.goto 4, 3) := by decide +kernel
theorem dX3_setParish_49 : decode cX3_setParish 49 = .ok (.iconst 0, 1) := by decide +kernel
theorem dX3_setParish_50 : decode cX3_setParish 50 = .ok (.iastore, 1) := by decide +kernel
theorem dX3_setParish_51 : decode cX3_setParish 51 = .ok (.iload_n 3, 1) := by decide +kernel
theorem dX3_setParish_52 : decode cX3_setParish 52 = .ok (.ireturn, 1) := by decide +kernel
theorem dX3_buries_0 : decode cX3_buries 0 = .ok (.aload_n 0, 1) := by decide +kernel
theorem dX3_buries_1 : decode cX3_buries 1 = .ok (.iload_n 1, 1) := by decide +kernel
theorem dX3_buries_2 : decode cX3_buries 2 = .ok (.iload_n 2, 1) := by decide +kernel
theorem dX3_buries_3 : decode cX3_buries 3 = .ok (.iload_n 3, 1) := by decide +kernel
theorem dX3_buries_4 : decode cX3_buries 4 = .ok (.invokevirtual 108, 3) := by decide +kernel
theorem dX3_buries_7 : decode cX3_buries 7 = .ok (.istore 4, 2) := by decide +kernel
theorem dX3_buries_9 : decode cX3_buries 9 = .ok (.iconst 3, 1) := by decide +kernel
theorem dX3_buries_10 : decode cX3_buries 10 = .ok (.iload_n 2, 1) := by decide +kernel
theorem dX3_buries_11 : decode cX3_buries 11 = .ok (.imul, 1) := by decide +kernel
theorem dX3_buries_12 : decode cX3_buries 12 = .ok (.iload_n 3, 1) := by decide +kernel
theorem dX3_buries_13 : decode cX3_buries 13 = .ok (.iadd, 1) := by decide +kernel
theorem dX3_buries_14 : decode cX3_buries 14 = .ok (.iconst 1, 1) := by decide +kernel
theorem dX3_buries_15 : decode cX3_buries 15 = .ok (.isub, 1) := by decide +kernel
theorem dX3_buries_16 : decode cX3_buries 16 = .ok (.istore 5, 2) := by decide +kernel
theorem dX3_buries_18 : decode cX3_buries 18 = .ok (.aload_n 0, 1) := by decide +kernel
theorem dX3_buries_19 : decode cX3_buries 19 = .ok (.getfield 7, 3) := by decide +kernel
theorem dX3_buries_22 : decode cX3_buries 22 = .ok (.sipush 160, 3) := by decide +kernel
theorem dX3_buries_25 : decode cX3_buries 25 = .ok (.iload 5, 2) := by decide +kernel
theorem dX3_buries_27 : decode cX3_buries 27 = .ok (.iadd, 1) := by decide +kernel
theorem dX3_buries_28 : decode cX3_buries 28 = .ok (.iload_n 1, 1) := by decide +kernel
theorem dX3_buries_29 : decode cX3_buries 29 = .ok (.iastore, 1) := by decide +kernel
theorem dX3_buries_30 : decode cX3_buries 30 = .ok (.aload_n 0, 1) := by decide +kernel
theorem dX3_buries_31 : decode cX3_buries 31 = .ok (.getfield 7, 3) := by decide +kernel
theorem dX3_buries_34 : decode cX3_buries 34 = .ok (.sipush 280, 3) := by decide +kernel
theorem dX3_buries_37 : decode cX3_buries 37 = .ok (.iload 5, 2) := by decide +kernel
theorem dX3_buries_39 : decode cX3_buries 39 = .ok (.iadd, 1) := by decide +kernel
theorem dX3_buries_40 : decode cX3_buries 40 = .ok (.aload_n 0, 1) := by decide +kernel
theorem dX3_buries_41 : decode cX3_buries 41 = .ok (.getfield 7, 3) := by decide +kernel
theorem dX3_buries_44 : decode cX3_buries 44 = .ok (.sipush 550, 3) := by decide +kernel
theorem dX3_buries_47 : decode cX3_buries 47 = .ok (.iaload, 1) := by decide +kernel
theorem dX3_buries_48 : decode cX3_buries 48 = .ok (.iastore, 1) := by decide +kernel
theorem dX3_buries_49 : decode cX3_buries 49 = .ok (.aload_n 0, 1) := by decide +kernel
theorem dX3_buries_50 : decode cX3_buries 50 = .ok (.getfield 7, 3) := by decide +kernel
theorem dX3_buries_53 : decode cX3_buries 53 = .ok (.sipush 400, 3) := by decide +kernel
theorem dX3_buries_56 : decode cX3_buries 56 = .ok (.iload 5, 2) := by decide +kernel
theorem dX3_buries_58 : decode cX3_buries 58 = .ok (.iadd, 1) := by decide +kernel
theorem dX3_buries_59 : decode cX3_buries 59 = .ok (.iload 4, 2) := by decide +kernel
theorem dX3_buries_61 : decode cX3_buries 61 = .ok (.iastore, 1) := by decide +kernel
theorem dX3_buries_62 : decode cX3_buries 62 = .ok (.aload_n 0, 1) := by decide +kernel
theorem dX3_buries_63 : decode cX3_buries 63 = .ok (.getfield 7, 3) := by decide +kernel
theorem dX3_buries_66 : decode cX3_buries 66 = .ok (.sipush 530, 3) := by decide +kernel
theorem dX3_buries_69 : decode cX3_buries 69 = .ok (.iload_n 1, 1) := by decide +kernel
theorem dX3_buries_70 : decode cX3_buries 70 = .ok (.iadd, 1) := by decide +kernel
theorem dX3_buries_71 : decode cX3_buries 71 = .ok (.dup2, 1) := by decide +kernel
theorem dX3_buries_72 : decode cX3_buries 72 = .ok (.iaload, 1) := by decide +kernel
theorem dX3_buries_73 : decode cX3_buries 73 = .ok (.iload 4, 2) := by decide +kernel
theorem dX3_buries_75 : decode cX3_buries 75 = .ok (.iadd, 1) := by decide +kernel
theorem dX3_buries_76 : decode cX3_buries 76 = .ok (.iastore, 1) := by decide +kernel
theorem dX3_buries_77 : decode cX3_buries 77 = .ok (.aload_n 0, 1) := by decide +kernel
theorem dX3_buries_78 : decode cX3_buries 78 = .ok (.getfield 7, 3) := by decide +kernel
theorem dX3_buries_81 : decode cX3_buries 81 = .ok (.sipush 540, 3) := by decide +kernel
theorem dX3_buries_84 : decode cX3_buries 84 = .ok (.iload_n 1, 1) := by decide +kernel
theorem dX3_buries_85 : decode cX3_buries 85 = .ok (.iadd, 1) := by decide +kernel
theorem dX3_buries_86 : decode cX3_buries 86 = .ok (.dup2, 1) := by decide +kernel
theorem dX3_buries_87 : decode cX3_buries 87 = .ok (.iaload, 1) := by decide +kernel
theorem dX3_buries_88 : decode cX3_buries 88 = .ok (.iconst 1, 1) := by decide +kernel
theorem dX3_buries_89 : decode cX3_buries 89 = .ok (.iadd, 1) := by decide +kernel
theorem dX3_buries_90 : decode cX3_buries 90 = .ok (.iastore, 1) := by decide +kernel
theorem dX3_buries_91 : decode cX3_buries 91 = .ok (.iload 4, 2) := by decide +kernel
theorem dX3_buries_93 : decode cX3_buries 93 = .ok (.ireturn, 1) := by decide +kernel
theorem dX3_bury_0 : decode cX3_bury 0 = .ok (.aload_n 0, 1) := by decide +kernel
theorem dX3_bury_1 : decode cX3_bury 1 = .ok (.invokevirtual 92, 3) := by decide +kernel
theorem dX3_bury_4 : decode cX3_bury 4 = .ok (.iload_n 1, 1) := by decide +kernel
theorem dX3_bury_5 : decode cX3_bury 5 = .ok (.invokestatic 105, 3) := by decide +kernel
theorem dX3_bury_8 : decode cX3_bury 8 = .ok (.ifCond .eq 10, 3) := by decide +kernel
theorem dX3_bury_11 : decode cX3_bury 11 = .ok (.iload_n 2, 1) := by decide +kernel
theorem dX3_bury_12 : decode cX3_bury 12 = .ok (.invokestatic 112, 3) := by decide +kernel
theorem dX3_bury_15 : decode cX3_bury 15 = .ok (.ifCond .ne 9, 3) := by decide +kernel
theorem dX3_bury_18 : decode cX3_bury 18 = .ok (.aload_n 0, 1) := by decide +kernel
theorem dX3_bury_19 : decode cX3_bury 19 = .ok (.iconst 1, 1) := by decide +kernel
theorem dX3_bury_20 : decode cX3_bury 20 = .ok (.invokevirtual 95, 3) := by decide +kernel
theorem dX3_bury_23 : decode cX3_bury 23 = .ok (.ireturn, 1) := by decide +kernel
theorem dX3_bury_24 : decode cX3_bury 24 = .ok (.iload_n 3, 1) := by decide +kernel
theorem dX3_bury_25 : decode cX3_bury 25 = .ok (.iconst 1, 1) := by decide +kernel
theorem dX3_bury_26 : decode cX3_bury 26 = .ok (.iconst 3, 1) := by decide +kernel
theorem dX3_bury_27 : decode cX3_bury 27 = .ok (.invokestatic 41, 3) := by decide +kernel
theorem dX3_bury_30 : decode cX3_bury 30 = .ok (.ifCond .ne 9, 3) := by decide +kernel
theorem dX3_bury_33 : decode cX3_bury 33 = .ok (.aload_n 0, 1) := by decide +kernel
theorem dX3_bury_34 : decode cX3_bury 34 = .ok (.iconst 2, 1) := by decide +kernel
theorem dX3_bury_35 : decode cX3_bury 35 = .ok (.invokevirtual 95, 3) := by decide +kernel
theorem dX3_bury_38 : decode cX3_bury 38 = .ok (.ireturn, 1) := by decide +kernel
theorem dX3_bury_39 : decode cX3_bury 39 = .ok (.aload_n 0, 1) := by decide +kernel
theorem dX3_bury_40 : decode cX3_bury 40 = .ok (.iload_n 1, 1) := by decide +kernel
theorem dX3_bury_41 : decode cX3_bury 41 = .ok (.iload_n 2, 1) := by decide +kernel
theorem dX3_bury_42 : decode cX3_bury 42 = .ok (.iload_n 3, 1) := by decide +kernel
theorem dX3_bury_43 : decode cX3_bury 43 = .ok (.invokevirtual 115, 3) := by decide +kernel
theorem dX3_bury_46 : decode cX3_bury 46 = .ok (.ifCond .le 9, 3) := by decide +kernel
theorem dX3_bury_49 : decode cX3_bury 49 = .ok (.aload_n 0, 1) := by decide +kernel
theorem dX3_bury_50 : decode cX3_bury 50 = .ok (.iconst 3, 1) := by decide +kernel
theorem dX3_bury_51 : decode cX3_bury 51 = .ok (.invokevirtual 95, 3) := by decide +kernel
theorem dX3_bury_54 : decode cX3_bury 54 = .ok (.ireturn, 1) := by decide +kernel
theorem dX3_bury_55 : decode cX3_bury 55 = .ok (.aload_n 0, 1) := by decide +kernel
theorem dX3_bury_56 : decode cX3_bury 56 = .ok (.invokevirtual 98, 3) := by decide +kernel
theorem dX3_bury_59 : decode cX3_bury 59 = .ok (.aload_n 0, 1) := by decide +kernel
theorem dX3_bury_60 : decode cX3_bury 60 = .ok (.iload_n 1, 1) := by decide +kernel
theorem dX3_bury_61 : decode cX3_bury 61 = .ok (.iload_n 2, 1) := by decide +kernel
theorem dX3_bury_62 : decode cX3_bury 62 = .ok (.iload_n 3, 1) := by decide +kernel

theorem dX2_init_0 : decode cX2_init 0 = .ok (.aload_n 0, 1) := by decide +kernel
theorem dX2_init_1 : decode cX2_init 1 = .ok (.invokespecial 1, 3) := by decide +kernel
theorem dX2_init_4 : decode cX2_init 4 = .ok (.aload_n 0, 1) := by decide +kernel
theorem dX2_init_5 : decode cX2_init 5 = .ok (.new 7, 3) := by decide +kernel
theorem dX2_init_8 : decode cX2_init 8 = .ok (.dup, 1) := by decide +kernel
theorem dX2_init_9 : decode cX2_init 9 = .ok (.invokespecial 9, 3) := by decide +kernel
theorem dX2_init_12 : decode cX2_init 12 = .ok (.putfield 10, 3) := by decide +kernel
theorem dX2_init_15 : decode cX2_init 15 = .ok (.aload_n 0, 1) := by decide +kernel
theorem dX2_init_16 : decode cX2_init 16 = .ok (.bipush 6, 2) := by decide +kernel
theorem dX2_init_18 : decode cX2_init 18 = .ok (.anewarray 7, 3) := by decide +kernel
theorem dX2_init_21 : decode cX2_init 21 = .ok (.putfield 16, 3) := by decide +kernel
theorem dX2_init_24 : decode cX2_init 24 = .ok (.aload_n 0, 1) := by decide +kernel
theorem dX2_init_25 : decode cX2_init 25 = .ok (.iconst 0, 1) := by decide +kernel
theorem dX2_init_26 : decode cX2_init 26 = .ok (.putfield 20, 3) := by decide +kernel
theorem dX2_init_29 : decode cX2_init 29 = .ok (.aload_n 0, 1) := by decide +kernel
theorem dX2_init_30 : decode cX2_init 30 = .ok (.bipush 60, 2) := by decide +kernel
theorem dX2_init_32 : decode cX2_init 32 = .ok (.newarray .int, 2) := by decide +kernel
theorem dX2_init_34 : decode cX2_init 34 = .ok (.putfield 24, 3) := by decide +kernel
theorem dX2_init_37 : decode cX2_init 37 = .ok (.aload_n 0, 1) := by decide +kernel
theorem dX2_init_38 : decode cX2_init 38 = .ok (.iconst 0, 1) := by decide +kernel
theorem dX2_init_39 : decode cX2_init 39 = .ok (.putfield 28, 3) := by decide +kernel
theorem dX2_init_42 : decode cX2_init 42 = .ok (.aload_n 0, 1) := by decide +kernel
theorem dX2_init_43 : decode cX2_init 43 = .ok (.new 31, 3) := by decide +kernel
theorem dX2_init_46 : decode cX2_init 46 = .ok (.dup, 1) := by decide +kernel
theorem dX2_init_47 : decode cX2_init 47 = .ok (.invokespecial 33, 3) := by decide +kernel
theorem dX2_init_50 : decode cX2_init 50 = .ok (.putfield 34, 3) := by decide +kernel
theorem dX2_init_53 : decode cX2_init 53 = .ok (.iconst 0, 1) := by decide +kernel
theorem dX2_init_54 : decode cX2_init 54 = .ok (.istore_n 1, 1) := by decide +kernel
theorem dX2_init_55 : decode cX2_init 55 = .ok (.iload_n 1, 1) := by decide +kernel
theorem dX2_init_56 : decode cX2_init 56 = .ok (.bipush 6, 2) := by decide +kernel
theorem dX2_init_58 : decode cX2_init 58 = .ok (.if_icmp .ge 22, 3) := by decide +kernel
theorem dX2_init_61 : decode cX2_init 61 = .ok (.aload_n 0, 1) := by decide +kernel
theorem dX2_init_62 : decode cX2_init 62 = .ok (.getfield 16, 3) := by decide +kernel
theorem dX2_init_65 : decode cX2_init 65 = .ok (.iload_n 1, 1) := by decide +kernel
theorem dX2_init_66 : decode cX2_init 66 = .ok (.new 7, 3) := by decide +kernel
theorem dX2_init_69 : decode cX2_init 69 = .ok (.dup, 1) := by decide +kernel
theorem dX2_init_70 : decode cX2_init 70 = .ok (.invokespecial 9, 3) := by decide +kernel
theorem dX2_init_73 : decode cX2_init 73 = .ok (.aastore, 1) := by decide +kernel
theorem dX2_init_74 : decode cX2_init 74 = .ok (.iinc 1 1, 3) := by decide +kernel
theorem dX2_init_77 : decode cX2_init 77 = .ok (.goto (-22), 3) := by decide +kernel
theorem dX2_init_80 : decode cX2_init 80 = .ok (.return_, 1) := by decide +kernel
theorem dX2_lay_0 : decode cX2_lay 0 = .ok (.iload_n 1, 1) := by decide +kernel
theorem dX2_lay_1 : decode cX2_lay 1 = .ok (.invokestatic 38, 3) := by decide +kernel
theorem dX2_lay_4 : decode cX2_lay 4 = .ok (.iload_n 1, 1) := by decide +kernel
theorem dX2_lay_5 : decode cX2_lay 5 = .ok (.ifCond .ne 13, 3) := by decide +kernel
theorem dX2_lay_8 : decode cX2_lay 8 = .ok (.new 42, 3) := by decide +kernel
theorem dX2_lay_11 : decode cX2_lay 11 = .ok (.dup, 1) := by decide +kernel
theorem dX2_lay_12 : decode cX2_lay 12 = .ok (.ldc 44, 2) := by decide +kernel
theorem dX2_lay_14 : decode cX2_lay 14 = .ok (.invokespecial 46, 3) := by decide +kernel
theorem dX2_lay_17 : decode cX2_lay 17 = .ok (.athrow, 1) := by decide +kernel
theorem dX2_lay_18 : decode cX2_lay 18 = .ok (.iload_n 2, 1) := by decide +kernel
theorem dX2_lay_19 : decode cX2_lay 19 = .ok (.ifCond .lt 8, 3) := by decide +kernel
theorem dX2_lay_22 : decode cX2_lay 22 = .ok (.iload_n 2, 1) := by decide +kernel
theorem dX2_lay_23 : decode cX2_lay 23 = .ok (.iconst 3, 1) := by decide +kernel
theorem dX2_lay_24 : decode cX2_lay 24 = .ok (.if_icmp .le 13, 3) := by decide +kernel
theorem dX2_lay_27 : decode cX2_lay 27 = .ok (.new 49, 3) := by decide +kernel
theorem dX2_lay_30 : decode cX2_lay 30 = .ok (.dup, 1) := by decide +kernel
theorem dX2_lay_31 : decode cX2_lay 31 = .ok (.ldc 51, 2) := by decide +kernel
theorem dX2_lay_33 : decode cX2_lay 33 = .ok (.invokespecial 53, 3) := by decide +kernel
theorem dX2_lay_36 : decode cX2_lay 36 = .ok (.athrow, 1) := by decide +kernel
theorem dX2_lay_37 : decode cX2_lay 37 = .ok (.aload_n 0, 1) := by decide +kernel
theorem dX2_lay_38 : decode cX2_lay 38 = .ok (.getfield 10, 3) := by decide +kernel
theorem dX2_lay_41 : decode cX2_lay 41 = .ok (.iload_n 1, 1) := by decide +kernel
theorem dX2_lay_42 : decode cX2_lay 42 = .ok (.invokevirtual 54, 3) := by decide +kernel
theorem dX2_lay_45 : decode cX2_lay 45 = .ok (.ifCond .ne 13, 3) := by decide +kernel
theorem dX2_lay_48 : decode cX2_lay 48 = .ok (.new 58, 3) := by decide +kernel
theorem dX2_lay_51 : decode cX2_lay 51 = .ok (.dup, 1) := by decide +kernel
theorem dX2_lay_52 : decode cX2_lay 52 = .ok (.ldc 60, 2) := by decide +kernel
theorem dX2_lay_54 : decode cX2_lay 54 = .ok (.invokespecial 62, 3) := by decide +kernel
theorem dX2_lay_57 : decode cX2_lay 57 = .ok (.athrow, 1) := by decide +kernel
theorem dX2_lay_58 : decode cX2_lay 58 = .ok (.aload_n 0, 1) := by decide +kernel
theorem dX2_lay_59 : decode cX2_lay 59 = .ok (.invokevirtual 63, 3) := by decide +kernel
theorem dX2_lay_62 : decode cX2_lay 62 = .ok (.aload_n 0, 1) := by decide +kernel
theorem dX2_lay_63 : decode cX2_lay 63 = .ok (.getfield 10, 3) := by decide +kernel
theorem dX2_lay_66 : decode cX2_lay 66 = .ok (.iload_n 1, 1) := by decide +kernel
theorem dX2_lay_67 : decode cX2_lay 67 = .ok (.iload_n 2, 1) := by decide +kernel
theorem dX2_lay_68 : decode cX2_lay 68 = .ok (.invokevirtual 66, 3) := by decide +kernel
theorem dX2_lay_71 : decode cX2_lay 71 = .ok (.ireturn, 1) := by decide +kernel
theorem dX2_pass_0 : decode cX2_pass 0 = .ok (.iload_n 1, 1) := by decide +kernel
theorem dX2_pass_1 : decode cX2_pass 1 = .ok (.iconst 1, 1) := by decide +kernel
theorem dX2_pass_2 : decode cX2_pass 2 = .ok (.if_icmp .lt 9, 3) := by decide +kernel
theorem dX2_pass_5 : decode cX2_pass 5 = .ok (.iload_n 1, 1) := by decide +kernel
theorem dX2_pass_6 : decode cX2_pass 6 = .ok (.bipush 100, 2) := by decide +kernel
theorem dX2_pass_8 : decode cX2_pass 8 = .ok (.if_icmp .le 13, 3) := by decide +kernel
theorem dX2_pass_11 : decode cX2_pass 11 = .ok (.new 49, 3) := by decide +kernel
theorem dX2_pass_14 : decode cX2_pass 14 = .ok (.dup, 1) := by decide +kernel
theorem dX2_pass_15 : decode cX2_pass 15 = .ok (.ldc 70, 2) := by decide +kernel
theorem dX2_pass_17 : decode cX2_pass 17 = .ok (.invokespecial 53, 3) := by decide +kernel
theorem dX2_pass_20 : decode cX2_pass 20 = .ok (.athrow, 1) := by decide +kernel
theorem dX2_pass_21 : decode cX2_pass 21 = .ok (.aload_n 0, 1) := by decide +kernel
theorem dX2_pass_22 : decode cX2_pass 22 = .ok (.getfield 10, 3) := by decide +kernel
theorem dX2_pass_25 : decode cX2_pass 25 = .ok (.getfield 72, 3) := by decide +kernel
theorem dX2_pass_28 : decode cX2_pass 28 = .ok (.iload_n 1, 1) := by decide +kernel
theorem dX2_pass_29 : decode cX2_pass 29 = .ok (.iadd, 1) := by decide +kernel
theorem dX2_pass_30 : decode cX2_pass 30 = .ok (.sipush 2000, 3) := by decide +kernel
theorem dX2_pass_33 : decode cX2_pass 33 = .ok (.if_icmp .le 13, 3) := by decide +kernel
theorem dX2_pass_36 : decode cX2_pass 36 = .ok (.new 58, 3) := by decide +kernel
theorem dX2_pass_39 : decode cX2_pass 39 = .ok (.dup, 1) := by decide +kernel
theorem dX2_pass_40 : decode cX2_pass 40 = .ok (.ldc 75, 2) := by decide +kernel
theorem dX2_pass_42 : decode cX2_pass 42 = .ok (.invokespecial 62, 3) := by decide +kernel
theorem dX2_pass_45 : decode cX2_pass 45 = .ok (.athrow, 1) := by decide +kernel
theorem dX2_pass_46 : decode cX2_pass 46 = .ok (.aload_n 0, 1) := by decide +kernel
theorem dX2_pass_47 : decode cX2_pass 47 = .ok (.invokevirtual 63, 3) := by decide +kernel
theorem dX2_pass_50 : decode cX2_pass 50 = .ok (.aload_n 0, 1) := by decide +kernel
theorem dX2_pass_51 : decode cX2_pass 51 = .ok (.getfield 10, 3) := by decide +kernel
theorem dX2_pass_54 : decode cX2_pass 54 = .ok (.invokevirtual 77, 3) := by decide +kernel
theorem dX2_pass_57 : decode cX2_pass 57 = .ok (.istore_n 2, 1) := by decide +kernel
theorem dX2_pass_58 : decode cX2_pass 58 = .ok (.aload_n 0, 1) := by decide +kernel
theorem dX2_pass_59 : decode cX2_pass 59 = .ok (.getfield 10, 3) := by decide +kernel
theorem dX2_pass_62 : decode cX2_pass 62 = .ok (.dup, 1) := by decide +kernel
theorem dX2_pass_63 : decode cX2_pass 63 = .ok (.getfield 72, 3) := by decide +kernel
theorem dX2_pass_66 : decode cX2_pass 66 = .ok (.iload_n 1, 1) := by decide +kernel
theorem dX2_pass_67 : decode cX2_pass 67 = .ok (.iadd, 1) := by decide +kernel
theorem dX2_pass_68 : decode cX2_pass 68 = .ok (.putfield 72, 3) := by decide +kernel
theorem dX2_pass_71 : decode cX2_pass 71 = .ok (.iload_n 2, 1) := by decide +kernel
theorem dX2_pass_72 : decode cX2_pass 72 = .ok (.aload_n 0, 1) := by decide +kernel
theorem dX2_pass_73 : decode cX2_pass 73 = .ok (.getfield 10, 3) := by decide +kernel
theorem dX2_pass_76 : decode cX2_pass 76 = .ok (.invokevirtual 77, 3) := by decide +kernel
theorem dX2_pass_79 : decode cX2_pass 79 = .ok (.isub, 1) := by decide +kernel
theorem dX2_pass_80 : decode cX2_pass 80 = .ok (.ireturn, 1) := by decide +kernel
theorem dX2_setParish_0 : decode cX2_setParish 0 = .ok (.iload_n 1, 1) := by decide +kernel
theorem dX2_setParish_1 : decode cX2_setParish 1 = .ok (.invokestatic 81, 3) := by decide +kernel
theorem dX2_setParish_4 : decode cX2_setParish 4 = .ok (.aload_n 0, 1) := by decide +kernel
theorem dX2_setParish_5 : decode cX2_setParish 5 = .ok (.invokevirtual 63, 3) := by decide +kernel
theorem dX2_setParish_8 : decode cX2_setParish 8 = .ok (.aload_n 0, 1) := by decide +kernel
theorem dX2_setParish_9 : decode cX2_setParish 9 = .ok (.getfield 10, 3) := by decide +kernel
theorem dX2_setParish_12 : decode cX2_setParish 12 = .ok (.getfield 84, 3) := by decide +kernel
theorem dX2_setParish_15 : decode cX2_setParish 15 = .ok (.iload_n 1, 1) := by decide +kernel
theorem dX2_setParish_16 : decode cX2_setParish 16 = .ok (.iaload, 1) := by decide +kernel
theorem dX2_setParish_17 : decode cX2_setParish 17 = .ok (.istore_n 3, 1) := by decide +kernel
theorem dX2_setParish_18 : decode cX2_setParish 18 = .ok (.aload_n 0, 1) := by decide +kernel
theorem dX2_setParish_19 : decode cX2_setParish 19 = .ok (.getfield 10, 3) := by decide +kernel
theorem dX2_setParish_22 : decode cX2_setParish 22 = .ok (.getfield 84, 3) := by decide +kernel
theorem dX2_setParish_25 : decode cX2_setParish 25 = .ok (.iload_n 1, 1) := by decide +kernel
theorem dX2_setParish_26 : decode cX2_setParish 26 = .ok (.iload_n 2, 1) := by decide +kernel
theorem dX2_setParish_27 : decode cX2_setParish 27 = .ok (.ifCond .eq 7, 3) := by decide +kernel
theorem dX2_setParish_30 : decode cX2_setParish 30 = .ok (.iconst 1, 1) := by decide +kernel
theorem dX2_setParish_31 : decode cX2_setParish 31 = .ok (.goto 4, 3) := by decide +kernel
theorem dX2_setParish_34 : decode cX2_setParish 34 = .ok (.iconst 0, 1) := by decide +kernel
theorem dX2_setParish_35 : decode cX2_setParish 35 = .ok (.iastore, 1) := by decide +kernel
theorem dX2_setParish_36 : decode cX2_setParish 36 = .ok (.iload_n 3, 1) := by decide +kernel
theorem dX2_setParish_37 : decode cX2_setParish 37 = .ok (.ireturn, 1) := by decide +kernel
theorem dX2_bury_0 : decode cX2_bury 0 = .ok (.iload_n 1, 1) := by decide +kernel
theorem dX2_bury_1 : decode cX2_bury 1 = .ok (.invokestatic 81, 3) := by decide +kernel
theorem dX2_bury_4 : decode cX2_bury 4 = .ok (.iload_n 2, 1) := by decide +kernel
theorem dX2_bury_5 : decode cX2_bury 5 = .ok (.invokestatic 38, 3) := by decide +kernel
theorem dX2_bury_8 : decode cX2_bury 8 = .ok (.iload_n 3, 1) := by decide +kernel
theorem dX2_bury_9 : decode cX2_bury 9 = .ok (.invokestatic 87, 3) := by decide +kernel
theorem dX2_bury_12 : decode cX2_bury 12 = .ok (.aload_n 0, 1) := by decide +kernel
theorem dX2_bury_13 : decode cX2_bury 13 = .ok (.getfield 10, 3) := by decide +kernel
theorem dX2_bury_16 : decode cX2_bury 16 = .ok (.iload_n 1, 1) := by decide +kernel
theorem dX2_bury_17 : decode cX2_bury 17 = .ok (.iload_n 2, 1) := by decide +kernel
theorem dX2_bury_18 : decode cX2_bury 18 = .ok (.iload_n 3, 1) := by decide +kernel
theorem dX2_bury_19 : decode cX2_bury 19 = .ok (.aload_n 0, 1) := by decide +kernel
theorem dX2_bury_20 : decode cX2_bury 20 = .ok (.getfield 10, 3) := by decide +kernel
theorem dX2_bury_23 : decode cX2_bury 23 = .ok (.getfield 72, 3) := by decide +kernel
theorem dX2_bury_26 : decode cX2_bury 26 = .ok (.invokevirtual 90, 3) := by decide +kernel
theorem dX2_bury_29 : decode cX2_bury 29 = .ok (.ifCond .eq 13, 3) := by decide +kernel
theorem dX2_bury_32 : decode cX2_bury 32 = .ok (.new 58, 3) := by decide +kernel
theorem dX2_bury_35 : decode cX2_bury 35 = .ok (.dup, 1) := by decide +kernel
theorem dX2_bury_36 : decode cX2_bury 36 = .ok (.ldc 94, 2) := by decide +kernel
theorem dX2_bury_38 : decode cX2_bury 38 = .ok (.invokespecial 62, 3) := by decide +kernel
theorem dX2_bury_41 : decode cX2_bury 41 = .ok (.athrow, 1) := by decide +kernel
theorem dX2_bury_42 : decode cX2_bury 42 = .ok (.aload_n 0, 1) := by decide +kernel
theorem dX2_bury_43 : decode cX2_bury 43 = .ok (.invokevirtual 63, 3) := by decide +kernel
theorem dX2_bury_46 : decode cX2_bury 46 = .ok (.aload_n 0, 1) := by decide +kernel
theorem dX2_bury_47 : decode cX2_bury 47 = .ok (.getfield 10, 3) := by decide +kernel
theorem dX2_bury_50 : decode cX2_bury 50 = .ok (.iload_n 1, 1) := by decide +kernel
theorem dX2_bury_51 : decode cX2_bury 51 = .ok (.iload_n 2, 1) := by decide +kernel
theorem dX2_bury_52 : decode cX2_bury 52 = .ok (.iload_n 3, 1) := by decide +kernel
theorem dX2_bury_53 : decode cX2_bury 53 = .ok (.invokevirtual 96, 3) := by decide +kernel
theorem dX2_bury_56 : decode cX2_bury 56 = .ok (.ireturn, 1) := by decide +kernel
theorem dX2_reserve_0 : decode cX2_reserve 0 = .ok (.iload_n 1, 1) := by decide +kernel
theorem dX2_reserve_1 : decode cX2_reserve 1 = .ok (.invokestatic 81, 3) := by decide +kernel
theorem dX2_reserve_4 : decode cX2_reserve 4 = .ok (.iload_n 2, 1) := by decide +kernel
theorem dX2_reserve_5 : decode cX2_reserve 5 = .ok (.invokestatic 38, 3) := by decide +kernel
theorem dX2_reserve_8 : decode cX2_reserve 8 = .ok (.iload_n 3, 1) := by decide +kernel
theorem dX2_reserve_9 : decode cX2_reserve 9 = .ok (.iconst 1, 1) := by decide +kernel
theorem dX2_reserve_10 : decode cX2_reserve 10 = .ok (.if_icmp .lt 9, 3) := by decide +kernel
theorem dX2_reserve_13 : decode cX2_reserve 13 = .ok (.iload_n 3, 1) := by decide +kernel
theorem dX2_reserve_14 : decode cX2_reserve 14 = .ok (.bipush 50, 2) := by decide +kernel
theorem dX2_reserve_16 : decode cX2_reserve 16 = .ok (.if_icmp .le 13, 3) := by decide +kernel
theorem dX2_reserve_19 : decode cX2_reserve 19 = .ok (.new 49, 3) := by decide +kernel
theorem dX2_reserve_22 : decode cX2_reserve 22 = .ok (.dup, 1) := by decide +kernel
theorem dX2_reserve_23 : decode cX2_reserve 23 = .ok (.ldc 70, 2) := by decide +kernel
theorem dX2_reserve_25 : decode cX2_reserve 25 = .ok (.invokespecial 53, 3) := by decide +kernel
theorem dX2_reserve_28 : decode cX2_reserve 28 = .ok (.athrow, 1) := by decide +kernel
theorem dX2_reserve_29 : decode cX2_reserve 29 = .ok (.aload_n 0, 1) := by decide +kernel
theorem dX2_reserve_30 : decode cX2_reserve 30 = .ok (.getfield 10, 3) := by decide +kernel
theorem dX2_reserve_33 : decode cX2_reserve 33 = .ok (.iload_n 1, 1) := by decide +kernel
theorem dX2_reserve_34 : decode cX2_reserve 34 = .ok (.iload_n 2, 1) := by decide +kernel
theorem dX2_reserve_35 : decode cX2_reserve 35 = .ok (.invokevirtual 100, 3) := by decide +kernel
theorem dX2_reserve_38 : decode cX2_reserve 38 = .ok (.ifCond .ne 13, 3) := by decide +kernel
theorem dX2_reserve_41 : decode cX2_reserve 41 = .ok (.new 58, 3) := by decide +kernel
theorem dX2_reserve_44 : decode cX2_reserve 44 = .ok (.dup, 1) := by decide +kernel
theorem dX2_reserve_45 : decode cX2_reserve 45 = .ok (.ldc 104, 2) := by decide +kernel
theorem dX2_reserve_47 : decode cX2_reserve 47 = .ok (.invokespecial 62, 3) := by decide +kernel
theorem dX2_reserve_50 : decode cX2_reserve 50 = .ok (.athrow, 1) := by decide +kernel
theorem dX2_reserve_51 : decode cX2_reserve 51 = .ok (.aload_n 0, 1) := by decide +kernel
theorem dX2_reserve_52 : decode cX2_reserve 52 = .ok (.invokevirtual 63, 3) := by decide +kernel
theorem dX2_reserve_55 : decode cX2_reserve 55 = .ok (.aload_n 0, 1) := by decide +kernel
theorem dX2_reserve_56 : decode cX2_reserve 56 = .ok (.getfield 10, 3) := by decide +kernel
theorem dX2_reserve_59 : decode cX2_reserve 59 = .ok (.iload_n 1, 1) := by decide +kernel
theorem dX2_reserve_60 : decode cX2_reserve 60 = .ok (.iload_n 2, 1) := by decide +kernel
theorem dX2_reserve_61 : decode cX2_reserve 61 = .ok (.iload_n 3, 1) := by decide +kernel
theorem dX2_reserve_62 : decode cX2_reserve 62 = .ok (.invokevirtual 106, 3) := by decide +kernel
theorem dX2_reserve_65 : decode cX2_reserve 65 = .ok (.ireturn, 1) := by decide +kernel
theorem dX2_buildVault_0 : decode cX2_buildVault 0 = .ok (.iload_n 1, 1) := by decide +kernel
theorem dX2_buildVault_1 : decode cX2_buildVault 1 = .ok (.invokestatic 81, 3) := by decide +kernel
theorem dX2_buildVault_4 : decode cX2_buildVault 4 = .ok (.iload_n 2, 1) := by decide +kernel
theorem dX2_buildVault_5 : decode cX2_buildVault 5 = .ok (.invokestatic 38, 3) := by decide +kernel
theorem dX2_buildVault_8 : decode cX2_buildVault 8 = .ok (.aload_n 0, 1) := by decide +kernel
theorem dX2_buildVault_9 : decode cX2_buildVault 9 = .ok (.getfield 10, 3) := by decide +kernel
theorem dX2_buildVault_12 : decode cX2_buildVault 12 = .ok (.iload_n 1, 1) := by decide +kernel
theorem dX2_buildVault_13 : decode cX2_buildVault 13 = .ok (.iload_n 2, 1) := by decide +kernel
theorem dX2_buildVault_14 : decode cX2_buildVault 14 = .ok (.invokevirtual 109, 3) := by decide +kernel
theorem dX2_buildVault_17 : decode cX2_buildVault 17 = .ok (.ifCond .ne 13, 3) := by decide +kernel
theorem dX2_buildVault_20 : decode cX2_buildVault 20 = .ok (.new 58, 3) := by decide +kernel
theorem dX2_buildVault_23 : decode cX2_buildVault 23 = .ok (.dup, 1) := by decide +kernel
theorem dX2_buildVault_24 : decode cX2_buildVault 24 = .ok (.ldc 112, 2) := by decide +kernel
theorem dX2_buildVault_26 : decode cX2_buildVault 26 = .ok (.invokespecial 62, 3) := by decide +kernel
theorem dX2_buildVault_29 : decode cX2_buildVault 29 = .ok (.athrow, 1) := by decide +kernel
theorem dX2_buildVault_30 : decode cX2_buildVault 30 = .ok (.aload_n 0, 1) := by decide +kernel
theorem dX2_buildVault_31 : decode cX2_buildVault 31 = .ok (.invokevirtual 63, 3) := by decide +kernel
theorem dX2_buildVault_34 : decode cX2_buildVault 34 = .ok (.aload_n 0, 1) := by decide +kernel
theorem dX2_buildVault_35 : decode cX2_buildVault 35 = .ok (.getfield 10, 3) := by decide +kernel
theorem dX2_buildVault_38 : decode cX2_buildVault 38 = .ok (.iload_n 1, 1) := by decide +kernel
theorem dX2_buildVault_39 : decode cX2_buildVault 39 = .ok (.iload_n 2, 1) := by decide +kernel
theorem dX2_buildVault_40 : decode cX2_buildVault 40 = .ok (.invokevirtual 114, 3) := by decide +kernel
theorem dX2_buildVault_43 : decode cX2_buildVault 43 = .ok (.ireturn, 1) := by decide +kernel
theorem dX2_clear_0 : decode cX2_clear 0 = .ok (.iload_n 1, 1) := by decide +kernel
theorem dX2_clear_1 : decode cX2_clear 1 = .ok (.invokestatic 38, 3) := by decide +kernel
theorem dX2_clear_4 : decode cX2_clear 4 = .ok (.aload_n 0, 1) := by decide +kernel
theorem dX2_clear_5 : decode cX2_clear 5 = .ok (.getfield 10, 3) := by decide +kernel
theorem dX2_clear_8 : decode cX2_clear 8 = .ok (.iload_n 1, 1) := by decide +kernel
theorem dX2_clear_9 : decode cX2_clear 9 = .ok (.invokevirtual 117, 3) := by decide +kernel
theorem dX2_clear_12 : decode cX2_clear 12 = .ok (.ifCond .le 13, 3) := by decide +kernel
theorem dX2_clear_15 : decode cX2_clear 15 = .ok (.new 58, 3) := by decide +kernel
theorem dX2_clear_18 : decode cX2_clear 18 = .ok (.dup, 1) := by decide +kernel
theorem dX2_clear_19 : decode cX2_clear 19 = .ok (.ldc 121, 2) := by decide +kernel
theorem dX2_clear_21 : decode cX2_clear 21 = .ok (.invokespecial 62, 3) := by decide +kernel
theorem dX2_clear_24 : decode cX2_clear 24 = .ok (.athrow, 1) := by decide +kernel
theorem dX2_clear_25 : decode cX2_clear 25 = .ok (.aload_n 0, 1) := by decide +kernel
theorem dX2_clear_26 : decode cX2_clear 26 = .ok (.invokevirtual 63, 3) := by decide +kernel
theorem dX2_clear_29 : decode cX2_clear 29 = .ok (.aload_n 0, 1) := by decide +kernel
theorem dX2_clear_30 : decode cX2_clear 30 = .ok (.getfield 10, 3) := by decide +kernel
theorem dX2_clear_33 : decode cX2_clear 33 = .ok (.iload_n 1, 1) := by decide +kernel
theorem dX2_clear_34 : decode cX2_clear 34 = .ok (.invokevirtual 123, 3) := by decide +kernel
theorem dX2_clear_37 : decode cX2_clear 37 = .ok (.ireturn, 1) := by decide +kernel
theorem dX2_plot_0 : decode cX2_plot 0 = .ok (.iload_n 1, 1) := by decide +kernel
theorem dX2_plot_1 : decode cX2_plot 1 = .ok (.invokestatic 38, 3) := by decide +kernel
theorem dX2_plot_4 : decode cX2_plot 4 = .ok (.iload_n 2, 1) := by decide +kernel
theorem dX2_plot_5 : decode cX2_plot 5 = .ok (.bipush 8, 2) := by decide +kernel
theorem dX2_plot_7 : decode cX2_plot 7 = .ok (.invokestatic 148, 3) := by decide +kernel
theorem dX2_plot_10 : decode cX2_plot 10 = .ok (.aload_n 0, 1) := by decide +kernel
theorem dX2_plot_11 : decode cX2_plot 11 = .ok (.getfield 10, 3) := by decide +kernel
theorem dX2_plot_14 : decode cX2_plot 14 = .ok (.iload_n 1, 1) := by decide +kernel
theorem dX2_plot_15 : decode cX2_plot 15 = .ok (.iload_n 2, 1) := by decide +kernel
theorem dX2_plot_16 : decode cX2_plot 16 = .ok (.invokevirtual 152, 3) := by decide +kernel
theorem dX2_plot_19 : decode cX2_plot 19 = .ok (.ireturn, 1) := by decide +kernel
theorem dX2_burial_0 : decode cX2_burial 0 = .ok (.iload_n 1, 1) := by decide +kernel
theorem dX2_burial_1 : decode cX2_burial 1 = .ok (.invokestatic 38, 3) := by decide +kernel
theorem dX2_burial_4 : decode cX2_burial 4 = .ok (.iload_n 2, 1) := by decide +kernel
theorem dX2_burial_5 : decode cX2_burial 5 = .ok (.invokestatic 155, 3) := by decide +kernel
theorem dX2_burial_8 : decode cX2_burial 8 = .ok (.ifCond .ne 13, 3) := by decide +kernel
theorem dX2_burial_11 : decode cX2_burial 11 = .ok (.new 42, 3) := by decide +kernel
theorem dX2_burial_14 : decode cX2_burial 14 = .ok (.dup, 1) := by decide +kernel
theorem dX2_burial_15 : decode cX2_burial 15 = .ok (.ldc 158, 2) := by decide +kernel
theorem dX2_burial_17 : decode cX2_burial 17 = .ok (.invokespecial 46, 3) := by decide +kernel
theorem dX2_burial_20 : decode cX2_burial 20 = .ok (.athrow, 1) := by decide +kernel
theorem dX2_burial_21 : decode cX2_burial 21 = .ok (.iload_n 3, 1) := by decide +kernel
theorem dX2_burial_22 : decode cX2_burial 22 = .ok (.iconst 3, 1) := by decide +kernel
theorem dX2_burial_23 : decode cX2_burial 23 = .ok (.invokestatic 148, 3) := by decide +kernel
theorem dX2_burial_26 : decode cX2_burial 26 = .ok (.aload_n 0, 1) := by decide +kernel
theorem dX2_burial_27 : decode cX2_burial 27 = .ok (.getfield 10, 3) := by decide +kernel
theorem dX2_burial_30 : decode cX2_burial 30 = .ok (.iload_n 1, 1) := by decide +kernel
theorem dX2_burial_31 : decode cX2_burial 31 = .ok (.iload_n 2, 1) := by decide +kernel
theorem dX2_burial_32 : decode cX2_burial 32 = .ok (.iload_n 3, 1) := by decide +kernel
theorem dX2_burial_33 : decode cX2_burial 33 = .ok (.invokevirtual 160, 3) := by decide +kernel
theorem dX2_burial_36 : decode cX2_burial 36 = .ok (.ireturn, 1) := by decide +kernel
theorem dX2_family_0 : decode cX2_family 0 = .ok (.iload_n 1, 1) := by decide +kernel
theorem dX2_family_1 : decode cX2_family 1 = .ok (.invokestatic 81, 3) := by decide +kernel
theorem dX2_family_4 : decode cX2_family 4 = .ok (.iload_n 2, 1) := by decide +kernel
theorem dX2_family_5 : decode cX2_family 5 = .ok (.iconst 5, 1) := by decide +kernel
theorem dX2_family_6 : decode cX2_family 6 = .ok (.invokestatic 148, 3) := by decide +kernel
theorem dX2_family_9 : decode cX2_family 9 = .ok (.aload_n 0, 1) := by decide +kernel
theorem dX2_family_10 : decode cX2_family 10 = .ok (.getfield 10, 3) := by decide +kernel
theorem dX2_family_13 : decode cX2_family 13 = .ok (.iload_n 1, 1) := by decide +kernel
theorem dX2_family_14 : decode cX2_family 14 = .ok (.iload_n 2, 1) := by decide +kernel
theorem dX2_family_15 : decode cX2_family 15 = .ok (.invokevirtual 163, 3) := by decide +kernel
theorem dX2_family_18 : decode cX2_family 18 = .ok (.ireturn, 1) := by decide +kernel
theorem dX2_count_0 : decode cX2_count 0 = .ok (.iload_n 1, 1) := by decide +kernel
theorem dX2_count_1 : decode cX2_count 1 = .ok (.bipush 8, 2) := by decide +kernel
theorem dX2_count_3 : decode cX2_count 3 = .ok (.invokestatic 148, 3) := by decide +kernel
theorem dX2_count_6 : decode cX2_count 6 = .ok (.aload_n 0, 1) := by decide +kernel
theorem dX2_count_7 : decode cX2_count 7 = .ok (.iload_n 1, 1) := by decide +kernel
theorem dX2_count_8 : decode cX2_count 8 = .ok (.invokevirtual 166, 3) := by decide +kernel
theorem dX2_count_11 : decode cX2_count 11 = .ok (.ireturn, 1) := by decide +kernel
theorem dX2_why_0 : decode cX2_why 0 = .ok (.iload_n 1, 1) := by decide +kernel
theorem dX2_why_1 : decode cX2_why 1 = .ok (.invokestatic 81, 3) := by decide +kernel
theorem dX2_why_4 : decode cX2_why 4 = .ok (.iload_n 2, 1) := by decide +kernel
theorem dX2_why_5 : decode cX2_why 5 = .ok (.invokestatic 38, 3) := by decide +kernel
theorem dX2_why_8 : decode cX2_why 8 = .ok (.iload_n 3, 1) := by decide +kernel
theorem dX2_why_9 : decode cX2_why 9 = .ok (.invokestatic 87, 3) := by decide +kernel
theorem dX2_why_12 : decode cX2_why 12 = .ok (.aload_n 0, 1) := by decide +kernel
theorem dX2_why_13 : decode cX2_why 13 = .ok (.getfield 10, 3) := by decide +kernel
theorem dX2_why_16 : decode cX2_why 16 = .ok (.iload_n 1, 1) := by decide +kernel
theorem dX2_why_17 : decode cX2_why 17 = .ok (.iload_n 2, 1) := by decide +kernel
theorem dX2_why_18 : decode cX2_why 18 = .ok (.iload_n 3, 1) := by decide +kernel
theorem dX2_why_19 : decode cX2_why 19 = .ok (.aload_n 0, 1) := by decide +kernel
theorem dX2_why_20 : decode cX2_why 20 = .ok (.getfield 10, 3) := by decide +kernel
theorem dX2_why_23 : decode cX2_why 23 = .ok (.getfield 72, 3) := by decide +kernel
theorem dX2_why_26 : decode cX2_why 26 = .ok (.invokevirtual 90, 3) := by decide +kernel
theorem dX2_why_29 : decode cX2_why 29 = .ok (.ireturn, 1) := by decide +kernel
theorem dX2_fee_0 : decode cX2_fee 0 = .ok (.iload_n 1, 1) := by decide +kernel
theorem dX2_fee_1 : decode cX2_fee 1 = .ok (.invokestatic 81, 3) := by decide +kernel
theorem dX2_fee_4 : decode cX2_fee 4 = .ok (.iload_n 2, 1) := by decide +kernel
theorem dX2_fee_5 : decode cX2_fee 5 = .ok (.invokestatic 38, 3) := by decide +kernel
theorem dX2_fee_8 : decode cX2_fee 8 = .ok (.iload_n 3, 1) := by decide +kernel
theorem dX2_fee_9 : decode cX2_fee 9 = .ok (.invokestatic 87, 3) := by decide +kernel
theorem dX2_fee_12 : decode cX2_fee 12 = .ok (.aload_n 0, 1) := by decide +kernel
theorem dX2_fee_13 : decode cX2_fee 13 = .ok (.getfield 10, 3) := by decide +kernel
theorem dX2_fee_16 : decode cX2_fee 16 = .ok (.iload_n 1, 1) := by decide +kernel
theorem dX2_fee_17 : decode cX2_fee 17 = .ok (.iload_n 2, 1) := by decide +kernel
theorem dX2_fee_18 : decode cX2_fee 18 = .ok (.iload_n 3, 1) := by decide +kernel
theorem dX2_fee_19 : decode cX2_fee 19 = .ok (.invokevirtual 169, 3) := by decide +kernel
theorem dX2_fee_22 : decode cX2_fee 22 = .ok (.ireturn, 1) := by decide +kernel
theorem dX2_deepest_0 : decode cX2_deepest 0 = .ok (.iload_n 1, 1) := by decide +kernel
theorem dX2_deepest_1 : decode cX2_deepest 1 = .ok (.invokestatic 81, 3) := by decide +kernel
theorem dX2_deepest_4 : decode cX2_deepest 4 = .ok (.iload_n 2, 1) := by decide +kernel
theorem dX2_deepest_5 : decode cX2_deepest 5 = .ok (.invokestatic 38, 3) := by decide +kernel
theorem dX2_deepest_8 : decode cX2_deepest 8 = .ok (.iconst 3, 1) := by decide +kernel
theorem dX2_deepest_9 : decode cX2_deepest 9 = .ok (.istore_n 3, 1) := by decide +kernel
theorem dX2_deepest_10 : decode cX2_deepest 10 = .ok (.iload_n 3, 1) := by decide +kernel
theorem dX2_deepest_11 : decode cX2_deepest 11 = .ok (.iconst 1, 1) := by decide +kernel
theorem dX2_deepest_12 : decode cX2_deepest 12 = .ok (.if_icmp .lt 31, 3) := by decide +kernel
theorem dX2_deepest_15 : decode cX2_deepest 15 = .ok (.aload_n 0, 1) := by decide +kernel
theorem dX2_deepest_16 : decode cX2_deepest 16 = .ok (.getfield 10, 3) := by decide +kernel
theorem dX2_deepest_19 : decode cX2_deepest 19 = .ok (.iload_n 1, 1) := by decide +kernel
theorem dX2_deepest_20 : decode cX2_deepest 20 = .ok (.iload_n 2, 1) := by decide +kernel
theorem dX2_deepest_21 : decode cX2_deepest 21 = .ok (.iload_n 3, 1) := by decide +kernel
theorem dX2_deepest_22 : decode cX2_deepest 22 = .ok (.aload_n 0, 1) := by decide +kernel
theorem dX2_deepest_23 : decode cX2_deepest 23 = .ok (.getfield 10, 3) := by decide +kernel
theorem dX2_deepest_26 : decode cX2_deepest 26 = .ok (.getfield 72, 3) := by decide +kernel
theorem dX2_deepest_29 : decode cX2_deepest 29 = .ok (.invokevirtual 90, 3) := by decide +kernel
theorem dX2_deepest_32 : decode cX2_deepest 32 = .ok (.ifCond .ne 5, 3) := by decide +kernel
theorem dX2_deepest_35 : decode cX2_deepest 35 = .ok (.iload_n 3, 1) := by decide +kernel
theorem dX2_deepest_36 : decode cX2_deepest 36 = .ok (.ireturn, 1) := by decide +kernel
theorem dX2_deepest_37 : decode cX2_deepest 37 = .ok (.iinc 3 (-1), 3) := by decide +kernel
theorem dX2_deepest_40 : decode cX2_deepest 40 = .ok (.goto (-30), 3) := by decide +kernel

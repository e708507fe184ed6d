theorem dX1_openPlots_20 : decode cX1_openPlots 20 = .ok (.aload_n 0, 1) := by decide +kernel
theorem dX1_openPlots_21 : decode cX1_openPlots 21 = .ok (.iload_n 3, 1) := by decide +kernel
theorem dX1_openPlots_22 : decode cX1_openPlots 22 = .ok (.invokevirtual 58, 3) := by decide +kernel
theorem dX1_openPlots_25 : decode cX1_openPlots 25 = .ok (.ifCond .ne 10, 3) := by decide +kernel
theorem dX1_openPlots_28 : decode cX1_openPlots 28 = .ok (.lload_n 1, 1) := by decide +kernel
theorem dX1_openPlots_29 : decode cX1_openPlots 29 = .ok (.iload_n 3, 1) := by decide +kernel
theorem dX1_openPlots_30 : decode cX1_openPlots 30 = .ok (.invokestatic 114, 3) := by decide +kernel
theorem dX1_openPlots_33 : decode cX1_openPlots 33 = .ok (.lor, 1) := by decide +kernel
theorem dX1_openPlots_34 : decode cX1_openPlots 34 = .ok (.lstore_n 1, 1) := by decide +kernel
theorem dX1_openPlots_35 : decode cX1_openPlots 35 = .ok (.iinc 3 1, 3) := by decide +kernel
theorem dX1_openPlots_38 : decode cX1_openPlots 38 = .ok (.goto (-34), 3) := by decide +kernel
theorem dX1_openPlots_41 : decode cX1_openPlots 41 = .ok (.lload_n 1, 1) := by decide +kernel
theorem dX1_openPlots_42 : decode cX1_openPlots 42 = .ok (.lreturn, 1) := by decide +kernel
theorem dX1_soilPlots_0 : decode cX1_soilPlots 0 = .ok (.lconst 0, 1) := by decide +kernel
theorem dX1_soilPlots_1 : decode cX1_soilPlots 1 = .ok (.lstore_n 1, 1) := by decide +kernel
theorem dX1_soilPlots_2 : decode cX1_soilPlots 2 = .ok (.iconst 0, 1) := by decide +kernel
theorem dX1_soilPlots_3 : decode cX1_soilPlots 3 = .ok (.istore_n 3, 1) := by decide +kernel
theorem dX1_soilPlots_4 : decode cX1_soilPlots 4 = .ok (.iload_n 3, 1) := by decide +kernel
theorem dX1_soilPlots_5 : decode cX1_soilPlots 5 = .ok (.bipush 40, 2) := by decide +kernel
theorem dX1_soilPlots_7 : decode cX1_soilPlots 7 = .ok (.if_icmp .ge 26, 3) := by decide +kernel
theorem dX1_soilPlots_10 : decode cX1_soilPlots 10 = .ok (.aload_n 0, 1) := by decide +kernel
theorem dX1_soilPlots_11 : decode cX1_soilPlots 11 = .ok (.getfield 25, 3) := by decide +kernel
theorem dX1_soilPlots_14 : decode cX1_soilPlots 14 = .ok (.iload_n 3, 1) := by decide +kernel
theorem dX1_soilPlots_15 : decode cX1_soilPlots 15 = .ok (.iaload, 1) := by decide +kernel
theorem dX1_soilPlots_16 : decode cX1_soilPlots 16 = .ok (.iconst 3, 1) := by decide +kernel
theorem dX1_soilPlots_17 : decode cX1_soilPlots 17 = .ok (.if_icmp .eq 10, 3) := by decide +kernel
theorem dX1_soilPlots_20 : decode cX1_soilPlots 20 = .ok (.lload_n 1, 1) := by decide +kernel
theorem dX1_soilPlots_21 : decode cX1_soilPlots 21 = .ok (.iload_n 3, 1) := by decide +kernel
theorem dX1_soilPlots_22 : decode cX1_soilPlots 22 = .ok (.invokestatic 114, 3) := by decide +kernel
theorem dX1_soilPlots_25 : decode cX1_soilPlots 25 = .ok (.lor, 1) := by decide +kernel
theorem dX1_soilPlots_26 : decode cX1_soilPlots 26 = .ok (.lstore_n 1, 1) := by decide +kernel
theorem dX1_soilPlots_27 : decode cX1_soilPlots 27 = .ok (.iinc 3 1, 3) := by decide +kernel
theorem dX1_soilPlots_30 : decode cX1_soilPlots 30 = .ok (.goto (-26), 3) := by decide +kernel
theorem dX1_soilPlots_33 : decode cX1_soilPlots 33 = .ok (.lload_n 1, 1) := by decide +kernel
theorem dX1_soilPlots_34 : decode cX1_soilPlots 34 = .ok (.lreturn, 1) := by decide +kernel
theorem dX1_neighboursOf_0 : decode cX1_neighboursOf 0 = .ok (.lload_n 0, 1) := by decide +kernel
theorem dX1_neighboursOf_1 : decode cX1_neighboursOf 1 = .ok (.bipush 8, 2) := by decide +kernel
theorem dX1_neighboursOf_3 : decode cX1_neighboursOf 3 = .ok (.lshl, 1) := by decide +kernel
theorem dX1_neighboursOf_4 : decode cX1_neighboursOf 4 = .ok (.lload_n 0, 1) := by decide +kernel
theorem dX1_neighboursOf_5 : decode cX1_neighboursOf 5 = .ok (.bipush 8, 2) := by decide +kernel
theorem dX1_neighboursOf_7 : decode cX1_neighboursOf 7 = .ok (.lushr, 1) := by decide +kernel
theorem dX1_neighboursOf_8 : decode cX1_neighboursOf 8 = .ok (.lor, 1) := by decide +kernel
theorem dX1_neighboursOf_9 : decode cX1_neighboursOf 9 = .ok (.lstore_n 2, 1) := by decide +kernel
theorem dX1_neighboursOf_10 : decode cX1_neighboursOf 10 = .ok (.lload_n 0, 1) := by decide +kernel
theorem dX1_neighboursOf_11 : decode cX1_neighboursOf 11 = .ok (.ldc2_w 118, 3) := by decide +kernel
theorem dX1_neighboursOf_14 : decode cX1_neighboursOf 14 = .ok (.land, 1) := by decide +kernel
theorem dX1_neighboursOf_15 : decode cX1_neighboursOf 15 = .ok (.iconst 1, 1) := by decide +kernel
theorem dX1_neighboursOf_16 : decode cX1_neighboursOf 16 = .ok (.lshl, 1) := by decide +kernel
theorem dX1_neighboursOf_17 : decode cX1_neighboursOf 17 = .ok (.lload_n 0, 1) := by decide +kernel
theorem dX1_neighboursOf_18 : decode cX1_neighboursOf 18 = .ok (.ldc2_w 120, 3) := by decide +kernel
theorem dX1_neighboursOf_21 : decode cX1_neighboursOf 21 = .ok (.land, 1) := by decide +kernel
theorem dX1_neighboursOf_22 : decode cX1_neighboursOf 22 = .ok (.iconst 1, 1) := by decide +kernel
theorem dX1_neighboursOf_23 : decode cX1_neighboursOf 23 = .ok (.lushr, 1) := by decide +kernel
theorem dX1_neighboursOf_24 : decode cX1_neighboursOf 24 = .ok (.lor, 1) := by decide +kernel
theorem dX1_neighboursOf_25 : decode cX1_neighboursOf 25 = .ok (.lstore 4, 2) := by decide +kernel
theorem dX1_neighboursOf_27 : decode cX1_neighboursOf 27 = .ok (.lload_n 2, 1) := by decide +kernel
theorem dX1_neighboursOf_28 : decode cX1_neighboursOf 28 = .ok (.lload 4, 2) := by decide +kernel
theorem dX1_neighboursOf_30 : decode cX1_neighboursOf 30 = .ok (.lor, 1) := by decide +kernel
theorem dX1_neighboursOf_31 : decode cX1_neighboursOf 31 = .ok (.ldc2_w 46, 3) := by decide +kernel
theorem dX1_neighboursOf_34 : decode cX1_neighboursOf 34 = .ok (.land, 1) := by decide +kernel
theorem dX1_neighboursOf_35 : decode cX1_neighboursOf 35 = .ok (.lreturn, 1) := by decide +kernel
theorem dX1_reachedWithout_0 : decode cX1_reachedWithout 0 = .ok (.aload_n 0, 1) := by decide +kernel
theorem dX1_reachedWithout_1 : decode cX1_reachedWithout 1 = .ok (.invokevirtual 122, 3) := by decide +kernel
theorem dX1_reachedWithout_4 : decode cX1_reachedWithout 4 = .ok (.lload_n 1, 1) := by decide +kernel
theorem dX1_reachedWithout_5 : decode cX1_reachedWithout 5 = .ok (.ldc2_w 126, 3) := by decide +kernel
theorem dX1_reachedWithout_8 : decode cX1_reachedWithout 8 = .ok (.lxor, 1) := by decide +kernel
theorem dX1_reachedWithout_9 : decode cX1_reachedWithout 9 = .ok (.land, 1) := by decide +kernel
theorem dX1_reachedWithout_10 : decode cX1_reachedWithout 10 = .ok (.lstore_n 3, 1) := by decide +kernel
theorem dX1_reachedWithout_11 : decode cX1_reachedWithout 11 = .ok (.lconst 1, 1) := by decide +kernel
theorem dX1_reachedWithout_12 : decode cX1_reachedWithout 12 = .ok (.lload_n 3, 1) := by decide +kernel
theorem dX1_reachedWithout_13 : decode cX1_reachedWithout 13 = .ok (.land, 1) := by decide +kernel
theorem dX1_reachedWithout_14 : decode cX1_reachedWithout 14 = .ok (.lstore 5, 2) := by decide +kernel
theorem dX1_reachedWithout_16 : decode cX1_reachedWithout 16 = .ok (.iconst 0, 1) := by decide +kernel
theorem dX1_reachedWithout_17 : decode cX1_reachedWithout 17 = .ok (.istore 7, 2) := by decide +kernel
theorem dX1_reachedWithout_19 : decode cX1_reachedWithout 19 = .ok (.iload 7, 2) := by decide +kernel
theorem dX1_reachedWithout_21 : decode cX1_reachedWithout 21 = .ok (.bipush 40, 2) := by decide +kernel
theorem dX1_reachedWithout_23 : decode cX1_reachedWithout 23 = .ok (.if_icmp .ge 21, 3) := by decide +kernel
theorem dX1_reachedWithout_26 : decode cX1_reachedWithout 26 = .ok (.lload 5, 2) := by decide +kernel
theorem dX1_reachedWithout_28 : decode cX1_reachedWithout 28 = .ok (.lload 5, 2) := by decide +kernel
theorem dX1_reachedWithout_30 : decode cX1_reachedWithout 30 = .ok (.invokestatic 128, 3) := by decide +kernel
theorem dX1_reachedWithout_33 : decode cX1_reachedWithout 33 = .ok (.lload_n 3, 1) := by decide +kernel
theorem dX1_reachedWithout_34 : decode cX1_reachedWithout 34 = .ok (.land, 1) := by decide +kernel
theorem dX1_reachedWithout_35 : decode cX1_reachedWithout 35 = .ok (.lor, 1) := by decide +kernel
theorem dX1_reachedWithout_36 : decode cX1_reachedWithout 36 = .ok (.lstore 5, 2) := by decide +kernel
theorem dX1_reachedWithout_38 : decode cX1_reachedWithout 38 = .ok (.iinc 7 1, 3) := by decide +kernel
theorem dX1_reachedWithout_41 : decode cX1_reachedWithout 41 = .ok (.goto (-22), 3) := by decide +kernel
theorem dX1_reachedWithout_44 : decode cX1_reachedWithout 44 = .ok (.lload 5, 2) := by decide +kernel
theorem dX1_reachedWithout_46 : decode cX1_reachedWithout 46 = .ok (.invokestatic 128, 3) := by decide +kernel
theorem dX1_reachedWithout_49 : decode cX1_reachedWithout 49 = .ok (.lconst 1, 1) := by decide +kernel
theorem dX1_reachedWithout_50 : decode cX1_reachedWithout 50 = .ok (.lor, 1) := by decide +kernel
theorem dX1_reachedWithout_51 : decode cX1_reachedWithout 51 = .ok (.lreturn, 1) := by decide +kernel
theorem dX1_lostWithout_0 : decode cX1_lostWithout 0 = .ok (.aload_n 0, 1) := by decide +kernel
theorem dX1_lostWithout_1 : decode cX1_lostWithout 1 = .ok (.getfield 48, 3) := by decide +kernel
theorem dX1_lostWithout_4 : decode cX1_lostWithout 4 = .ok (.aload_n 0, 1) := by decide +kernel
theorem dX1_lostWithout_5 : decode cX1_lostWithout 5 = .ok (.iload_n 1, 1) := by decide +kernel
theorem dX1_lostWithout_6 : decode cX1_lostWithout 6 = .ok (.invokestatic 114, 3) := by decide +kernel
theorem dX1_lostWithout_9 : decode cX1_lostWithout 9 = .ok (.invokevirtual 70, 3) := by decide +kernel
theorem dX1_lostWithout_12 : decode cX1_lostWithout 12 = .ok (.ldc2_w 126, 3) := by decide +kernel
theorem dX1_lostWithout_15 : decode cX1_lostWithout 15 = .ok (.lxor, 1) := by decide +kernel
theorem dX1_lostWithout_16 : decode cX1_lostWithout 16 = .ok (.land, 1) := by decide +kernel
theorem dX1_lostWithout_17 : decode cX1_lostWithout 17 = .ok (.lstore_n 2, 1) := by decide +kernel
theorem dX1_lostWithout_18 : decode cX1_lostWithout 18 = .ok (.lload_n 2, 1) := by decide +kernel
theorem dX1_lostWithout_19 : decode cX1_lostWithout 19 = .ok (.aload_n 0, 1) := by decide +kernel
theorem dX1_lostWithout_20 : decode cX1_lostWithout 20 = .ok (.invokevirtual 131, 3) := by decide +kernel
theorem dX1_lostWithout_23 : decode cX1_lostWithout 23 = .ok (.land, 1) := by decide +kernel
theorem dX1_lostWithout_24 : decode cX1_lostWithout 24 = .ok (.iload_n 1, 1) := by decide +kernel
theorem dX1_lostWithout_25 : decode cX1_lostWithout 25 = .ok (.invokestatic 114, 3) := by decide +kernel
theorem dX1_lostWithout_28 : decode cX1_lostWithout 28 = .ok (.ldc2_w 126, 3) := by decide +kernel
theorem dX1_lostWithout_31 : decode cX1_lostWithout 31 = .ok (.lxor, 1) := by decide +kernel
theorem dX1_lostWithout_32 : decode cX1_lostWithout 32 = .ok (.land, 1) := by decide +kernel
theorem dX1_lostWithout_33 : decode cX1_lostWithout 33 = .ok (.invokestatic 134, 3) := by decide +kernel
theorem dX1_lostWithout_36 : decode cX1_lostWithout 36 = .ok (.ireturn, 1) := by decide +kernel
theorem dX1_refusal_0 : decode cX1_refusal 0 = .ok (.aload_n 0, 1) := by decide +kernel
theorem dX1_refusal_1 : decode cX1_refusal 1 = .ok (.getfield 25, 3) := by decide +kernel
theorem dX1_refusal_4 : decode cX1_refusal 4 = .ok (.iload_n 2, 1) := by decide +kernel
theorem dX1_refusal_5 : decode cX1_refusal 5 = .ok (.iaload, 1) := by decide +kernel
theorem dX1_refusal_6 : decode cX1_refusal 6 = .ok (.iconst 3, 1) := by decide +kernel
theorem dX1_refusal_7 : decode cX1_refusal 7 = .ok (.if_icmp .ne 5, 3) := by decide +kernel
theorem dX1_refusal_10 : decode cX1_refusal 10 = .ok (.iconst 1, 1) := by decide +kernel
theorem dX1_refusal_11 : decode cX1_refusal 11 = .ok (.ireturn, 1) := by decide +kernel
theorem dX1_refusal_12 : decode cX1_refusal 12 = .ok (.aload_n 0, 1) := by decide +kernel
theorem dX1_refusal_13 : decode cX1_refusal 13 = .ok (.iload_n 2, 1) := by decide +kernel
theorem dX1_refusal_14 : decode cX1_refusal 14 = .ok (.iload 4, 2) := by decide +kernel
theorem dX1_refusal_16 : decode cX1_refusal 16 = .ok (.invokevirtual 74, 3) := by decide +kernel
theorem dX1_refusal_19 : decode cX1_refusal 19 = .ok (.iload_n 1, 1) := by decide +kernel
theorem dX1_refusal_20 : decode cX1_refusal 20 = .ok (.invokestatic 77, 3) := by decide +kernel
theorem dX1_refusal_23 : decode cX1_refusal 23 = .ok (.ifCond .eq 5, 3) := by decide +kernel
theorem dX1_refusal_26 : decode cX1_refusal 26 = .ok (.iconst 2, 1) := by decide +kernel
theorem dX1_refusal_27 : decode cX1_refusal 27 = .ok (.ireturn, 1) := by decide +kernel
theorem dX1_refusal_28 : decode cX1_refusal 28 = .ok (.iload_n 3, 1) := by decide +kernel
theorem dX1_refusal_29 : decode cX1_refusal 29 = .ok (.aload_n 0, 1) := by decide +kernel
theorem dX1_refusal_30 : decode cX1_refusal 30 = .ok (.iload_n 2, 1) := by decide +kernel
theorem dX1_refusal_31 : decode cX1_refusal 31 = .ok (.invokevirtual 140, 3) := by decide +kernel
theorem dX1_refusal_34 : decode cX1_refusal 34 = .ok (.if_icmp .le 5, 3) := by decide +kernel
theorem dX1_refusal_37 : decode cX1_refusal 37 = .ok (.iconst 3, 1) := by decide +kernel
theorem dX1_refusal_38 : decode cX1_refusal 38 = .ok (.ireturn, 1) := by decide +kernel
theorem dX1_refusal_39 : decode cX1_refusal 39 = .ok (.iload_n 3, 1) := by decide +kernel
theorem dX1_refusal_40 : decode cX1_refusal 40 = .ok (.aload_n 0, 1) := by decide +kernel
theorem dX1_refusal_41 : decode cX1_refusal 41 = .ok (.iload_n 2, 1) := by decide +kernel
theorem dX1_refusal_42 : decode cX1_refusal 42 = .ok (.invokevirtual 143, 3) := by decide +kernel
theorem dX1_refusal_45 : decode cX1_refusal 45 = .ok (.if_icmp .le 5, 3) := by decide +kernel
theorem dX1_refusal_48 : decode cX1_refusal 48 = .ok (.iconst 4, 1) := by decide +kernel
theorem dX1_refusal_49 : decode cX1_refusal 49 = .ok (.ireturn, 1) := by decide +kernel
theorem dX1_refusal_50 : decode cX1_refusal 50 = .ok (.aload_n 0, 1) := by decide +kernel
theorem dX1_refusal_51 : decode cX1_refusal 51 = .ok (.iload_n 2, 1) := by decide +kernel
theorem dX1_refusal_52 : decode cX1_refusal 52 = .ok (.invokevirtual 87, 3) := by decide +kernel
theorem dX1_refusal_55 : decode cX1_refusal 55 = .ok (.ifCond .ne 5, 3) := by decide +kernel
theorem dX1_refusal_58 : decode cX1_refusal 58 = .ok (.iconst 5, 1) := by decide +kernel
theorem dX1_refusal_59 : decode cX1_refusal 59 = .ok (.ireturn, 1) := by decide +kernel
theorem dX1_refusal_60 : decode cX1_refusal 60 = .ok (.aload_n 0, 1) := by decide +kernel
theorem dX1_refusal_61 : decode cX1_refusal 61 = .ok (.getfield 28, 3) := by decide +kernel
theorem dX1_refusal_64 : decode cX1_refusal 64 = .ok (.iload_n 2, 1) := by decide +kernel
theorem dX1_refusal_65 : decode cX1_refusal 65 = .ok (.iaload, 1) := by decide +kernel
theorem dX1_refusal_66 : decode cX1_refusal 66 = .ok (.iconst (-1), 1) := by decide +kernel
theorem dX1_refusal_67 : decode cX1_refusal 67 = .ok (.if_icmp .eq 14, 3) := by decide +kernel
theorem dX1_refusal_70 : decode cX1_refusal 70 = .ok (.aload_n 0, 1) := by decide +kernel
theorem dX1_refusal_71 : decode cX1_refusal 71 = .ok (.iload_n 2, 1) := by decide +kernel
theorem dX1_refusal_72 : decode cX1_refusal 72 = .ok (.iload_n 3, 1) := by decide +kernel
theorem dX1_refusal_73 : decode cX1_refusal 73 = .ok (.iload 4, 2) := by decide +kernel
theorem dX1_refusal_75 : decode cX1_refusal 75 = .ok (.invokevirtual 146, 3) := by decide +kernel
theorem dX1_refusal_78 : decode cX1_refusal 78 = .ok (.goto 4, 3) := by decide +kernel
theorem dX1_refusal_81 : decode cX1_refusal 81 = .ok (.iconst 0, 1) := by decide +kernel
theorem dX1_refusal_82 : decode cX1_refusal 82 = .ok (.ireturn, 1) := by decide +kernel
theorem dX1_vaultRefusal_0 : decode cX1_vaultRefusal 0 = .ok (.aload_n 0, 1) := by decide +kernel
theorem dX1_vaultRefusal_1 : decode cX1_vaultRefusal 1 = .ok (.iload_n 1, 1) := by decide +kernel
theorem dX1_vaultRefusal_2 : decode cX1_vaultRefusal 2 = .ok (.invokevirtual 58, 3) := by decide +kernel
theorem dX1_vaultRefusal_5 : decode cX1_vaultRefusal 5 = .ok (.ifCond .le 17, 3) := by decide +kernel
theorem dX1_vaultRefusal_8 : decode cX1_vaultRefusal 8 = .ok (.iload_n 3, 1) := by decide +kernel
theorem dX1_vaultRefusal_9 : decode cX1_vaultRefusal 9 = .ok (.aload_n 0, 1) := by decide +kernel
theorem dX1_vaultRefusal_10 : decode cX1_vaultRefusal 10 = .ok (.iload_n 1, 1) := by decide +kernel
theorem dX1_vaultRefusal_11 : decode cX1_vaultRefusal 11 = .ok (.invokevirtual 149, 3) := by decide +kernel
theorem dX1_vaultRefusal_14 : decode cX1_vaultRefusal 14 = .ok (.iconst 2, 1) := by decide +kernel
theorem dX1_vaultRefusal_15 : decode cX1_vaultRefusal 15 = .ok (.iadd, 1) := by decide +kernel
theorem dX1_vaultRefusal_16 : decode cX1_vaultRefusal 16 = .ok (.if_icmp .ge 6, 3) := by decide +kernel
theorem dX1_vaultRefusal_19 : decode cX1_vaultRefusal 19 = .ok (.bipush 6, 2) := by decide +kernel
theorem dX1_vaultRefusal_21 : decode cX1_vaultRefusal 21 = .ok (.ireturn, 1) := by decide +kernel
theorem dX1_vaultRefusal_22 : decode cX1_vaultRefusal 22 = .ok (.iload_n 2, 1) := by decide +kernel
theorem dX1_vaultRefusal_23 : decode cX1_vaultRefusal 23 = .ok (.aload_n 0, 1) := by decide +kernel
theorem dX1_vaultRefusal_24 : decode cX1_vaultRefusal 24 = .ok (.iload_n 1, 1) := by decide +kernel
theorem dX1_vaultRefusal_25 : decode cX1_vaultRefusal 25 = .ok (.invokevirtual 143, 3) := by decide +kernel
theorem dX1_vaultRefusal_28 : decode cX1_vaultRefusal 28 = .ok (.aload_n 0, 1) := by decide +kernel
theorem dX1_vaultRefusal_29 : decode cX1_vaultRefusal 29 = .ok (.iload_n 1, 1) := by decide +kernel
theorem dX1_vaultRefusal_30 : decode cX1_vaultRefusal 30 = .ok (.invokevirtual 140, 3) := by decide +kernel
theorem dX1_vaultRefusal_33 : decode cX1_vaultRefusal 33 = .ok (.invokestatic 152, 3) := by decide +kernel
theorem dX1_vaultRefusal_36 : decode cX1_vaultRefusal 36 = .ok (.if_icmp .eq 8, 3) := by decide +kernel
theorem dX1_vaultRefusal_39 : decode cX1_vaultRefusal 39 = .ok (.bipush 7, 2) := by decide +kernel
theorem dX1_vaultRefusal_41 : decode cX1_vaultRefusal 41 = .ok (.goto 4, 3) := by decide +kernel
theorem dX1_vaultRefusal_44 : decode cX1_vaultRefusal 44 = .ok (.iconst 0, 1) := by decide +kernel
theorem dX1_vaultRefusal_45 : decode cX1_vaultRefusal 45 = .ok (.ireturn, 1) := by decide +kernel
theorem dX1_freeDepth_0 : decode cX1_freeDepth 0 = .ok (.iload_n 1, 1) := by decide +kernel
theorem dX1_freeDepth_1 : decode cX1_freeDepth 1 = .ok (.iconst 3, 1) := by decide +kernel
theorem dX1_freeDepth_2 : decode cX1_freeDepth 2 = .ok (.imul, 1) := by decide +kernel
theorem dX1_freeDepth_3 : decode cX1_freeDepth 3 = .ok (.istore_n 2, 1) := by decide +kernel
theorem dX1_freeDepth_4 : decode cX1_freeDepth 4 = .ok (.iconst 0, 1) := by decide +kernel
theorem dX1_freeDepth_5 : decode cX1_freeDepth 5 = .ok (.istore_n 3, 1) := by decide +kernel
theorem dX1_freeDepth_6 : decode cX1_freeDepth 6 = .ok (.iload_n 3, 1) := by decide +kernel
theorem dX1_freeDepth_7 : decode cX1_freeDepth 7 = .ok (.iconst 3, 1) := by decide +kernel
theorem dX1_freeDepth_8 : decode cX1_freeDepth 8 = .ok (.if_icmp .ge 21, 3) := by decide +kernel
theorem dX1_freeDepth_11 : decode cX1_freeDepth 11 = .ok (.aload_n 0, 1) := by decide +kernel
theorem dX1_freeDepth_12 : decode cX1_freeDepth 12 = .ok (.getfield 37, 3) := by decide +kernel
theorem dX1_freeDepth_15 : decode cX1_freeDepth 15 = .ok (.iload_n 2, 1) := by decide +kernel
theorem dX1_freeDepth_16 : decode cX1_freeDepth 16 = .ok (.iload_n 3, 1) := by decide +kernel
theorem dX1_freeDepth_17 : decode cX1_freeDepth 17 = .ok (.iadd, 1) := by decide +kernel
theorem dX1_freeDepth_18 : decode cX1_freeDepth 18 = .ok (.iaload, 1) := by decide +kernel
theorem dX1_freeDepth_19 : decode cX1_freeDepth 19 = .ok (.iconst (-1), 1) := by decide +kernel
theorem dX1_freeDepth_20 : decode cX1_freeDepth 20 = .ok (.if_icmp .ne 9, 3) := by decide +kernel
theorem dX1_freeDepth_23 : decode cX1_freeDepth 23 = .ok (.iinc 3 1, 3) := by decide +kernel
theorem dX1_freeDepth_26 : decode cX1_freeDepth 26 = .ok (.goto (-20), 3) := by decide +kernel
theorem dX1_freeDepth_29 : decode cX1_freeDepth 29 = .ok (.iload_n 3, 1) := by decide +kernel
theorem dX1_freeDepth_30 : decode cX1_freeDepth 30 = .ok (.ireturn, 1) := by decide +kernel
theorem dX1_latestBurial_0 : decode cX1_latestBurial 0 = .ok (.iconst 0, 1) := by decide +kernel
theorem dX1_latestBurial_1 : decode cX1_latestBurial 1 = .ok (.istore_n 2, 1) := by decide +kernel
theorem dX1_latestBurial_2 : decode cX1_latestBurial 2 = .ok (.iload_n 1, 1) := by decide +kernel
theorem dX1_latestBurial_3 : decode cX1_latestBurial 3 = .ok (.iconst 3, 1) := by decide +kernel
theorem dX1_latestBurial_4 : decode cX1_latestBurial 4 = .ok (.imul, 1) := by decide +kernel
theorem dX1_latestBurial_5 : decode cX1_latestBurial 5 = .ok (.istore_n 3, 1) := by decide +kernel
theorem dX1_latestBurial_6 : decode cX1_latestBurial 6 = .ok (.iload_n 3, 1) := by decide +kernel
theorem dX1_latestBurial_7 : decode cX1_latestBurial 7 = .ok (.istore 4, 2) := by decide +kernel
theorem dX1_latestBurial_9 : decode cX1_latestBurial 9 = .ok (.iload 4, 2) := by decide +kernel
theorem dX1_latestBurial_11 : decode cX1_latestBurial 11 = .ok (.iload_n 3, 1) := by decide +kernel
theorem dX1_latestBurial_12 : decode cX1_latestBurial 12 = .ok (.iconst 3, 1) := by decide +kernel
theorem dX1_latestBurial_13 : decode cX1_latestBurial 13 = .ok (.iadd, 1) := by decide +kernel
theorem dX1_latestBurial_14 : decode cX1_latestBurial 14 = .ok (.if_icmp .ge 21, 3) := by decide +kernel
theorem dX1_latestBurial_17 : decode cX1_latestBurial 17 = .ok (.iload_n 2, 1) := by decide +kernel
theorem dX1_latestBurial_18 : decode cX1_latestBurial 18 = .ok (.aload_n 0, 1) := by decide +kernel
theorem dX1_latestBurial_19 : decode cX1_latestBurial 19 = .ok (.getfield 40, 3) := by decide +kernel
theorem dX1_latestBurial_22 : decode cX1_latestBurial 22 = .ok (.iload 4, 2) := by decide +kernel
theorem dX1_latestBurial_24 : decode cX1_latestBurial 24 = .ok (.iaload, 1) := by decide +kernel
theorem dX1_latestBurial_25 : decode cX1_latestBurial 25 = .ok (.invokestatic 103, 3) := by decide +kernel
theorem dX1_latestBurial_28 : decode cX1_latestBurial 28 = .ok (.istore_n 2, 1) := by decide +kernel
theorem dX1_latestBurial_29 : decode cX1_latestBurial 29 = .ok (.iinc 4 1, 3) := by decide +kernel
theorem dX1_latestBurial_32 : decode cX1_latestBurial 32 = .ok (.goto (-23), 3) := by decide +kernel
theorem dX1_latestBurial_35 : decode cX1_latestBurial 35 = .ok (.iload_n 2, 1) := by decide +kernel
theorem dX1_latestBurial_36 : decode cX1_latestBurial 36 = .ok (.ireturn, 1) := by decide +kernel
theorem dX1_priceFor_0 : decode cX1_priceFor 0 = .ok (.aload_n 0, 1) := by decide +kernel
theorem dX1_priceFor_1 : decode cX1_priceFor 1 = .ok (.getfield 15, 3) := by decide +kernel
theorem dX1_priceFor_4 : decode cX1_priceFor 4 = .ok (.iload_n 1, 1) := by decide +kernel
theorem dX1_priceFor_5 : decode cX1_priceFor 5 = .ok (.iaload, 1) := by decide +kernel
theorem dX1_priceFor_6 : decode cX1_priceFor 6 = .ok (.iconst 1, 1) := by decide +kernel
theorem dX1_priceFor_7 : decode cX1_priceFor 7 = .ok (.if_icmp .ne 7, 3) := by decide +kernel
theorem dX1_priceFor_10 : decode cX1_priceFor 10 = .ok (.iload_n 2, 1) := by decide +kernel
theorem dX1_priceFor_11 : decode cX1_priceFor 11 = .ok (.goto 6, 3) := by decide +kernel
theorem dX1_priceFor_14 : decode cX1_priceFor 14 = .ok (.iconst 2, 1) := by decide +kernel
theorem dX1_priceFor_15 : decode cX1_priceFor 15 = .ok (.iload_n 2, 1) := by decide +kernel
theorem dX1_priceFor_16 : decode cX1_priceFor 16 = .ok (.imul, 1) := by decide +kernel
theorem dX1_priceFor_17 : decode cX1_priceFor 17 = .ok (.ireturn, 1) := by decide +kernel
theorem dX1_burialFee_0 : decode cX1_burialFee 0 = .ok (.bipush 10, 2) := by decide +kernel
theorem dX1_burialFee_2 : decode cX1_burialFee 2 = .ok (.iload_n 3, 1) := by decide +kernel
theorem dX1_burialFee_3 : decode cX1_burialFee 3 = .ok (.imul, 1) := by decide +kernel
theorem dX1_burialFee_4 : decode cX1_burialFee 4 = .ok (.bipush 20, 2) := by decide +kernel
theorem dX1_burialFee_6 : decode cX1_burialFee 6 = .ok (.iadd, 1) := by decide +kernel
theorem dX1_burialFee_7 : decode cX1_burialFee 7 = .ok (.aload_n 0, 1) := by decide +kernel
theorem dX1_burialFee_8 : decode cX1_burialFee 8 = .ok (.getfield 28, 3) := by decide +kernel
theorem dX1_burialFee_11 : decode cX1_burialFee 11 = .ok (.iload_n 2, 1) := by decide +kernel
theorem dX1_burialFee_12 : decode cX1_burialFee 12 = .ok (.iaload, 1) := by decide +kernel
theorem dX1_burialFee_13 : decode cX1_burialFee 13 = .ok (.iconst (-1), 1) := by decide +kernel
theorem dX1_burialFee_14 : decode cX1_burialFee 14 = .ok (.if_icmp .eq 8, 3) := by decide +kernel
theorem dX1_burialFee_17 : decode cX1_burialFee 17 = .ok (.bipush 30, 2) := by decide +kernel
theorem dX1_burialFee_19 : decode cX1_burialFee 19 = .ok (.goto 4, 3) := by decide +kernel
theorem dX1_burialFee_22 : decode cX1_burialFee 22 = .ok (.iconst 0, 1) := by decide +kernel
theorem dX1_burialFee_23 : decode cX1_burialFee 23 = .ok (.iadd, 1) := by decide +kernel
theorem dX1_burialFee_24 : decode cX1_burialFee 24 = .ok (.istore 4, 2) := by decide +kernel
theorem dX1_burialFee_26 : decode cX1_burialFee 26 = .ok (.aload_n 0, 1) := by decide +kernel
theorem dX1_burialFee_27 : decode cX1_burialFee 27 = .ok (.iload_n 1, 1) := by decide +kernel
theorem dX1_burialFee_28 : decode cX1_burialFee 28 = .ok (.iload 4, 2) := by decide +kernel
theorem dX1_burialFee_30 : decode cX1_burialFee 30 = .ok (.invokevirtual 91, 3) := by decide +kernel
theorem dX1_burialFee_33 : decode cX1_burialFee 33 = .ok (.aload_n 0, 1) := by decide +kernel
theorem dX1_burialFee_34 : decode cX1_burialFee 34 = .ok (.iload_n 1, 1) := by decide +kernel
theorem dX1_burialFee_35 : decode cX1_burialFee 35 = .ok (.iload_n 2, 1) := by decide +kernel
theorem dX1_burialFee_36 : decode cX1_burialFee 36 = .ok (.invokevirtual 81, 3) := by decide +kernel
theorem dX1_burialFee_39 : decode cX1_burialFee 39 = .ok (.ifCond .eq 7, 3) := by decide +kernel
theorem dX1_burialFee_42 : decode cX1_burialFee 42 = .ok (.iconst 5, 1) := by decide +kernel
theorem dX1_burialFee_43 : decode cX1_burialFee 43 = .ok (.goto 4, 3) := by decide +kernel
theorem dX1_burialFee_46 : decode cX1_burialFee 46 = .ok (.iconst 0, 1) := by decide +kernel
theorem dX1_burialFee_47 : decode cX1_burialFee 47 = .ok (.isub, 1) := by decide +kernel
theorem dX1_burialFee_48 : decode cX1_burialFee 48 = .ok (.ireturn, 1) := by decide +kernel
theorem dX1_leastFee_0 : decode cX1_leastFee 0 = .ok (.iconst (-1), 1) := by decide +kernel
theorem dX1_leastFee_1 : decode cX1_leastFee 1 = .ok (.istore_n 3, 1) := by decide +kernel
theorem dX1_leastFee_2 : decode cX1_leastFee 2 = .ok (.iconst 1, 1) := by decide +kernel
theorem dX1_leastFee_3 : decode cX1_leastFee 3 = .ok (.istore 4, 2) := by decide +kernel
theorem dX1_leastFee_5 : decode cX1_leastFee 5 = .ok (.iload 4, 2) := by decide +kernel
theorem dX1_leastFee_7 : decode cX1_leastFee 7 = .ok (.iconst 3, 1) := by decide +kernel
theorem dX1_leastFee_8 : decode cX1_leastFee 8 = .ok (.if_icmp .gt 51, 3) := by decide +kernel
theorem dX1_leastFee_11 : decode cX1_leastFee 11 = .ok (.aload_n 0, 1) := by decide +kernel
theorem dX1_leastFee_12 : decode cX1_leastFee 12 = .ok (.iload_n 1, 1) := by decide +kernel
theorem dX1_leastFee_13 : decode cX1_leastFee 13 = .ok (.iload_n 2, 1) := by decide +kernel
theorem dX1_leastFee_14 : decode cX1_leastFee 14 = .ok (.iload 4, 2) := by decide +kernel
theorem dX1_leastFee_16 : decode cX1_leastFee 16 = .ok (.aload_n 0, 1) := by decide +kernel
theorem dX1_leastFee_17 : decode cX1_leastFee 17 = .ok (.getfield 9, 3) := by decide +kernel
theorem dX1_leastFee_20 : decode cX1_leastFee 20 = .ok (.invokevirtual 155, 3) := by decide +kernel
theorem dX1_leastFee_23 : decode cX1_leastFee 23 = .ok (.ifCond .ne 30, 3) := by decide +kernel
theorem dX1_leastFee_26 : decode cX1_leastFee 26 = .ok (.aload_n 0, 1) := by decide +kernel
theorem dX1_leastFee_27 : decode cX1_leastFee 27 = .ok (.iload_n 1, 1) := by decide +kernel
theorem dX1_leastFee_28 : decode cX1_leastFee 28 = .ok (.iload_n 2, 1) := by decide +kernel
theorem dX1_leastFee_29 : decode cX1_leastFee 29 = .ok (.iload 4, 2) := by decide +kernel
theorem dX1_leastFee_31 : decode cX1_leastFee 31 = .ok (.invokevirtual 66, 3) := by decide +kernel
theorem dX1_leastFee_34 : decode cX1_leastFee 34 = .ok (.istore 5, 2) := by decide +kernel
theorem dX1_leastFee_36 : decode cX1_leastFee 36 = .ok (.iload_n 3, 1) := by decide +kernel
theorem dX1_leastFee_37 : decode cX1_leastFee 37 = .ok (.iconst (-1), 1) := by decide +kernel
theorem dX1_leastFee_38 : decode cX1_leastFee 38 = .ok (.if_icmp .ne 8, 3) := by decide +kernel
theorem dX1_leastFee_41 : decode cX1_leastFee 41 = .ok (.iload 5, 2) := by decide +kernel
theorem dX1_leastFee_43 : decode cX1_leastFee 43 = .ok (.goto 9, 3) := by decide +kernel
theorem dX1_leastFee_46 : decode cX1_leastFee 46 = .ok (.iload_n 3, 1) := by decide +kernel
theorem dX1_leastFee_47 : decode cX1_leastFee 47 = .ok (.iload 5, 2) := by decide +kernel
theorem dX1_leastFee_49 : decode cX1_leastFee 49 = .ok (.invokestatic 152, 3) := by decide +kernel
theorem dX1_leastFee_52 : decode cX1_leastFee 52 = .ok (.istore_n 3, 1) := by decide +kernel
theorem dX1_leastFee_53 : decode cX1_leastFee 53 = .ok (.iinc 4 1, 3) := by decide +kernel
theorem dX1_leastFee_56 : decode cX1_leastFee 56 = .ok (.goto (-51), 3) := by decide +kernel
theorem dX1_leastFee_59 : decode cX1_leastFee 59 = .ok (.iload_n 3, 1) := by decide +kernel
theorem dX1_leastFee_60 : decode cX1_leastFee 60 = .ok (.ireturn, 1) := by decide +kernel
theorem dX1_cheapestPlot_0 : decode cX1_cheapestPlot 0 = .ok (.iconst (-1), 1) := by decide +kernel
theorem dX1_cheapestPlot_1 : decode cX1_cheapestPlot 1 = .ok (.istore_n 2, 1) := by decide +kernel
theorem dX1_cheapestPlot_2 : decode cX1_cheapestPlot 2 = .ok (.iconst 0, 1) := by decide +kernel
theorem dX1_cheapestPlot_3 : decode cX1_cheapestPlot 3 = .ok (.istore_n 3, 1) := by decide +kernel
theorem dX1_cheapestPlot_4 : decode cX1_cheapestPlot 4 = .ok (.iconst 0, 1) := by decide +kernel
theorem dX1_cheapestPlot_5 : decode cX1_cheapestPlot 5 = .ok (.istore 4, 2) := by decide +kernel
theorem dX1_cheapestPlot_7 : decode cX1_cheapestPlot 7 = .ok (.iload 4, 2) := by decide +kernel
theorem dX1_cheapestPlot_9 : decode cX1_cheapestPlot 9 = .ok (.bipush 40, 2) := by decide +kernel
theorem dX1_cheapestPlot_11 : decode cX1_cheapestPlot 11 = .ok (.if_icmp .ge 73, 3) := by decide +kernel
theorem dX1_cheapestPlot_14 : decode cX1_cheapestPlot 14 = .ok (.aload_n 0, 1) := by decide +kernel
theorem dX1_cheapestPlot_15 : decode cX1_cheapestPlot 15 = .ok (.iload_n 1, 1) := by decide +kernel
theorem dX1_cheapestPlot_16 : decode cX1_cheapestPlot 16 = .ok (.iload 4, 2) := by decide +kernel
theorem dX1_cheapestPlot_18 : decode cX1_cheapestPlot 18 = .ok (.invokevirtual 159, 3) := by decide +kernel
theorem dX1_cheapestPlot_21 : decode cX1_cheapestPlot 21 = .ok (.istore 5, 2) := by decide +kernel
theorem dX1_cheapestPlot_23 : decode cX1_cheapestPlot 23 = .ok (.iload_n 2, 1) := by decide +kernel
theorem dX1_cheapestPlot_24 : decode cX1_cheapestPlot 24 = .ok (.iconst (-1), 1) := by decide +kernel
theorem dX1_cheapestPlot_25 : decode cX1_cheapestPlot 25 = .ok (.if_icmp .eq 29, 3) := by decide +kernel
theorem dX1_cheapestPlot_28 : decode cX1_cheapestPlot 28 = .ok (.iload 5, 2) := by decide +kernel
theorem dX1_cheapestPlot_30 : decode cX1_cheapestPlot 30 = .ok (.iload_n 3, 1) := by decide +kernel
theorem dX1_cheapestPlot_31 : decode cX1_cheapestPlot 31 = .ok (.if_icmp .lt 23, 3) := by decide +kernel
theorem dX1_cheapestPlot_34 : decode cX1_cheapestPlot 34 = .ok (.iload 5, 2) := by decide +kernel
theorem dX1_cheapestPlot_36 : decode cX1_cheapestPlot 36 = .ok (.iload_n 3, 1) := by decide +kernel
theorem dX1_cheapestPlot_37 : decode cX1_cheapestPlot 37 = .ok (.if_icmp .ne 21, 3) := by decide +kernel
theorem dX1_cheapestPlot_40 : decode cX1_cheapestPlot 40 = .ok (.aload_n 0, 1) := by decide +kernel
theorem dX1_cheapestPlot_41 : decode cX1_cheapestPlot 41 = .ok (.iload 4, 2) := by decide +kernel
theorem dX1_cheapestPlot_43 : decode cX1_cheapestPlot 43 = .ok (.invokevirtual 58, 3) := by decide +kernel
theorem dX1_cheapestPlot_46 : decode cX1_cheapestPlot 46 = .ok (.aload_n 0, 1) := by decide +kernel
theorem dX1_cheapestPlot_47 : decode cX1_cheapestPlot 47 = .ok (.iload_n 2, 1) := by decide +kernel
theorem dX1_cheapestPlot_48 : decode cX1_cheapestPlot 48 = .ok (.invokevirtual 58, 3) := by decide +kernel
theorem dX1_cheapestPlot_51 : decode cX1_cheapestPlot 51 = .ok (.if_icmp .ge 7, 3) := by decide +kernel
theorem dX1_cheapestPlot_54 : decode cX1_cheapestPlot 54 = .ok (.iconst 1, 1) := by decide +kernel
theorem dX1_cheapestPlot_55 : decode cX1_cheapestPlot 55 = .ok (.goto 4, 3) := by decide +kernel
theorem dX1_cheapestPlot_58 : decode cX1_cheapestPlot 58 = .ok (.iconst 0, 1) := by decide +kernel
theorem dX1_cheapestPlot_59 : decode cX1_cheapestPlot 59 = .ok (.istore 6, 2) := by decide +kernel
theorem dX1_cheapestPlot_61 : decode cX1_cheapestPlot 61 = .ok (.iload 5, 2) := by decide +kernel
theorem dX1_cheapestPlot_63 : decode cX1_cheapestPlot 63 = .ok (.iconst (-1), 1) := by decide +kernel
theorem dX1_cheapestPlot_64 : decode cX1_cheapestPlot 64 = .ok (.if_icmp .eq 14, 3) := by decide +kernel
theorem dX1_cheapestPlot_67 : decode cX1_cheapestPlot 67 = .ok (.iload 6, 2) := by decide +kernel
theorem dX1_cheapestPlot_69 : decode cX1_cheapestPlot 69 = .ok (.ifCond .eq 9, 3) := by decide +kernel
theorem dX1_cheapestPlot_72 : decode cX1_cheapestPlot 72 = .ok (.iload 4, 2) := by decide +kernel

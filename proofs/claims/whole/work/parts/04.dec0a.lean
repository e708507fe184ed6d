theorem dX0_init_0 : decode cX0_init 0 = .ok (.aload_n 0, 1) := by decide +kernel
theorem dX0_init_1 : decode cX0_init 1 = .ok (.invokespecial 3, 3) := by decide +kernel
theorem dX0_init_4 : decode cX0_init 4 = .ok (.aload_n 0, 1) := by decide +kernel
theorem dX0_init_5 : decode cX0_init 5 = .ok (.iconst 0, 1) := by decide +kernel
theorem dX0_init_6 : decode cX0_init 6 = .ok (.putfield 11, 3) := by decide +kernel
theorem dX0_init_9 : decode cX0_init 9 = .ok (.aload_n 0, 1) := by decide +kernel
theorem dX0_init_10 : decode cX0_init 10 = .ok (.iconst 0, 1) := by decide +kernel
theorem dX0_init_11 : decode cX0_init 11 = .ok (.putfield 15, 3) := by decide +kernel
theorem dX0_init_14 : decode cX0_init 14 = .ok (.aload_n 0, 1) := by decide +kernel
theorem dX0_init_15 : decode cX0_init 15 = .ok (.iconst 0, 1) := by decide +kernel
theorem dX0_init_16 : decode cX0_init 16 = .ok (.putfield 19, 3) := by decide +kernel
theorem dX0_init_19 : decode cX0_init 19 = .ok (.aload_n 0, 1) := by decide +kernel
theorem dX0_init_20 : decode cX0_init 20 = .ok (.iconst (-1), 1) := by decide +kernel
theorem dX0_init_21 : decode cX0_init 21 = .ok (.putfield 22, 3) := by decide +kernel
theorem dX0_init_24 : decode cX0_init 24 = .ok (.aload_n 0, 1) := by decide +kernel
theorem dX0_init_25 : decode cX0_init 25 = .ok (.iconst 0, 1) := by decide +kernel
theorem dX0_init_26 : decode cX0_init 26 = .ok (.putfield 25, 3) := by decide +kernel
theorem dX0_init_29 : decode cX0_init 29 = .ok (.return_, 1) := by decide +kernel
theorem dX0_startEntry_0 : decode cX0_startEntry 0 = .ok (.aload_n 0, 1) := by decide +kernel
theorem dX0_startEntry_1 : decode cX0_startEntry 1 = .ok (.iconst 0, 1) := by decide +kernel
theorem dX0_startEntry_2 : decode cX0_startEntry 2 = .ok (.putfield 11, 3) := by decide +kernel
theorem dX0_startEntry_5 : decode cX0_startEntry 5 = .ok (.aload_n 0, 1) := by decide +kernel
theorem dX0_startEntry_6 : decode cX0_startEntry 6 = .ok (.iconst 0, 1) := by decide +kernel
theorem dX0_startEntry_7 : decode cX0_startEntry 7 = .ok (.putfield 15, 3) := by decide +kernel
theorem dX0_startEntry_10 : decode cX0_startEntry 10 = .ok (.aload_n 0, 1) := by decide +kernel
theorem dX0_startEntry_11 : decode cX0_startEntry 11 = .ok (.iconst 0, 1) := by decide +kernel
theorem dX0_startEntry_12 : decode cX0_startEntry 12 = .ok (.putfield 19, 3) := by decide +kernel
theorem dX0_startEntry_15 : decode cX0_startEntry 15 = .ok (.aload_n 0, 1) := by decide +kernel
theorem dX0_startEntry_16 : decode cX0_startEntry 16 = .ok (.iconst (-1), 1) := by decide +kernel
theorem dX0_startEntry_17 : decode cX0_startEntry 17 = .ok (.putfield 22, 3) := by decide +kernel
theorem dX0_startEntry_20 : decode cX0_startEntry 20 = .ok (.aload_n 0, 1) := by decide +kernel
theorem dX0_startEntry_21 : decode cX0_startEntry 21 = .ok (.iconst 0, 1) := by decide +kernel
theorem dX0_startEntry_22 : decode cX0_startEntry 22 = .ok (.putfield 25, 3) := by decide +kernel
theorem dX0_startEntry_25 : decode cX0_startEntry 25 = .ok (.return_, 1) := by decide +kernel
theorem dX0_isComplete_0 : decode cX0_isComplete 0 = .ok (.aload_n 0, 1) := by decide +kernel
theorem dX0_isComplete_1 : decode cX0_isComplete 1 = .ok (.getfield 11, 3) := by decide +kernel
theorem dX0_isComplete_4 : decode cX0_isComplete 4 = .ok (.iconst 4, 1) := by decide +kernel
theorem dX0_isComplete_5 : decode cX0_isComplete 5 = .ok (.if_icmp .ne 14, 3) := by decide +kernel
theorem dX0_isComplete_8 : decode cX0_isComplete 8 = .ok (.aload_n 0, 1) := by decide +kernel
theorem dX0_isComplete_9 : decode cX0_isComplete 9 = .ok (.getfield 25, 3) := by decide +kernel
theorem dX0_isComplete_12 : decode cX0_isComplete 12 = .ok (.ifCond .le 7, 3) := by decide +kernel
theorem dX0_isComplete_15 : decode cX0_isComplete 15 = .ok (.iconst 1, 1) := by decide +kernel
theorem dX0_isComplete_16 : decode cX0_isComplete 16 = .ok (.goto 4, 3) := by decide +kernel
theorem dX0_isComplete_19 : decode cX0_isComplete 19 = .ok (.iconst 0, 1) := by decide +kernel
theorem dX0_isComplete_20 : decode cX0_isComplete 20 = .ok (.ireturn, 1) := by decide +kernel
theorem dX0_take_0 : decode cX0_take 0 = .ok (.aload_n 0, 1) := by decide +kernel
theorem dX0_take_1 : decode cX0_take 1 = .ok (.getfield 11, 3) := by decide +kernel
theorem dX0_take_4 : decode cX0_take 4 = .ok (.tableswitch 56 0 3 #[32, 38, 44, 50], 32) := by decide +kernel
theorem dX0_take_36 : decode cX0_take 36 = .ok (.aload_n 0, 1) := by decide +kernel
theorem dX0_take_37 : decode cX0_take 37 = .ok (.iload_n 1, 1) := by decide +kernel
theorem dX0_take_38 : decode cX0_take 38 = .ok (.invokevirtual 28, 3) := by decide +kernel
theorem dX0_take_41 : decode cX0_take 41 = .ok (.ireturn, 1) := by decide +kernel
theorem dX0_take_42 : decode cX0_take 42 = .ok (.aload_n 0, 1) := by decide +kernel
theorem dX0_take_43 : decode cX0_take 43 = .ok (.iload_n 1, 1) := by decide +kernel
theorem dX0_take_44 : decode cX0_take 44 = .ok (.invokevirtual 32, 3) := by decide +kernel
theorem dX0_take_47 : decode cX0_take 47 = .ok (.ireturn, 1) := by decide +kernel
theorem dX0_take_48 : decode cX0_take 48 = .ok (.aload_n 0, 1) := by decide +kernel
theorem dX0_take_49 : decode cX0_take 49 = .ok (.iload_n 1, 1) := by decide +kernel
theorem dX0_take_50 : decode cX0_take 50 = .ok (.invokevirtual 35, 3) := by decide +kernel
theorem dX0_take_53 : decode cX0_take 53 = .ok (.ireturn, 1) := by decide +kernel
theorem dX0_take_54 : decode cX0_take 54 = .ok (.aload_n 0, 1) := by decide +kernel
theorem dX0_take_55 : decode cX0_take 55 = .ok (.iload_n 1, 1) := by decide +kernel
theorem dX0_take_56 : decode cX0_take 56 = .ok (.invokevirtual 38, 3) := by decide +kernel
theorem dX0_take_59 : decode cX0_take 59 = .ok (.ireturn, 1) := by decide +kernel
theorem dX0_take_60 : decode cX0_take 60 = .ok (.aload_n 0, 1) := by decide +kernel
theorem dX0_take_61 : decode cX0_take 61 = .ok (.iload_n 1, 1) := by decide +kernel
theorem dX0_take_62 : decode cX0_take 62 = .ok (.invokevirtual 41, 3) := by decide +kernel
theorem dX0_take_65 : decode cX0_take 65 = .ok (.ireturn, 1) := by decide +kernel
theorem dX0_takeLetter_0 : decode cX0_takeLetter 0 = .ok (.iload_n 1, 1) := by decide +kernel
theorem dX0_takeLetter_1 : decode cX0_takeLetter 1 = .ok (.bipush 98, 2) := by decide +kernel
theorem dX0_takeLetter_3 : decode cX0_takeLetter 3 = .ok (.if_icmp .eq 11, 3) := by decide +kernel
theorem dX0_takeLetter_6 : decode cX0_takeLetter 6 = .ok (.iload_n 1, 1) := by decide +kernel
theorem dX0_takeLetter_7 : decode cX0_takeLetter 7 = .ok (.bipush 114, 2) := by decide +kernel
theorem dX0_takeLetter_9 : decode cX0_takeLetter 9 = .ok (.if_icmp .eq 5, 3) := by decide +kernel
theorem dX0_takeLetter_12 : decode cX0_takeLetter 12 = .ok (.iconst 0, 1) := by decide +kernel
theorem dX0_takeLetter_13 : decode cX0_takeLetter 13 = .ok (.ireturn, 1) := by decide +kernel
theorem dX0_takeLetter_14 : decode cX0_takeLetter 14 = .ok (.aload_n 0, 1) := by decide +kernel
theorem dX0_takeLetter_15 : decode cX0_takeLetter 15 = .ok (.iload_n 1, 1) := by decide +kernel
theorem dX0_takeLetter_16 : decode cX0_takeLetter 16 = .ok (.bipush 114, 2) := by decide +kernel
theorem dX0_takeLetter_18 : decode cX0_takeLetter 18 = .ok (.if_icmp .ne 7, 3) := by decide +kernel
theorem dX0_takeLetter_21 : decode cX0_takeLetter 21 = .ok (.iconst 1, 1) := by decide +kernel
theorem dX0_takeLetter_22 : decode cX0_takeLetter 22 = .ok (.goto 4, 3) := by decide +kernel
theorem dX0_takeLetter_25 : decode cX0_takeLetter 25 = .ok (.iconst 0, 1) := by decide +kernel
theorem dX0_takeLetter_26 : decode cX0_takeLetter 26 = .ok (.putfield 15, 3) := by decide +kernel
theorem dX0_takeLetter_29 : decode cX0_takeLetter 29 = .ok (.aload_n 0, 1) := by decide +kernel
theorem dX0_takeLetter_30 : decode cX0_takeLetter 30 = .ok (.iconst 1, 1) := by decide +kernel
theorem dX0_takeLetter_31 : decode cX0_takeLetter 31 = .ok (.putfield 11, 3) := by decide +kernel
theorem dX0_takeLetter_34 : decode cX0_takeLetter 34 = .ok (.iconst 1, 1) := by decide +kernel
theorem dX0_takeLetter_35 : decode cX0_takeLetter 35 = .ok (.ireturn, 1) := by decide +kernel
theorem dX0_takeFamily_0 : decode cX0_takeFamily 0 = .ok (.iload_n 1, 1) := by decide +kernel
theorem dX0_takeFamily_1 : decode cX0_takeFamily 1 = .ok (.invokestatic 44, 3) := by decide +kernel
theorem dX0_takeFamily_4 : decode cX0_takeFamily 4 = .ok (.ifCond .ne 5, 3) := by decide +kernel
theorem dX0_takeFamily_7 : decode cX0_takeFamily 7 = .ok (.iconst 0, 1) := by decide +kernel
theorem dX0_takeFamily_8 : decode cX0_takeFamily 8 = .ok (.ireturn, 1) := by decide +kernel
theorem dX0_takeFamily_9 : decode cX0_takeFamily 9 = .ok (.aload_n 0, 1) := by decide +kernel
theorem dX0_takeFamily_10 : decode cX0_takeFamily 10 = .ok (.iload_n 1, 1) := by decide +kernel
theorem dX0_takeFamily_11 : decode cX0_takeFamily 11 = .ok (.bipush 48, 2) := by decide +kernel
theorem dX0_takeFamily_13 : decode cX0_takeFamily 13 = .ok (.isub, 1) := by decide +kernel
theorem dX0_takeFamily_14 : decode cX0_takeFamily 14 = .ok (.putfield 19, 3) := by decide +kernel
theorem dX0_takeFamily_17 : decode cX0_takeFamily 17 = .ok (.aload_n 0, 1) := by decide +kernel
theorem dX0_takeFamily_18 : decode cX0_takeFamily 18 = .ok (.iconst 2, 1) := by decide +kernel
theorem dX0_takeFamily_19 : decode cX0_takeFamily 19 = .ok (.putfield 11, 3) := by decide +kernel
theorem dX0_takeFamily_22 : decode cX0_takeFamily 22 = .ok (.iconst 1, 1) := by decide +kernel
theorem dX0_takeFamily_23 : decode cX0_takeFamily 23 = .ok (.ireturn, 1) := by decide +kernel
theorem dX0_takeColon_0 : decode cX0_takeColon 0 = .ok (.iload_n 1, 1) := by decide +kernel
theorem dX0_takeColon_1 : decode cX0_takeColon 1 = .ok (.bipush 58, 2) := by decide +kernel
theorem dX0_takeColon_3 : decode cX0_takeColon 3 = .ok (.if_icmp .eq 5, 3) := by decide +kernel
theorem dX0_takeColon_6 : decode cX0_takeColon 6 = .ok (.iconst 0, 1) := by decide +kernel
theorem dX0_takeColon_7 : decode cX0_takeColon 7 = .ok (.ireturn, 1) := by decide +kernel
theorem dX0_takeColon_8 : decode cX0_takeColon 8 = .ok (.aload_n 0, 1) := by decide +kernel
theorem dX0_takeColon_9 : decode cX0_takeColon 9 = .ok (.iconst 3, 1) := by decide +kernel
theorem dX0_takeColon_10 : decode cX0_takeColon 10 = .ok (.putfield 11, 3) := by decide +kernel
theorem dX0_takeColon_13 : decode cX0_takeColon 13 = .ok (.iconst 1, 1) := by decide +kernel
theorem dX0_takeColon_14 : decode cX0_takeColon 14 = .ok (.ireturn, 1) := by decide +kernel
theorem dX0_takeOfPlot_0 : decode cX0_takeOfPlot 0 = .ok (.iload_n 1, 1) := by decide +kernel
theorem dX0_takeOfPlot_1 : decode cX0_takeOfPlot 1 = .ok (.bipush 44, 2) := by decide +kernel
theorem dX0_takeOfPlot_3 : decode cX0_takeOfPlot 3 = .ok (.if_icmp .ne 18, 3) := by decide +kernel
theorem dX0_takeOfPlot_6 : decode cX0_takeOfPlot 6 = .ok (.aload_n 0, 1) := by decide +kernel
theorem dX0_takeOfPlot_7 : decode cX0_takeOfPlot 7 = .ok (.getfield 22, 3) := by decide +kernel
theorem dX0_takeOfPlot_10 : decode cX0_takeOfPlot 10 = .ok (.iconst (-1), 1) := by decide +kernel
theorem dX0_takeOfPlot_11 : decode cX0_takeOfPlot 11 = .ok (.if_icmp .eq 10, 3) := by decide +kernel
theorem dX0_takeOfPlot_14 : decode cX0_takeOfPlot 14 = .ok (.aload_n 0, 1) := by decide +kernel
theorem dX0_takeOfPlot_15 : decode cX0_takeOfPlot 15 = .ok (.iconst 4, 1) := by decide +kernel
theorem dX0_takeOfPlot_16 : decode cX0_takeOfPlot 16 = .ok (.putfield 11, 3) := by decide +kernel
theorem dX0_takeOfPlot_19 : decode cX0_takeOfPlot 19 = .ok (.iconst 1, 1) := by decide +kernel
theorem dX0_takeOfPlot_20 : decode cX0_takeOfPlot 20 = .ok (.ireturn, 1) := by decide +kernel
theorem dX0_takeOfPlot_21 : decode cX0_takeOfPlot 21 = .ok (.iload_n 1, 1) := by decide +kernel
theorem dX0_takeOfPlot_22 : decode cX0_takeOfPlot 22 = .ok (.invokestatic 44, 3) := by decide +kernel
theorem dX0_takeOfPlot_25 : decode cX0_takeOfPlot 25 = .ok (.ifCond .eq 10, 3) := by decide +kernel
theorem dX0_takeOfPlot_28 : decode cX0_takeOfPlot 28 = .ok (.aload_n 0, 1) := by decide +kernel
theorem dX0_takeOfPlot_29 : decode cX0_takeOfPlot 29 = .ok (.getfield 22, 3) := by decide +kernel
theorem dX0_takeOfPlot_32 : decode cX0_takeOfPlot 32 = .ok (.ifCond .ne 5, 3) := by decide +kernel
theorem dX0_takeOfPlot_35 : decode cX0_takeOfPlot 35 = .ok (.iconst 0, 1) := by decide +kernel
theorem dX0_takeOfPlot_36 : decode cX0_takeOfPlot 36 = .ok (.ireturn, 1) := by decide +kernel
theorem dX0_takeOfPlot_37 : decode cX0_takeOfPlot 37 = .ok (.aload_n 0, 1) := by decide +kernel
theorem dX0_takeOfPlot_38 : decode cX0_takeOfPlot 38 = .ok (.getfield 22, 3) := by decide +kernel
theorem dX0_takeOfPlot_41 : decode cX0_takeOfPlot 41 = .ok (.iconst (-1), 1) := by decide +kernel
theorem dX0_takeOfPlot_42 : decode cX0_takeOfPlot 42 = .ok (.if_icmp .ne 10, 3) := by decide +kernel
theorem dX0_takeOfPlot_45 : decode cX0_takeOfPlot 45 = .ok (.iload_n 1, 1) := by decide +kernel
theorem dX0_takeOfPlot_46 : decode cX0_takeOfPlot 46 = .ok (.bipush 48, 2) := by decide +kernel
theorem dX0_takeOfPlot_48 : decode cX0_takeOfPlot 48 = .ok (.isub, 1) := by decide +kernel
theorem dX0_takeOfPlot_49 : decode cX0_takeOfPlot 49 = .ok (.goto 15, 3) := by decide +kernel
theorem dX0_takeOfPlot_52 : decode cX0_takeOfPlot 52 = .ok (.bipush 10, 2) := by decide +kernel
theorem dX0_takeOfPlot_54 : decode cX0_takeOfPlot 54 = .ok (.aload_n 0, 1) := by decide +kernel
theorem dX0_takeOfPlot_55 : decode cX0_takeOfPlot 55 = .ok (.getfield 22, 3) := by decide +kernel
theorem dX0_takeOfPlot_58 : decode cX0_takeOfPlot 58 = .ok (.imul, 1) := by decide +kernel
theorem dX0_takeOfPlot_59 : decode cX0_takeOfPlot 59 = .ok (.iload_n 1, 1) := by decide +kernel
theorem dX0_takeOfPlot_60 : decode cX0_takeOfPlot 60 = .ok (.iadd, 1) := by decide +kernel
theorem dX0_takeOfPlot_61 : decode cX0_takeOfPlot 61 = .ok (.bipush 48, 2) := by decide +kernel
theorem dX0_takeOfPlot_63 : decode cX0_takeOfPlot 63 = .ok (.isub, 1) := by decide +kernel
theorem dX0_takeOfPlot_64 : decode cX0_takeOfPlot 64 = .ok (.istore_n 2, 1) := by decide +kernel
theorem dX0_takeOfPlot_65 : decode cX0_takeOfPlot 65 = .ok (.iload_n 2, 1) := by decide +kernel
theorem dX0_takeOfPlot_66 : decode cX0_takeOfPlot 66 = .ok (.bipush 40, 2) := by decide +kernel
theorem dX0_takeOfPlot_68 : decode cX0_takeOfPlot 68 = .ok (.if_icmp .lt 5, 3) := by decide +kernel
theorem dX0_takeOfPlot_71 : decode cX0_takeOfPlot 71 = .ok (.iconst 0, 1) := by decide +kernel
theorem dX0_takeOfPlot_72 : decode cX0_takeOfPlot 72 = .ok (.ireturn, 1) := by decide +kernel
theorem dX0_takeOfPlot_73 : decode cX0_takeOfPlot 73 = .ok (.aload_n 0, 1) := by decide +kernel
theorem dX0_takeOfPlot_74 : decode cX0_takeOfPlot 74 = .ok (.iload_n 2, 1) := by decide +kernel
theorem dX0_takeOfPlot_75 : decode cX0_takeOfPlot 75 = .ok (.putfield 22, 3) := by decide +kernel
theorem dX0_takeOfPlot_78 : decode cX0_takeOfPlot 78 = .ok (.iconst 1, 1) := by decide +kernel
theorem dX0_takeOfPlot_79 : decode cX0_takeOfPlot 79 = .ok (.ireturn, 1) := by decide +kernel
theorem dX0_takeOfNumber_0 : decode cX0_takeOfNumber 0 = .ok (.iload_n 1, 1) := by decide +kernel
theorem dX0_takeOfNumber_1 : decode cX0_takeOfNumber 1 = .ok (.bipush 59, 2) := by decide +kernel
theorem dX0_takeOfNumber_3 : decode cX0_takeOfNumber 3 = .ok (.if_icmp .ne 16, 3) := by decide +kernel
theorem dX0_takeOfNumber_6 : decode cX0_takeOfNumber 6 = .ok (.aload_n 0, 1) := by decide +kernel
theorem dX0_takeOfNumber_7 : decode cX0_takeOfNumber 7 = .ok (.getfield 25, 3) := by decide +kernel
theorem dX0_takeOfNumber_10 : decode cX0_takeOfNumber 10 = .ok (.ifCond .le 9, 3) := by decide +kernel
theorem dX0_takeOfNumber_13 : decode cX0_takeOfNumber 13 = .ok (.aload_n 0, 1) := by decide +kernel
theorem dX0_takeOfNumber_14 : decode cX0_takeOfNumber 14 = .ok (.invokevirtual 47, 3) := by decide +kernel
theorem dX0_takeOfNumber_17 : decode cX0_takeOfNumber 17 = .ok (.iconst 1, 1) := by decide +kernel
theorem dX0_takeOfNumber_18 : decode cX0_takeOfNumber 18 = .ok (.ireturn, 1) := by decide +kernel
theorem dX0_takeOfNumber_19 : decode cX0_takeOfNumber 19 = .ok (.iload_n 1, 1) := by decide +kernel
theorem dX0_takeOfNumber_20 : decode cX0_takeOfNumber 20 = .ok (.invokestatic 44, 3) := by decide +kernel
theorem dX0_takeOfNumber_23 : decode cX0_takeOfNumber 23 = .ok (.ifCond .ne 5, 3) := by decide +kernel
theorem dX0_takeOfNumber_26 : decode cX0_takeOfNumber 26 = .ok (.iconst 0, 1) := by decide +kernel
theorem dX0_takeOfNumber_27 : decode cX0_takeOfNumber 27 = .ok (.ireturn, 1) := by decide +kernel
theorem dX0_takeOfNumber_28 : decode cX0_takeOfNumber 28 = .ok (.bipush 10, 2) := by decide +kernel
theorem dX0_takeOfNumber_30 : decode cX0_takeOfNumber 30 = .ok (.aload_n 0, 1) := by decide +kernel
theorem dX0_takeOfNumber_31 : decode cX0_takeOfNumber 31 = .ok (.getfield 25, 3) := by decide +kernel
theorem dX0_takeOfNumber_34 : decode cX0_takeOfNumber 34 = .ok (.imul, 1) := by decide +kernel
theorem dX0_takeOfNumber_35 : decode cX0_takeOfNumber 35 = .ok (.iload_n 1, 1) := by decide +kernel
theorem dX0_takeOfNumber_36 : decode cX0_takeOfNumber 36 = .ok (.iadd, 1) := by decide +kernel
theorem dX0_takeOfNumber_37 : decode cX0_takeOfNumber 37 = .ok (.bipush 48, 2) := by decide +kernel
theorem dX0_takeOfNumber_39 : decode cX0_takeOfNumber 39 = .ok (.isub, 1) := by decide +kernel
theorem dX0_takeOfNumber_40 : decode cX0_takeOfNumber 40 = .ok (.istore_n 2, 1) := by decide +kernel
theorem dX0_takeOfNumber_41 : decode cX0_takeOfNumber 41 = .ok (.iload_n 2, 1) := by decide +kernel
theorem dX0_takeOfNumber_42 : decode cX0_takeOfNumber 42 = .ok (.iconst 1, 1) := by decide +kernel
theorem dX0_takeOfNumber_43 : decode cX0_takeOfNumber 43 = .ok (.if_icmp .lt 20, 3) := by decide +kernel
theorem dX0_takeOfNumber_46 : decode cX0_takeOfNumber 46 = .ok (.iload_n 2, 1) := by decide +kernel
theorem dX0_takeOfNumber_47 : decode cX0_takeOfNumber 47 = .ok (.aload_n 0, 1) := by decide +kernel
theorem dX0_takeOfNumber_48 : decode cX0_takeOfNumber 48 = .ok (.getfield 15, 3) := by decide +kernel
theorem dX0_takeOfNumber_51 : decode cX0_takeOfNumber 51 = .ok (.ifCond .eq 8, 3) := by decide +kernel
theorem dX0_takeOfNumber_54 : decode cX0_takeOfNumber 54 = .ok (.bipush 50, 2) := by decide +kernel
theorem dX0_takeOfNumber_56 : decode cX0_takeOfNumber 56 = .ok (.goto 4, 3) := by decide +kernel
theorem dX0_takeOfNumber_59 : decode cX0_takeOfNumber 59 = .ok (.iconst 3, 1) := by decide +kernel
theorem dX0_takeOfNumber_60 : decode cX0_takeOfNumber 60 = .ok (.if_icmp .le 5, 3) := by decide +kernel
theorem dX0_takeOfNumber_63 : decode cX0_takeOfNumber 63 = .ok (.iconst 0, 1) := by decide +kernel
theorem dX0_takeOfNumber_64 : decode cX0_takeOfNumber 64 = .ok (.ireturn, 1) := by decide +kernel
theorem dX0_takeOfNumber_65 : decode cX0_takeOfNumber 65 = .ok (.aload_n 0, 1) := by decide +kernel
theorem dX0_takeOfNumber_66 : decode cX0_takeOfNumber 66 = .ok (.iload_n 2, 1) := by decide +kernel
theorem dX0_takeOfNumber_67 : decode cX0_takeOfNumber 67 = .ok (.putfield 25, 3) := by decide +kernel
theorem dX0_takeOfNumber_70 : decode cX0_takeOfNumber 70 = .ok (.iconst 1, 1) := by decide +kernel
theorem dX0_takeOfNumber_71 : decode cX0_takeOfNumber 71 = .ok (.ireturn, 1) := by decide +kernel
theorem dX0_isDigit_0 : decode cX0_isDigit 0 = .ok (.iload_n 0, 1) := by decide +kernel
theorem dX0_isDigit_1 : decode cX0_isDigit 1 = .ok (.bipush 48, 2) := by decide +kernel
theorem dX0_isDigit_3 : decode cX0_isDigit 3 = .ok (.if_icmp .lt 13, 3) := by decide +kernel
theorem dX0_isDigit_6 : decode cX0_isDigit 6 = .ok (.iload_n 0, 1) := by decide +kernel
theorem dX0_isDigit_7 : decode cX0_isDigit 7 = .ok (.bipush 57, 2) := by decide +kernel
theorem dX0_isDigit_9 : decode cX0_isDigit 9 = .ok (.if_icmp .gt 7, 3) := by decide +kernel
theorem dX0_isDigit_12 : decode cX0_isDigit 12 = .ok (.iconst 1, 1) := by decide +kernel
theorem dX0_isDigit_13 : decode cX0_isDigit 13 = .ok (.goto 4, 3) := by decide +kernel
theorem dX0_isDigit_16 : decode cX0_isDigit 16 = .ok (.iconst 0, 1) := by decide +kernel
theorem dX0_isDigit_17 : decode cX0_isDigit 17 = .ok (.ireturn, 1) := by decide +kernel

theorem dX3_plotNow_54 : decode cX3_plotNow 54 = .ok (.ireturn, 1) := by decide +kernel
theorem dX3_plotNow_55 : decode cX3_plotNow 55 = .ok (.aload_n 0, 1) := by decide +kernel
theorem dX3_plotNow_56 : decode cX3_plotNow 56 = .ok (.iload_n 1, 1) := by decide +kernel
theorem dX3_plotNow_57 : decode cX3_plotNow 57 = .ok (.invokevirtual 60, 3) := by decide +kernel
theorem dX3_plotNow_60 : decode cX3_plotNow 60 = .ok (.ireturn, 1) := by decide +kernel
theorem dX3_plotNow_61 : decode cX3_plotNow 61 = .ok (.aload_n 0, 1) := by decide +kernel
theorem dX3_plotNow_62 : decode cX3_plotNow 62 = .ok (.iload_n 1, 1) := by decide +kernel
theorem dX3_plotNow_63 : decode cX3_plotNow 63 = .ok (.invokevirtual 67, 3) := by decide +kernel
theorem dX3_plotNow_66 : decode cX3_plotNow 66 = .ok (.ireturn, 1) := by decide +kernel
theorem dX3_plotNow_67 : decode cX3_plotNow 67 = .ok (.aload_n 0, 1) := by decide +kernel
theorem dX3_plotNow_68 : decode cX3_plotNow 68 = .ok (.iload_n 1, 1) := by decide +kernel
theorem dX3_plotNow_69 : decode cX3_plotNow 69 = .ok (.invokevirtual 127, 3) := by decide +kernel
theorem dX3_plotNow_72 : decode cX3_plotNow 72 = .ok (.ireturn, 1) := by decide +kernel
theorem dX3_plotNow_73 : decode cX3_plotNow 73 = .ok (.aload_n 0, 1) := by decide +kernel
theorem dX3_plotNow_74 : decode cX3_plotNow 74 = .ok (.getfield 7, 3) := by decide +kernel
theorem dX3_plotNow_77 : decode cX3_plotNow 77 = .ok (.bipush 40, 2) := by decide +kernel
theorem dX3_plotNow_79 : decode cX3_plotNow 79 = .ok (.iload_n 1, 1) := by decide +kernel
theorem dX3_plotNow_80 : decode cX3_plotNow 80 = .ok (.iadd, 1) := by decide +kernel
theorem dX3_plotNow_81 : decode cX3_plotNow 81 = .ok (.iaload, 1) := by decide +kernel
theorem dX3_plotNow_82 : decode cX3_plotNow 82 = .ok (.ireturn, 1) := by decide +kernel
theorem dX3_plotNow_83 : decode cX3_plotNow 83 = .ok (.aload_n 0, 1) := by decide +kernel
theorem dX3_plotNow_84 : decode cX3_plotNow 84 = .ok (.getfield 7, 3) := by decide +kernel
theorem dX3_plotNow_87 : decode cX3_plotNow 87 = .ok (.bipush 80, 2) := by decide +kernel
theorem dX3_plotNow_89 : decode cX3_plotNow 89 = .ok (.iload_n 1, 1) := by decide +kernel
theorem dX3_plotNow_90 : decode cX3_plotNow 90 = .ok (.iadd, 1) := by decide +kernel
theorem dX3_plotNow_91 : decode cX3_plotNow 91 = .ok (.iaload, 1) := by decide +kernel
theorem dX3_plotNow_92 : decode cX3_plotNow 92 = .ok (.ireturn, 1) := by decide +kernel
theorem dX3_plotNow_93 : decode cX3_plotNow 93 = .ok (.aload_n 0, 1) := by decide +kernel
theorem dX3_plotNow_94 : decode cX3_plotNow 94 = .ok (.getfield 7, 3) := by decide +kernel
theorem dX3_plotNow_97 : decode cX3_plotNow 97 = .ok (.bipush 120, 2) := by decide +kernel
theorem dX3_plotNow_99 : decode cX3_plotNow 99 = .ok (.iload_n 1, 1) := by decide +kernel
theorem dX3_plotNow_100 : decode cX3_plotNow 100 = .ok (.iadd, 1) := by decide +kernel
theorem dX3_plotNow_101 : decode cX3_plotNow 101 = .ok (.iaload, 1) := by decide +kernel
theorem dX3_plotNow_102 : decode cX3_plotNow 102 = .ok (.ireturn, 1) := by decide +kernel
theorem dX3_plotNow_103 : decode cX3_plotNow 103 = .ok (.aload_n 0, 1) := by decide +kernel
theorem dX3_plotNow_104 : decode cX3_plotNow 104 = .ok (.iload_n 1, 1) := by decide +kernel
theorem dX3_plotNow_105 : decode cX3_plotNow 105 = .ok (.invokevirtual 79, 3) := by decide +kernel
theorem dX3_plotNow_108 : decode cX3_plotNow 108 = .ok (.ifCond .eq 7, 3) := by decide +kernel
theorem dX3_plotNow_111 : decode cX3_plotNow 111 = .ok (.iconst 1, 1) := by decide +kernel
theorem dX3_plotNow_112 : decode cX3_plotNow 112 = .ok (.goto 4, 3) := by decide +kernel
theorem dX3_plotNow_115 : decode cX3_plotNow 115 = .ok (.iconst 0, 1) := by decide +kernel
theorem dX3_plotNow_116 : decode cX3_plotNow 116 = .ok (.ireturn, 1) := by decide +kernel
theorem dX3_plotNow_117 : decode cX3_plotNow 117 = .ok (.aload_n 0, 1) := by decide +kernel
theorem dX3_plotNow_118 : decode cX3_plotNow 118 = .ok (.iload_n 1, 1) := by decide +kernel
theorem dX3_plotNow_119 : decode cX3_plotNow 119 = .ok (.invokevirtual 73, 3) := by decide +kernel
theorem dX3_plotNow_122 : decode cX3_plotNow 122 = .ok (.ireturn, 1) := by decide +kernel
theorem dX3_plot_0 : decode cX3_plot 0 = .ok (.aload_n 0, 1) := by decide +kernel
theorem dX3_plot_1 : decode cX3_plot 1 = .ok (.invokevirtual 92, 3) := by decide +kernel
theorem dX3_plot_4 : decode cX3_plot 4 = .ok (.iload_n 1, 1) := by decide +kernel
theorem dX3_plot_5 : decode cX3_plot 5 = .ok (.invokestatic 112, 3) := by decide +kernel
theorem dX3_plot_8 : decode cX3_plot 8 = .ok (.ifCond .ne 9, 3) := by decide +kernel
theorem dX3_plot_11 : decode cX3_plot 11 = .ok (.aload_n 0, 1) := by decide +kernel
theorem dX3_plot_12 : decode cX3_plot 12 = .ok (.iconst 1, 1) := by decide +kernel
theorem dX3_plot_13 : decode cX3_plot 13 = .ok (.invokevirtual 95, 3) := by decide +kernel
theorem dX3_plot_16 : decode cX3_plot 16 = .ok (.ireturn, 1) := by decide +kernel
theorem dX3_plot_17 : decode cX3_plot 17 = .ok (.iload_n 2, 1) := by decide +kernel
theorem dX3_plot_18 : decode cX3_plot 18 = .ok (.iconst 0, 1) := by decide +kernel
theorem dX3_plot_19 : decode cX3_plot 19 = .ok (.bipush 8, 2) := by decide +kernel
theorem dX3_plot_21 : decode cX3_plot 21 = .ok (.invokestatic 41, 3) := by decide +kernel
theorem dX3_plot_24 : decode cX3_plot 24 = .ok (.ifCond .eq 12, 3) := by decide +kernel
theorem dX3_plot_27 : decode cX3_plot 27 = .ok (.aload_n 0, 1) := by decide +kernel
theorem dX3_plot_28 : decode cX3_plot 28 = .ok (.iload_n 1, 1) := by decide +kernel
theorem dX3_plot_29 : decode cX3_plot 29 = .ok (.iload_n 2, 1) := by decide +kernel
theorem dX3_plot_30 : decode cX3_plot 30 = .ok (.invokevirtual 146, 3) := by decide +kernel
theorem dX3_plot_33 : decode cX3_plot 33 = .ok (.goto 8, 3) := by decide +kernel
theorem dX3_plot_36 : decode cX3_plot 36 = .ok (.aload_n 0, 1) := by decide +kernel
theorem dX3_plot_37 : decode cX3_plot 37 = .ok (.iconst 2, 1) := by decide +kernel
theorem dX3_plot_38 : decode cX3_plot 38 = .ok (.invokevirtual 95, 3) := by decide +kernel
theorem dX3_plot_41 : decode cX3_plot 41 = .ok (.ireturn, 1) := by decide +kernel
theorem dX3_burialNow_0 : decode cX3_burialNow 0 = .ok (.iconst 3, 1) := by decide +kernel
theorem dX3_burialNow_1 : decode cX3_burialNow 1 = .ok (.iload_n 1, 1) := by decide +kernel
theorem dX3_burialNow_2 : decode cX3_burialNow 2 = .ok (.imul, 1) := by decide +kernel
theorem dX3_burialNow_3 : decode cX3_burialNow 3 = .ok (.iload_n 2, 1) := by decide +kernel
theorem dX3_burialNow_4 : decode cX3_burialNow 4 = .ok (.iadd, 1) := by decide +kernel
theorem dX3_burialNow_5 : decode cX3_burialNow 5 = .ok (.istore 4, 2) := by decide +kernel
theorem dX3_burialNow_7 : decode cX3_burialNow 7 = .ok (.aload_n 0, 1) := by decide +kernel
theorem dX3_burialNow_8 : decode cX3_burialNow 8 = .ok (.getfield 7, 3) := by decide +kernel
theorem dX3_burialNow_11 : decode cX3_burialNow 11 = .ok (.sipush 160, 3) := by decide +kernel
theorem dX3_burialNow_14 : decode cX3_burialNow 14 = .ok (.iload 4, 2) := by decide +kernel
theorem dX3_burialNow_16 : decode cX3_burialNow 16 = .ok (.iadd, 1) := by decide +kernel
theorem dX3_burialNow_17 : decode cX3_burialNow 17 = .ok (.iaload, 1) := by decide +kernel
theorem dX3_burialNow_18 : decode cX3_burialNow 18 = .ok (.iconst (-1), 1) := by decide +kernel
theorem dX3_burialNow_19 : decode cX3_burialNow 19 = .ok (.if_icmp .ne 5, 3) := by decide +kernel
theorem dX3_burialNow_22 : decode cX3_burialNow 22 = .ok (.iconst (-1), 1) := by decide +kernel
theorem dX3_burialNow_23 : decode cX3_burialNow 23 = .ok (.ireturn, 1) := by decide +kernel
theorem dX3_burialNow_24 : decode cX3_burialNow 24 = .ok (.iload_n 3, 1) := by decide +kernel
theorem dX3_burialNow_25 : decode cX3_burialNow 25 = .ok (.ifCond .ne 17, 3) := by decide +kernel
theorem dX3_burialNow_28 : decode cX3_burialNow 28 = .ok (.aload_n 0, 1) := by decide +kernel
theorem dX3_burialNow_29 : decode cX3_burialNow 29 = .ok (.getfield 7, 3) := by decide +kernel
theorem dX3_burialNow_32 : decode cX3_burialNow 32 = .ok (.sipush 160, 3) := by decide +kernel
theorem dX3_burialNow_35 : decode cX3_burialNow 35 = .ok (.iload 4, 2) := by decide +kernel
theorem dX3_burialNow_37 : decode cX3_burialNow 37 = .ok (.iadd, 1) := by decide +kernel
theorem dX3_burialNow_38 : decode cX3_burialNow 38 = .ok (.iaload, 1) := by decide +kernel
theorem dX3_burialNow_39 : decode cX3_burialNow 39 = .ok (.goto 55, 3) := by decide +kernel
theorem dX3_burialNow_42 : decode cX3_burialNow 42 = .ok (.iload_n 3, 1) := by decide +kernel
theorem dX3_burialNow_43 : decode cX3_burialNow 43 = .ok (.iconst 1, 1) := by decide +kernel
theorem dX3_burialNow_44 : decode cX3_burialNow 44 = .ok (.if_icmp .ne 17, 3) := by decide +kernel
theorem dX3_burialNow_47 : decode cX3_burialNow 47 = .ok (.aload_n 0, 1) := by decide +kernel
theorem dX3_burialNow_48 : decode cX3_burialNow 48 = .ok (.getfield 7, 3) := by decide +kernel
theorem dX3_burialNow_51 : decode cX3_burialNow 51 = .ok (.sipush 280, 3) := by decide +kernel
theorem dX3_burialNow_54 : decode cX3_burialNow 54 = .ok (.iload 4, 2) := by decide +kernel
theorem dX3_burialNow_56 : decode cX3_burialNow 56 = .ok (.iadd, 1) := by decide +kernel
theorem dX3_burialNow_57 : decode cX3_burialNow 57 = .ok (.iaload, 1) := by decide +kernel
theorem dX3_burialNow_58 : decode cX3_burialNow 58 = .ok (.goto 36, 3) := by decide +kernel
theorem dX3_burialNow_61 : decode cX3_burialNow 61 = .ok (.iload_n 3, 1) := by decide +kernel
theorem dX3_burialNow_62 : decode cX3_burialNow 62 = .ok (.iconst 2, 1) := by decide +kernel
theorem dX3_burialNow_63 : decode cX3_burialNow 63 = .ok (.if_icmp .ne 20, 3) := by decide +kernel
theorem dX3_burialNow_66 : decode cX3_burialNow 66 = .ok (.aload_n 0, 1) := by decide +kernel
theorem dX3_burialNow_67 : decode cX3_burialNow 67 = .ok (.iload_n 1, 1) := by decide +kernel
theorem dX3_burialNow_68 : decode cX3_burialNow 68 = .ok (.iload_n 2, 1) := by decide +kernel
theorem dX3_burialNow_69 : decode cX3_burialNow 69 = .ok (.invokevirtual 52, 3) := by decide +kernel
theorem dX3_burialNow_72 : decode cX3_burialNow 72 = .ok (.ifCond .eq 7, 3) := by decide +kernel
theorem dX3_burialNow_75 : decode cX3_burialNow 75 = .ok (.iconst 1, 1) := by decide +kernel
theorem dX3_burialNow_76 : decode cX3_burialNow 76 = .ok (.goto 18, 3) := by decide +kernel
theorem dX3_burialNow_79 : decode cX3_burialNow 79 = .ok (.iconst 0, 1) := by decide +kernel
theorem dX3_burialNow_80 : decode cX3_burialNow 80 = .ok (.goto 14, 3) := by decide +kernel
theorem dX3_burialNow_83 : decode cX3_burialNow 83 = .ok (.aload_n 0, 1) := by decide +kernel
theorem dX3_burialNow_84 : decode cX3_burialNow 84 = .ok (.getfield 7, 3) := by decide +kernel
theorem dX3_burialNow_87 : decode cX3_burialNow 87 = .ok (.sipush 400, 3) := by decide +kernel
theorem dX3_burialNow_90 : decode cX3_burialNow 90 = .ok (.iload 4, 2) := by decide +kernel
theorem dX3_burialNow_92 : decode cX3_burialNow 92 = .ok (.iadd, 1) := by decide +kernel
theorem dX3_burialNow_93 : decode cX3_burialNow 93 = .ok (.iaload, 1) := by decide +kernel
theorem dX3_burialNow_94 : decode cX3_burialNow 94 = .ok (.ireturn, 1) := by decide +kernel
theorem dX3_burial_0 : decode cX3_burial 0 = .ok (.aload_n 0, 1) := by decide +kernel
theorem dX3_burial_1 : decode cX3_burial 1 = .ok (.invokevirtual 92, 3) := by decide +kernel
theorem dX3_burial_4 : decode cX3_burial 4 = .ok (.iload_n 1, 1) := by decide +kernel
theorem dX3_burial_5 : decode cX3_burial 5 = .ok (.invokestatic 112, 3) := by decide +kernel
theorem dX3_burial_8 : decode cX3_burial 8 = .ok (.ifCond .eq 12, 3) := by decide +kernel
theorem dX3_burial_11 : decode cX3_burial 11 = .ok (.iload_n 2, 1) := by decide +kernel
theorem dX3_burial_12 : decode cX3_burial 12 = .ok (.iconst 1, 1) := by decide +kernel
theorem dX3_burial_13 : decode cX3_burial 13 = .ok (.iconst 3, 1) := by decide +kernel
theorem dX3_burial_14 : decode cX3_burial 14 = .ok (.invokestatic 41, 3) := by decide +kernel
theorem dX3_burial_17 : decode cX3_burial 17 = .ok (.ifCond .ne 9, 3) := by decide +kernel
theorem dX3_burial_20 : decode cX3_burial 20 = .ok (.aload_n 0, 1) := by decide +kernel
theorem dX3_burial_21 : decode cX3_burial 21 = .ok (.iconst 1, 1) := by decide +kernel
theorem dX3_burial_22 : decode cX3_burial 22 = .ok (.invokevirtual 95, 3) := by decide +kernel
theorem dX3_burial_25 : decode cX3_burial 25 = .ok (.ireturn, 1) := by decide +kernel
theorem dX3_burial_26 : decode cX3_burial 26 = .ok (.iload_n 3, 1) := by decide +kernel
theorem dX3_burial_27 : decode cX3_burial 27 = .ok (.iconst 0, 1) := by decide +kernel
theorem dX3_burial_28 : decode cX3_burial 28 = .ok (.iconst 3, 1) := by decide +kernel
theorem dX3_burial_29 : decode cX3_burial 29 = .ok (.invokestatic 41, 3) := by decide +kernel
theorem dX3_burial_32 : decode cX3_burial 32 = .ok (.ifCond .eq 15, 3) := by decide +kernel
theorem dX3_burial_35 : decode cX3_burial 35 = .ok (.aload_n 0, 1) := by decide +kernel
theorem dX3_burial_36 : decode cX3_burial 36 = .ok (.iload_n 1, 1) := by decide +kernel
theorem dX3_burial_37 : decode cX3_burial 37 = .ok (.iload_n 2, 1) := by decide +kernel
theorem dX3_burial_38 : decode cX3_burial 38 = .ok (.iconst 1, 1) := by decide +kernel
theorem dX3_burial_39 : decode cX3_burial 39 = .ok (.isub, 1) := by decide +kernel
theorem dX3_burial_40 : decode cX3_burial 40 = .ok (.iload_n 3, 1) := by decide +kernel
theorem dX3_burial_41 : decode cX3_burial 41 = .ok (.invokevirtual 149, 3) := by decide +kernel
theorem dX3_burial_44 : decode cX3_burial 44 = .ok (.goto 8, 3) := by decide +kernel
theorem dX3_burial_47 : decode cX3_burial 47 = .ok (.aload_n 0, 1) := by decide +kernel
theorem dX3_burial_48 : decode cX3_burial 48 = .ok (.iconst 2, 1) := by decide +kernel
theorem dX3_burial_49 : decode cX3_burial 49 = .ok (.invokevirtual 95, 3) := by decide +kernel
theorem dX3_burial_52 : decode cX3_burial 52 = .ok (.ireturn, 1) := by decide +kernel
theorem dX3_familyNow_0 : decode cX3_familyNow 0 = .ok (.iload_n 2, 1) := by decide +kernel
theorem dX3_familyNow_1 : decode cX3_familyNow 1 = .ok (.iconst 3, 1) := by decide +kernel
theorem dX3_familyNow_2 : decode cX3_familyNow 2 = .ok (.if_icmp .ge 49, 3) := by decide +kernel
theorem dX3_familyNow_5 : decode cX3_familyNow 5 = .ok (.iload_n 2, 1) := by decide +kernel
theorem dX3_familyNow_6 : decode cX3_familyNow 6 = .ok (.ifCond .ne 16, 3) := by decide +kernel
theorem dX3_familyNow_9 : decode cX3_familyNow 9 = .ok (.aload_n 0, 1) := by decide +kernel
theorem dX3_familyNow_10 : decode cX3_familyNow 10 = .ok (.getfield 7, 3) := by decide +kernel
theorem dX3_familyNow_13 : decode cX3_familyNow 13 = .ok (.sipush 520, 3) := by decide +kernel
theorem dX3_familyNow_16 : decode cX3_familyNow 16 = .ok (.iload_n 1, 1) := by decide +kernel
theorem dX3_familyNow_17 : decode cX3_familyNow 17 = .ok (.iadd, 1) := by decide +kernel
theorem dX3_familyNow_18 : decode cX3_familyNow 18 = .ok (.iaload, 1) := by decide +kernel
theorem dX3_familyNow_19 : decode cX3_familyNow 19 = .ok (.goto 31, 3) := by decide +kernel
theorem dX3_familyNow_22 : decode cX3_familyNow 22 = .ok (.iload_n 2, 1) := by decide +kernel
theorem dX3_familyNow_23 : decode cX3_familyNow 23 = .ok (.iconst 1, 1) := by decide +kernel
theorem dX3_familyNow_24 : decode cX3_familyNow 24 = .ok (.if_icmp .ne 16, 3) := by decide +kernel
theorem dX3_familyNow_27 : decode cX3_familyNow 27 = .ok (.aload_n 0, 1) := by decide +kernel
theorem dX3_familyNow_28 : decode cX3_familyNow 28 = .ok (.getfield 7, 3) := by decide +kernel
theorem dX3_familyNow_31 : decode cX3_familyNow 31 = .ok (.sipush 530, 3) := by decide +kernel
theorem dX3_familyNow_34 : decode cX3_familyNow 34 = .ok (.iload_n 1, 1) := by decide +kernel
theorem dX3_familyNow_35 : decode cX3_familyNow 35 = .ok (.iadd, 1) := by decide +kernel
theorem dX3_familyNow_36 : decode cX3_familyNow 36 = .ok (.iaload, 1) := by decide +kernel
theorem dX3_familyNow_37 : decode cX3_familyNow 37 = .ok (.goto 13, 3) := by decide +kernel
theorem dX3_familyNow_40 : decode cX3_familyNow 40 = .ok (.aload_n 0, 1) := by decide +kernel
theorem dX3_familyNow_41 : decode cX3_familyNow 41 = .ok (.getfield 7, 3) := by decide +kernel
theorem dX3_familyNow_44 : decode cX3_familyNow 44 = .ok (.sipush 540, 3) := by decide +kernel
theorem dX3_familyNow_47 : decode cX3_familyNow 47 = .ok (.iload_n 1, 1) := by decide +kernel
theorem dX3_familyNow_48 : decode cX3_familyNow 48 = .ok (.iadd, 1) := by decide +kernel
theorem dX3_familyNow_49 : decode cX3_familyNow 49 = .ok (.iaload, 1) := by decide +kernel
theorem dX3_familyNow_50 : decode cX3_familyNow 50 = .ok (.ireturn, 1) := by decide +kernel
theorem dX3_familyNow_51 : decode cX3_familyNow 51 = .ok (.iconst 0, 1) := by decide +kernel
theorem dX3_familyNow_52 : decode cX3_familyNow 52 = .ok (.istore_n 3, 1) := by decide +kernel
theorem dX3_familyNow_53 : decode cX3_familyNow 53 = .ok (.iconst 0, 1) := by decide +kernel
theorem dX3_familyNow_54 : decode cX3_familyNow 54 = .ok (.istore 4, 2) := by decide +kernel
theorem dX3_familyNow_56 : decode cX3_familyNow 56 = .ok (.iload 4, 2) := by decide +kernel
theorem dX3_familyNow_58 : decode cX3_familyNow 58 = .ok (.bipush 40, 2) := by decide +kernel
theorem dX3_familyNow_60 : decode cX3_familyNow 60 = .ok (.if_icmp .ge 99, 3) := by decide +kernel
theorem dX3_familyNow_63 : decode cX3_familyNow 63 = .ok (.iload_n 3, 1) := by decide +kernel
theorem dX3_familyNow_64 : decode cX3_familyNow 64 = .ok (.iload_n 2, 1) := by decide +kernel
theorem dX3_familyNow_65 : decode cX3_familyNow 65 = .ok (.iconst 4, 1) := by decide +kernel
theorem dX3_familyNow_66 : decode cX3_familyNow 66 = .ok (.if_icmp .ne 13, 3) := by decide +kernel
theorem dX3_familyNow_69 : decode cX3_familyNow 69 = .ok (.aload_n 0, 1) := by decide +kernel
theorem dX3_familyNow_70 : decode cX3_familyNow 70 = .ok (.iload 4, 2) := by decide +kernel
theorem dX3_familyNow_72 : decode cX3_familyNow 72 = .ok (.invokevirtual 60, 3) := by decide +kernel
theorem dX3_familyNow_75 : decode cX3_familyNow 75 = .ok (.iload_n 1, 1) := by decide +kernel
theorem dX3_familyNow_76 : decode cX3_familyNow 76 = .ok (.if_icmp .eq 22, 3) := by decide +kernel
theorem dX3_familyNow_79 : decode cX3_familyNow 79 = .ok (.iload_n 2, 1) := by decide +kernel
theorem dX3_familyNow_80 : decode cX3_familyNow 80 = .ok (.iconst 5, 1) := by decide +kernel
theorem dX3_familyNow_81 : decode cX3_familyNow 81 = .ok (.if_icmp .ne 21, 3) := by decide +kernel
theorem dX3_familyNow_84 : decode cX3_familyNow 84 = .ok (.aload_n 0, 1) := by decide +kernel
theorem dX3_familyNow_85 : decode cX3_familyNow 85 = .ok (.getfield 7, 3) := by decide +kernel
theorem dX3_familyNow_88 : decode cX3_familyNow 88 = .ok (.bipush 40, 2) := by decide +kernel
theorem dX3_familyNow_90 : decode cX3_familyNow 90 = .ok (.iload 4, 2) := by decide +kernel
theorem dX3_familyNow_92 : decode cX3_familyNow 92 = .ok (.iadd, 1) := by decide +kernel
theorem dX3_familyNow_93 : decode cX3_familyNow 93 = .ok (.iaload, 1) := by decide +kernel
theorem dX3_familyNow_94 : decode cX3_familyNow 94 = .ok (.iload_n 1, 1) := by decide +kernel
theorem dX3_familyNow_95 : decode cX3_familyNow 95 = .ok (.if_icmp .ne 7, 3) := by decide +kernel
theorem dX3_familyNow_98 : decode cX3_familyNow 98 = .ok (.iconst 1, 1) := by decide +kernel
theorem dX3_familyNow_99 : decode cX3_familyNow 99 = .ok (.goto 4, 3) := by decide +kernel
theorem dX3_familyNow_102 : decode cX3_familyNow 102 = .ok (.iconst 0, 1) := by decide +kernel
theorem dX3_familyNow_103 : decode cX3_familyNow 103 = .ok (.iadd, 1) := by decide +kernel
theorem dX3_familyNow_104 : decode cX3_familyNow 104 = .ok (.istore_n 3, 1) := by decide +kernel
theorem dX3_familyNow_105 : decode cX3_familyNow 105 = .ok (.iconst 0, 1) := by decide +kernel
theorem dX3_familyNow_106 : decode cX3_familyNow 106 = .ok (.istore 5, 2) := by decide +kernel
theorem dX3_familyNow_108 : decode cX3_familyNow 108 = .ok (.iload 5, 2) := by decide +kernel
theorem dX3_familyNow_110 : decode cX3_familyNow 110 = .ok (.iconst 3, 1) := by decide +kernel
theorem dX3_familyNow_111 : decode cX3_familyNow 111 = .ok (.if_icmp .ge 42, 3) := by decide +kernel
theorem dX3_familyNow_114 : decode cX3_familyNow 114 = .ok (.iload_n 3, 1) := by decide +kernel
theorem dX3_familyNow_115 : decode cX3_familyNow 115 = .ok (.iload_n 2, 1) := by decide +kernel
theorem dX3_familyNow_116 : decode cX3_familyNow 116 = .ok (.iconst 3, 1) := by decide +kernel
theorem dX3_familyNow_117 : decode cX3_familyNow 117 = .ok (.if_icmp .ne 27, 3) := by decide +kernel
theorem dX3_familyNow_120 : decode cX3_familyNow 120 = .ok (.aload_n 0, 1) := by decide +kernel
theorem dX3_familyNow_121 : decode cX3_familyNow 121 = .ok (.getfield 7, 3) := by decide +kernel
theorem dX3_familyNow_124 : decode cX3_familyNow 124 = .ok (.sipush 160, 3) := by decide +kernel
theorem dX3_familyNow_127 : decode cX3_familyNow 127 = .ok (.iconst 3, 1) := by decide +kernel
theorem dX3_familyNow_128 : decode cX3_familyNow 128 = .ok (.iload 4, 2) := by decide +kernel
theorem dX3_familyNow_130 : decode cX3_familyNow 130 = .ok (.imul, 1) := by decide +kernel
theorem dX3_familyNow_131 : decode cX3_familyNow 131 = .ok (.iadd, 1) := by decide +kernel
theorem dX3_familyNow_132 : decode cX3_familyNow 132 = .ok (.iload 5, 2) := by decide +kernel
theorem dX3_familyNow_134 : decode cX3_familyNow 134 = .ok (.iadd, 1) := by decide +kernel
theorem dX3_familyNow_135 : decode cX3_familyNow 135 = .ok (.iaload, 1) := by decide +kernel
theorem dX3_familyNow_136 : decode cX3_familyNow 136 = .ok (.iload_n 1, 1) := by decide +kernel
theorem dX3_familyNow_137 : decode cX3_familyNow 137 = .ok (.if_icmp .ne 7, 3) := by decide +kernel
theorem dX3_familyNow_140 : decode cX3_familyNow 140 = .ok (.iconst 1, 1) := by decide +kernel
theorem dX3_familyNow_141 : decode cX3_familyNow 141 = .ok (.goto 4, 3) := by decide +kernel
theorem dX3_familyNow_144 : decode cX3_familyNow 144 = .ok (.iconst 0, 1) := by decide +kernel
theorem dX3_familyNow_145 : decode cX3_familyNow 145 = .ok (.iadd, 1) := by decide +kernel
theorem dX3_familyNow_146 : decode cX3_familyNow 146 = .ok (.istore_n 3, 1) := by decide +kernel
theorem dX3_familyNow_147 : decode cX3_familyNow 147 = .ok (.iinc 5 1, 3) := by decide +kernel
theorem dX3_familyNow_150 : decode cX3_familyNow 150 = .ok (.goto (-42), 3) := by decide +kernel
theorem dX3_familyNow_153 : decode cX3_familyNow 153 = .ok (.iinc 4 1, 3) := by decide +kernel
theorem dX3_familyNow_156 : decode cX3_familyNow 156 = .ok (.goto (-100), 3) := by decide +kernel
theorem dX3_familyNow_159 : decode cX3_familyNow 159 = .ok (.iload_n 3, 1) := by decide +kernel
theorem dX3_familyNow_160 : decode cX3_familyNow 160 = .ok (.ireturn, 1) := by decide +kernel
theorem dX3_family_0 : decode cX3_family 0 = .ok (.aload_n 0, 1) := by decide +kernel
theorem dX3_family_1 : decode cX3_family 1 = .ok (.invokevirtual 92, 3) := by decide +kernel
theorem dX3_family_4 : decode cX3_family 4 = .ok (.iload_n 1, 1) := by decide +kernel
theorem dX3_family_5 : decode cX3_family 5 = .ok (.invokestatic 105, 3) := by decide +kernel
theorem dX3_family_8 : decode cX3_family 8 = .ok (.ifCond .ne 9, 3) := by decide +kernel
theorem dX3_family_11 : decode cX3_family 11 = .ok (.aload_n 0, 1) := by decide +kernel
theorem dX3_family_12 : decode cX3_family 12 = .ok (.iconst 1, 1) := by decide +kernel
theorem dX3_family_13 : decode cX3_family 13 = .ok (.invokevirtual 95, 3) := by decide +kernel
theorem dX3_family_16 : decode cX3_family 16 = .ok (.ireturn, 1) := by decide +kernel
theorem dX3_family_17 : decode cX3_family 17 = .ok (.iload_n 2, 1) := by decide +kernel
theorem dX3_family_18 : decode cX3_family 18 = .ok (.iconst 0, 1) := by decide +kernel
theorem dX3_family_19 : decode cX3_family 19 = .ok (.iconst 5, 1) := by decide +kernel
theorem dX3_family_20 : decode cX3_family 20 = .ok (.invokestatic 41, 3) := by decide +kernel
theorem dX3_family_23 : decode cX3_family 23 = .ok (.ifCond .eq 12, 3) := by decide +kernel
theorem dX3_family_26 : decode cX3_family 26 = .ok (.aload_n 0, 1) := by decide +kernel
theorem dX3_family_27 : decode cX3_family 27 = .ok (.iload_n 1, 1) := by decide +kernel
theorem dX3_family_28 : decode cX3_family 28 = .ok (.iload_n 2, 1) := by decide +kernel
theorem dX3_family_29 : decode cX3_family 29 = .ok (.invokevirtual 152, 3) := by decide +kernel
theorem dX3_family_32 : decode cX3_family 32 = .ok (.goto 8, 3) := by decide +kernel
theorem dX3_family_35 : decode cX3_family 35 = .ok (.aload_n 0, 1) := by decide +kernel
theorem dX3_family_36 : decode cX3_family 36 = .ok (.iconst 2, 1) := by decide +kernel
theorem dX3_family_37 : decode cX3_family 37 = .ok (.invokevirtual 95, 3) := by decide +kernel
theorem dX3_family_40 : decode cX3_family 40 = .ok (.ireturn, 1) := by decide +kernel
theorem dX3_counted_0 : decode cX3_counted 0 = .ok (.iload_n 1, 1) := by decide +kernel
theorem dX3_counted_1 : decode cX3_counted 1 = .ok (.ifCond .eq 9, 3) := by decide +kernel
theorem dX3_counted_4 : decode cX3_counted 4 = .ok (.iload_n 1, 1) := by decide +kernel
theorem dX3_counted_5 : decode cX3_counted 5 = .ok (.bipush 8, 2) := by decide +kernel
theorem dX3_counted_7 : decode cX3_counted 7 = .ok (.if_icmp .ne 23, 3) := by decide +kernel
theorem dX3_counted_10 : decode cX3_counted 10 = .ok (.iload_n 1, 1) := by decide +kernel
theorem dX3_counted_11 : decode cX3_counted 11 = .ok (.ifCond .ne 14, 3) := by decide +kernel
theorem dX3_counted_14 : decode cX3_counted 14 = .ok (.aload_n 0, 1) := by decide +kernel
theorem dX3_counted_15 : decode cX3_counted 15 = .ok (.getfield 7, 3) := by decide +kernel
theorem dX3_counted_18 : decode cX3_counted 18 = .ok (.sipush 550, 3) := by decide +kernel
theorem dX3_counted_21 : decode cX3_counted 21 = .ok (.iaload, 1) := by decide +kernel
theorem dX3_counted_22 : decode cX3_counted 22 = .ok (.goto 7, 3) := by decide +kernel
theorem dX3_counted_25 : decode cX3_counted 25 = .ok (.aload_n 0, 1) := by decide +kernel
theorem dX3_counted_26 : decode cX3_counted 26 = .ok (.getfield 85, 3) := by decide +kernel
theorem dX3_counted_29 : decode cX3_counted 29 = .ok (.ireturn, 1) := by decide +kernel
theorem dX3_counted_30 : decode cX3_counted 30 = .ok (.iconst 0, 1) := by decide +kernel
theorem dX3_counted_31 : decode cX3_counted 31 = .ok (.istore_n 2, 1) := by decide +kernel
theorem dX3_counted_32 : decode cX3_counted 32 = .ok (.iconst 0, 1) := by decide +kernel
theorem dX3_counted_33 : decode cX3_counted 33 = .ok (.istore_n 3, 1) := by decide +kernel
theorem dX3_counted_34 : decode cX3_counted 34 = .ok (.iload_n 3, 1) := by decide +kernel
theorem dX3_counted_35 : decode cX3_counted 35 = .ok (.bipush 10, 2) := by decide +kernel
theorem dX3_counted_37 : decode cX3_counted 37 = .ok (.if_icmp .ge 32, 3) := by decide +kernel
theorem dX3_counted_40 : decode cX3_counted 40 = .ok (.iload_n 2, 1) := by decide +kernel
theorem dX3_counted_41 : decode cX3_counted 41 = .ok (.iload_n 1, 1) := by decide +kernel
theorem dX3_counted_42 : decode cX3_counted 42 = .ok (.bipush 7, 2) := by decide +kernel
theorem dX3_counted_44 : decode cX3_counted 44 = .ok (.if_icmp .ne 16, 3) := by decide +kernel
theorem dX3_counted_47 : decode cX3_counted 47 = .ok (.aload_n 0, 1) := by decide +kernel
theorem dX3_counted_48 : decode cX3_counted 48 = .ok (.getfield 7, 3) := by decide +kernel
theorem dX3_counted_51 : decode cX3_counted 51 = .ok (.sipush 530, 3) := by decide +kernel
theorem dX3_counted_54 : decode cX3_counted 54 = .ok (.iload_n 3, 1) := by decide +kernel
theorem dX3_counted_55 : decode cX3_counted 55 = .ok (.iadd, 1) := by decide +kernel
theorem dX3_counted_56 : decode cX3_counted 56 = .ok (.iaload, 1) := by decide +kernel
theorem dX3_counted_57 : decode cX3_counted 57 = .ok (.goto 4, 3) := by decide +kernel
theorem dX3_counted_60 : decode cX3_counted 60 = .ok (.iconst 0, 1) := by decide +kernel
theorem dX3_counted_61 : decode cX3_counted 61 = .ok (.iadd, 1) := by decide +kernel
theorem dX3_counted_62 : decode cX3_counted 62 = .ok (.istore_n 2, 1) := by decide +kernel
theorem dX3_counted_63 : decode cX3_counted 63 = .ok (.iinc 3 1, 3) := by decide +kernel
theorem dX3_counted_66 : decode cX3_counted 66 = .ok (.goto (-32), 3) := by decide +kernel
theorem dX3_counted_69 : decode cX3_counted 69 = .ok (.iconst 0, 1) := by decide +kernel
theorem dX3_counted_70 : decode cX3_counted 70 = .ok (.istore_n 3, 1) := by decide +kernel
theorem dX3_counted_71 : decode cX3_counted 71 = .ok (.iload_n 3, 1) := by decide +kernel
theorem dX3_counted_72 : decode cX3_counted 72 = .ok (.bipush 40, 2) := by decide +kernel
theorem dX3_counted_74 : decode cX3_counted 74 = .ok (.if_icmp .ge 140, 3) := by decide +kernel
theorem dX3_counted_77 : decode cX3_counted 77 = .ok (.aload_n 0, 1) := by decide +kernel
theorem dX3_counted_78 : decode cX3_counted 78 = .ok (.getfield 7, 3) := by decide +kernel
theorem dX3_counted_81 : decode cX3_counted 81 = .ok (.iload_n 3, 1) := by decide +kernel
theorem dX3_counted_82 : decode cX3_counted 82 = .ok (.iaload, 1) := by decide +kernel
theorem dX3_counted_83 : decode cX3_counted 83 = .ok (.iconst 3, 1) := by decide +kernel
theorem dX3_counted_84 : decode cX3_counted 84 = .ok (.if_icmp .eq 7, 3) := by decide +kernel
theorem dX3_counted_87 : decode cX3_counted 87 = .ok (.iconst 1, 1) := by decide +kernel
theorem dX3_counted_88 : decode cX3_counted 88 = .ok (.goto 4, 3) := by decide +kernel
theorem dX3_counted_91 : decode cX3_counted 91 = .ok (.iconst 0, 1) := by decide +kernel
theorem dX3_counted_92 : decode cX3_counted 92 = .ok (.istore 4, 2) := by decide +kernel
theorem dX3_counted_94 : decode cX3_counted 94 = .ok (.iload_n 2, 1) := by decide +kernel
theorem dX3_counted_95 : decode cX3_counted 95 = .ok (.iload_n 1, 1) := by decide +kernel
theorem dX3_counted_96 : decode cX3_counted 96 = .ok (.iconst 1, 1) := by decide +kernel
theorem dX3_counted_97 : decode cX3_counted 97 = .ok (.if_icmp .ne 11, 3) := by decide +kernel
theorem dX3_counted_100 : decode cX3_counted 100 = .ok (.aload_n 0, 1) := by decide +kernel
theorem dX3_counted_101 : decode cX3_counted 101 = .ok (.iload_n 3, 1) := by decide +kernel
theorem dX3_counted_102 : decode cX3_counted 102 = .ok (.invokevirtual 67, 3) := by decide +kernel
theorem dX3_counted_105 : decode cX3_counted 105 = .ok (.goto 17, 3) := by decide +kernel
theorem dX3_counted_108 : decode cX3_counted 108 = .ok (.iload_n 1, 1) := by decide +kernel
theorem dX3_counted_109 : decode cX3_counted 109 = .ok (.iconst 2, 1) := by decide +kernel
theorem dX3_counted_110 : decode cX3_counted 110 = .ok (.if_icmp .ne 11, 3) := by decide +kernel
theorem dX3_counted_113 : decode cX3_counted 113 = .ok (.aload_n 0, 1) := by decide +kernel
theorem dX3_counted_114 : decode cX3_counted 114 = .ok (.iload_n 3, 1) := by decide +kernel
theorem dX3_counted_115 : decode cX3_counted 115 = .ok (.invokevirtual 127, 3) := by decide +kernel
theorem dX3_counted_118 : decode cX3_counted 118 = .ok (.goto 4, 3) := by decide +kernel
theorem dX3_counted_121 : decode cX3_counted 121 = .ok (.iconst 0, 1) := by decide +kernel
theorem dX3_counted_122 : decode cX3_counted 122 = .ok (.iadd, 1) := by decide +kernel
theorem dX3_counted_123 : decode cX3_counted 123 = .ok (.istore_n 2, 1) := by decide +kernel
theorem dX3_counted_124 : decode cX3_counted 124 = .ok (.iload_n 2, 1) := by decide +kernel
theorem dX3_counted_125 : decode cX3_counted 125 = .ok (.iload_n 1, 1) := by decide +kernel
theorem dX3_counted_126 : decode cX3_counted 126 = .ok (.iconst 3, 1) := by decide +kernel
theorem dX3_counted_127 : decode cX3_counted 127 = .ok (.if_icmp .ne 16, 3) := by decide +kernel
theorem dX3_counted_130 : decode cX3_counted 130 = .ok (.iload 4, 2) := by decide +kernel
theorem dX3_counted_132 : decode cX3_counted 132 = .ok (.ifCond .eq 11, 3) := by decide +kernel
theorem dX3_counted_135 : decode cX3_counted 135 = .ok (.aload_n 0, 1) := by decide +kernel
theorem dX3_counted_136 : decode cX3_counted 136 = .ok (.iload_n 3, 1) := by decide +kernel
theorem dX3_counted_137 : decode cX3_counted 137 = .ok (.invokevirtual 67, 3) := by decide +kernel

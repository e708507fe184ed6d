theorem dX1_addReservation_2 : decode cX1_addReservation 2 = .ok (.iload_n 2, 1) := by decide +kernel
theorem dX1_addReservation_3 : decode cX1_addReservation 3 = .ok (.invokevirtual 81, 3) := by decide +kernel
theorem dX1_addReservation_6 : decode cX1_addReservation 6 = .ok (.ifCond .eq 12, 3) := by decide +kernel
theorem dX1_addReservation_9 : decode cX1_addReservation 9 = .ok (.aload_n 0, 1) := by decide +kernel
theorem dX1_addReservation_10 : decode cX1_addReservation 10 = .ok (.getfield 34, 3) := by decide +kernel
theorem dX1_addReservation_13 : decode cX1_addReservation 13 = .ok (.iload_n 2, 1) := by decide +kernel
theorem dX1_addReservation_14 : decode cX1_addReservation 14 = .ok (.iaload, 1) := by decide +kernel
theorem dX1_addReservation_15 : decode cX1_addReservation 15 = .ok (.goto 7, 3) := by decide +kernel
theorem dX1_addReservation_18 : decode cX1_addReservation 18 = .ok (.aload_n 0, 1) := by decide +kernel
theorem dX1_addReservation_19 : decode cX1_addReservation 19 = .ok (.getfield 9, 3) := by decide +kernel
theorem dX1_addReservation_22 : decode cX1_addReservation 22 = .ok (.istore 4, 2) := by decide +kernel
theorem dX1_addReservation_24 : decode cX1_addReservation 24 = .ok (.aload_n 0, 1) := by decide +kernel
theorem dX1_addReservation_25 : decode cX1_addReservation 25 = .ok (.getfield 31, 3) := by decide +kernel
theorem dX1_addReservation_28 : decode cX1_addReservation 28 = .ok (.iload_n 2, 1) := by decide +kernel
theorem dX1_addReservation_29 : decode cX1_addReservation 29 = .ok (.iload_n 1, 1) := by decide +kernel
theorem dX1_addReservation_30 : decode cX1_addReservation 30 = .ok (.iastore, 1) := by decide +kernel
theorem dX1_addReservation_31 : decode cX1_addReservation 31 = .ok (.aload_n 0, 1) := by decide +kernel
theorem dX1_addReservation_32 : decode cX1_addReservation 32 = .ok (.getfield 34, 3) := by decide +kernel
theorem dX1_addReservation_35 : decode cX1_addReservation 35 = .ok (.iload_n 2, 1) := by decide +kernel
theorem dX1_addReservation_36 : decode cX1_addReservation 36 = .ok (.iload 4, 2) := by decide +kernel
theorem dX1_addReservation_38 : decode cX1_addReservation 38 = .ok (.iload_n 3, 1) := by decide +kernel
theorem dX1_addReservation_39 : decode cX1_addReservation 39 = .ok (.iadd, 1) := by decide +kernel
theorem dX1_addReservation_40 : decode cX1_addReservation 40 = .ok (.iastore, 1) := by decide +kernel
theorem dX1_addReservation_41 : decode cX1_addReservation 41 = .ok (.aload_n 0, 1) := by decide +kernel
theorem dX1_addReservation_42 : decode cX1_addReservation 42 = .ok (.iload_n 1, 1) := by decide +kernel
theorem dX1_addReservation_43 : decode cX1_addReservation 43 = .ok (.iconst 2, 1) := by decide +kernel
theorem dX1_addReservation_44 : decode cX1_addReservation 44 = .ok (.iload_n 3, 1) := by decide +kernel
theorem dX1_addReservation_45 : decode cX1_addReservation 45 = .ok (.imul, 1) := by decide +kernel
theorem dX1_addReservation_46 : decode cX1_addReservation 46 = .ok (.invokevirtual 84, 3) := by decide +kernel
theorem dX1_addReservation_49 : decode cX1_addReservation 49 = .ok (.ireturn, 1) := by decide +kernel
theorem dX1_mayBuildVault_0 : decode cX1_mayBuildVault 0 = .ok (.aload_n 0, 1) := by decide +kernel
theorem dX1_mayBuildVault_1 : decode cX1_mayBuildVault 1 = .ok (.getfield 25, 3) := by decide +kernel
theorem dX1_mayBuildVault_4 : decode cX1_mayBuildVault 4 = .ok (.iload_n 2, 1) := by decide +kernel
theorem dX1_mayBuildVault_5 : decode cX1_mayBuildVault 5 = .ok (.iaload, 1) := by decide +kernel
theorem dX1_mayBuildVault_6 : decode cX1_mayBuildVault 6 = .ok (.iconst 3, 1) := by decide +kernel
theorem dX1_mayBuildVault_7 : decode cX1_mayBuildVault 7 = .ok (.if_icmp .eq 59, 3) := by decide +kernel
theorem dX1_mayBuildVault_10 : decode cX1_mayBuildVault 10 = .ok (.aload_n 0, 1) := by decide +kernel
theorem dX1_mayBuildVault_11 : decode cX1_mayBuildVault 11 = .ok (.getfield 25, 3) := by decide +kernel
theorem dX1_mayBuildVault_14 : decode cX1_mayBuildVault 14 = .ok (.iload_n 2, 1) := by decide +kernel
theorem dX1_mayBuildVault_15 : decode cX1_mayBuildVault 15 = .ok (.iaload, 1) := by decide +kernel
theorem dX1_mayBuildVault_16 : decode cX1_mayBuildVault 16 = .ok (.iconst 2, 1) := by decide +kernel
theorem dX1_mayBuildVault_17 : decode cX1_mayBuildVault 17 = .ok (.if_icmp .eq 49, 3) := by decide +kernel
theorem dX1_mayBuildVault_20 : decode cX1_mayBuildVault 20 = .ok (.aload_n 0, 1) := by decide +kernel
theorem dX1_mayBuildVault_21 : decode cX1_mayBuildVault 21 = .ok (.getfield 28, 3) := by decide +kernel
theorem dX1_mayBuildVault_24 : decode cX1_mayBuildVault 24 = .ok (.iload_n 2, 1) := by decide +kernel
theorem dX1_mayBuildVault_25 : decode cX1_mayBuildVault 25 = .ok (.iaload, 1) := by decide +kernel
theorem dX1_mayBuildVault_26 : decode cX1_mayBuildVault 26 = .ok (.iconst (-1), 1) := by decide +kernel
theorem dX1_mayBuildVault_27 : decode cX1_mayBuildVault 27 = .ok (.if_icmp .ne 39, 3) := by decide +kernel
theorem dX1_mayBuildVault_30 : decode cX1_mayBuildVault 30 = .ok (.aload_n 0, 1) := by decide +kernel
theorem dX1_mayBuildVault_31 : decode cX1_mayBuildVault 31 = .ok (.iload_n 2, 1) := by decide +kernel
theorem dX1_mayBuildVault_32 : decode cX1_mayBuildVault 32 = .ok (.invokevirtual 58, 3) := by decide +kernel
theorem dX1_mayBuildVault_35 : decode cX1_mayBuildVault 35 = .ok (.ifCond .ne 31, 3) := by decide +kernel
theorem dX1_mayBuildVault_38 : decode cX1_mayBuildVault 38 = .ok (.aload_n 0, 1) := by decide +kernel
theorem dX1_mayBuildVault_39 : decode cX1_mayBuildVault 39 = .ok (.iload_n 2, 1) := by decide +kernel
theorem dX1_mayBuildVault_40 : decode cX1_mayBuildVault 40 = .ok (.aload_n 0, 1) := by decide +kernel
theorem dX1_mayBuildVault_41 : decode cX1_mayBuildVault 41 = .ok (.getfield 9, 3) := by decide +kernel
theorem dX1_mayBuildVault_44 : decode cX1_mayBuildVault 44 = .ok (.invokevirtual 74, 3) := by decide +kernel
theorem dX1_mayBuildVault_47 : decode cX1_mayBuildVault 47 = .ok (.iload_n 1, 1) := by decide +kernel
theorem dX1_mayBuildVault_48 : decode cX1_mayBuildVault 48 = .ok (.invokestatic 77, 3) := by decide +kernel
theorem dX1_mayBuildVault_51 : decode cX1_mayBuildVault 51 = .ok (.ifCond .ne 15, 3) := by decide +kernel
theorem dX1_mayBuildVault_54 : decode cX1_mayBuildVault 54 = .ok (.aload_n 0, 1) := by decide +kernel
theorem dX1_mayBuildVault_55 : decode cX1_mayBuildVault 55 = .ok (.iload_n 2, 1) := by decide +kernel
theorem dX1_mayBuildVault_56 : decode cX1_mayBuildVault 56 = .ok (.invokevirtual 87, 3) := by decide +kernel
theorem dX1_mayBuildVault_59 : decode cX1_mayBuildVault 59 = .ok (.ifCond .eq 7, 3) := by decide +kernel
theorem dX1_mayBuildVault_62 : decode cX1_mayBuildVault 62 = .ok (.iconst 1, 1) := by decide +kernel
theorem dX1_mayBuildVault_63 : decode cX1_mayBuildVault 63 = .ok (.goto 4, 3) := by decide +kernel
theorem dX1_mayBuildVault_66 : decode cX1_mayBuildVault 66 = .ok (.iconst 0, 1) := by decide +kernel
theorem dX1_mayBuildVault_67 : decode cX1_mayBuildVault 67 = .ok (.ireturn, 1) := by decide +kernel
theorem dX1_addVault_0 : decode cX1_addVault 0 = .ok (.aload_n 0, 1) := by decide +kernel
theorem dX1_addVault_1 : decode cX1_addVault 1 = .ok (.getfield 28, 3) := by decide +kernel
theorem dX1_addVault_4 : decode cX1_addVault 4 = .ok (.iload_n 2, 1) := by decide +kernel
theorem dX1_addVault_5 : decode cX1_addVault 5 = .ok (.iload_n 1, 1) := by decide +kernel
theorem dX1_addVault_6 : decode cX1_addVault 6 = .ok (.iastore, 1) := by decide +kernel
theorem dX1_addVault_7 : decode cX1_addVault 7 = .ok (.aload_n 0, 1) := by decide +kernel
theorem dX1_addVault_8 : decode cX1_addVault 8 = .ok (.getfield 31, 3) := by decide +kernel
theorem dX1_addVault_11 : decode cX1_addVault 11 = .ok (.iload_n 2, 1) := by decide +kernel
theorem dX1_addVault_12 : decode cX1_addVault 12 = .ok (.iconst (-1), 1) := by decide +kernel
theorem dX1_addVault_13 : decode cX1_addVault 13 = .ok (.iastore, 1) := by decide +kernel
theorem dX1_addVault_14 : decode cX1_addVault 14 = .ok (.aload_n 0, 1) := by decide +kernel
theorem dX1_addVault_15 : decode cX1_addVault 15 = .ok (.getfield 34, 3) := by decide +kernel
theorem dX1_addVault_18 : decode cX1_addVault 18 = .ok (.iload_n 2, 1) := by decide +kernel
theorem dX1_addVault_19 : decode cX1_addVault 19 = .ok (.iconst (-1), 1) := by decide +kernel
theorem dX1_addVault_20 : decode cX1_addVault 20 = .ok (.iastore, 1) := by decide +kernel
theorem dX1_addVault_21 : decode cX1_addVault 21 = .ok (.aload_n 0, 1) := by decide +kernel
theorem dX1_addVault_22 : decode cX1_addVault 22 = .ok (.iload_n 1, 1) := by decide +kernel
theorem dX1_addVault_23 : decode cX1_addVault 23 = .ok (.bipush 100, 2) := by decide +kernel
theorem dX1_addVault_25 : decode cX1_addVault 25 = .ok (.invokevirtual 84, 3) := by decide +kernel
theorem dX1_addVault_28 : decode cX1_addVault 28 = .ok (.ireturn, 1) := by decide +kernel
theorem dX1_charge_0 : decode cX1_charge 0 = .ok (.aload_n 0, 1) := by decide +kernel
theorem dX1_charge_1 : decode cX1_charge 1 = .ok (.iload_n 1, 1) := by decide +kernel
theorem dX1_charge_2 : decode cX1_charge 2 = .ok (.iload_n 2, 1) := by decide +kernel
theorem dX1_charge_3 : decode cX1_charge 3 = .ok (.invokevirtual 91, 3) := by decide +kernel
theorem dX1_charge_6 : decode cX1_charge 6 = .ok (.istore_n 3, 1) := by decide +kernel
theorem dX1_charge_7 : decode cX1_charge 7 = .ok (.aload_n 0, 1) := by decide +kernel
theorem dX1_charge_8 : decode cX1_charge 8 = .ok (.getfield 19, 3) := by decide +kernel
theorem dX1_charge_11 : decode cX1_charge 11 = .ok (.iload_n 1, 1) := by decide +kernel
theorem dX1_charge_12 : decode cX1_charge 12 = .ok (.dup2, 1) := by decide +kernel
theorem dX1_charge_13 : decode cX1_charge 13 = .ok (.iaload, 1) := by decide +kernel
theorem dX1_charge_14 : decode cX1_charge 14 = .ok (.iload_n 3, 1) := by decide +kernel
theorem dX1_charge_15 : decode cX1_charge 15 = .ok (.iadd, 1) := by decide +kernel
theorem dX1_charge_16 : decode cX1_charge 16 = .ok (.iastore, 1) := by decide +kernel
theorem dX1_charge_17 : decode cX1_charge 17 = .ok (.iload_n 3, 1) := by decide +kernel
theorem dX1_charge_18 : decode cX1_charge 18 = .ok (.ireturn, 1) := by decide +kernel
theorem dX1_placeOf_0 : decode cX1_placeOf 0 = .ok (.iload_n 0, 1) := by decide +kernel
theorem dX1_placeOf_1 : decode cX1_placeOf 1 = .ok (.iconst 3, 1) := by decide +kernel
theorem dX1_placeOf_2 : decode cX1_placeOf 2 = .ok (.imul, 1) := by decide +kernel
theorem dX1_placeOf_3 : decode cX1_placeOf 3 = .ok (.iload_n 1, 1) := by decide +kernel
theorem dX1_placeOf_4 : decode cX1_placeOf 4 = .ok (.iadd, 1) := by decide +kernel
theorem dX1_placeOf_5 : decode cX1_placeOf 5 = .ok (.iconst 1, 1) := by decide +kernel
theorem dX1_placeOf_6 : decode cX1_placeOf 6 = .ok (.isub, 1) := by decide +kernel
theorem dX1_placeOf_7 : decode cX1_placeOf 7 = .ok (.ireturn, 1) := by decide +kernel
theorem dX1_endOfRest_0 : decode cX1_endOfRest 0 = .ok (.aload_n 0, 1) := by decide +kernel
theorem dX1_endOfRest_1 : decode cX1_endOfRest 1 = .ok (.getfield 40, 3) := by decide +kernel
theorem dX1_endOfRest_4 : decode cX1_endOfRest 4 = .ok (.iload_n 1, 1) := by decide +kernel
theorem dX1_endOfRest_5 : decode cX1_endOfRest 5 = .ok (.iaload, 1) := by decide +kernel
theorem dX1_endOfRest_6 : decode cX1_endOfRest 6 = .ok (.getstatic 94, 3) := by decide +kernel
theorem dX1_endOfRest_9 : decode cX1_endOfRest 9 = .ok (.aload_n 0, 1) := by decide +kernel
theorem dX1_endOfRest_10 : decode cX1_endOfRest 10 = .ok (.getfield 25, 3) := by decide +kernel
theorem dX1_endOfRest_13 : decode cX1_endOfRest 13 = .ok (.iload_n 1, 1) := by decide +kernel
theorem dX1_endOfRest_14 : decode cX1_endOfRest 14 = .ok (.iconst 3, 1) := by decide +kernel
theorem dX1_endOfRest_15 : decode cX1_endOfRest 15 = .ok (.idiv, 1) := by decide +kernel
theorem dX1_endOfRest_16 : decode cX1_endOfRest 16 = .ok (.iaload, 1) := by decide +kernel
theorem dX1_endOfRest_17 : decode cX1_endOfRest 17 = .ok (.iaload, 1) := by decide +kernel
theorem dX1_endOfRest_18 : decode cX1_endOfRest 18 = .ok (.iadd, 1) := by decide +kernel
theorem dX1_endOfRest_19 : decode cX1_endOfRest 19 = .ok (.ireturn, 1) := by decide +kernel
theorem dX1_isResting_0 : decode cX1_isResting 0 = .ok (.aload_n 0, 1) := by decide +kernel
theorem dX1_isResting_1 : decode cX1_isResting 1 = .ok (.getfield 37, 3) := by decide +kernel
theorem dX1_isResting_4 : decode cX1_isResting 4 = .ok (.iload_n 1, 1) := by decide +kernel
theorem dX1_isResting_5 : decode cX1_isResting 5 = .ok (.iaload, 1) := by decide +kernel
theorem dX1_isResting_6 : decode cX1_isResting 6 = .ok (.iconst (-1), 1) := by decide +kernel
theorem dX1_isResting_7 : decode cX1_isResting 7 = .ok (.if_icmp .eq 16, 3) := by decide +kernel
theorem dX1_isResting_10 : decode cX1_isResting 10 = .ok (.iload_n 2, 1) := by decide +kernel
theorem dX1_isResting_11 : decode cX1_isResting 11 = .ok (.aload_n 0, 1) := by decide +kernel
theorem dX1_isResting_12 : decode cX1_isResting 12 = .ok (.iload_n 1, 1) := by decide +kernel
theorem dX1_isResting_13 : decode cX1_isResting 13 = .ok (.invokevirtual 97, 3) := by decide +kernel
theorem dX1_isResting_16 : decode cX1_isResting 16 = .ok (.if_icmp .ge 7, 3) := by decide +kernel
theorem dX1_isResting_19 : decode cX1_isResting 19 = .ok (.iconst 1, 1) := by decide +kernel
theorem dX1_isResting_20 : decode cX1_isResting 20 = .ok (.goto 4, 3) := by decide +kernel
theorem dX1_isResting_23 : decode cX1_isResting 23 = .ok (.iconst 0, 1) := by decide +kernel
theorem dX1_isResting_24 : decode cX1_isResting 24 = .ok (.ireturn, 1) := by decide +kernel
theorem dX1_burialsIn_0 : decode cX1_burialsIn 0 = .ok (.iconst 0, 1) := by decide +kernel
theorem dX1_burialsIn_1 : decode cX1_burialsIn 1 = .ok (.istore_n 2, 1) := by decide +kernel
theorem dX1_burialsIn_2 : decode cX1_burialsIn 2 = .ok (.iload_n 1, 1) := by decide +kernel
theorem dX1_burialsIn_3 : decode cX1_burialsIn 3 = .ok (.iconst 3, 1) := by decide +kernel
theorem dX1_burialsIn_4 : decode cX1_burialsIn 4 = .ok (.imul, 1) := by decide +kernel
theorem dX1_burialsIn_5 : decode cX1_burialsIn 5 = .ok (.istore_n 3, 1) := by decide +kernel
theorem dX1_burialsIn_6 : decode cX1_burialsIn 6 = .ok (.iload_n 3, 1) := by decide +kernel
theorem dX1_burialsIn_7 : decode cX1_burialsIn 7 = .ok (.istore 4, 2) := by decide +kernel
theorem dX1_burialsIn_9 : decode cX1_burialsIn 9 = .ok (.iload 4, 2) := by decide +kernel
theorem dX1_burialsIn_11 : decode cX1_burialsIn 11 = .ok (.iload_n 3, 1) := by decide +kernel
theorem dX1_burialsIn_12 : decode cX1_burialsIn 12 = .ok (.iconst 3, 1) := by decide +kernel
theorem dX1_burialsIn_13 : decode cX1_burialsIn 13 = .ok (.iadd, 1) := by decide +kernel
theorem dX1_burialsIn_14 : decode cX1_burialsIn 14 = .ok (.if_icmp .ge 23, 3) := by decide +kernel
theorem dX1_burialsIn_17 : decode cX1_burialsIn 17 = .ok (.aload_n 0, 1) := by decide +kernel
theorem dX1_burialsIn_18 : decode cX1_burialsIn 18 = .ok (.getfield 37, 3) := by decide +kernel
theorem dX1_burialsIn_21 : decode cX1_burialsIn 21 = .ok (.iload 4, 2) := by decide +kernel
theorem dX1_burialsIn_23 : decode cX1_burialsIn 23 = .ok (.iaload, 1) := by decide +kernel
theorem dX1_burialsIn_24 : decode cX1_burialsIn 24 = .ok (.iconst (-1), 1) := by decide +kernel
theorem dX1_burialsIn_25 : decode cX1_burialsIn 25 = .ok (.if_icmp .eq 6, 3) := by decide +kernel
theorem dX1_burialsIn_28 : decode cX1_burialsIn 28 = .ok (.iinc 2 1, 3) := by decide +kernel
theorem dX1_burialsIn_31 : decode cX1_burialsIn 31 = .ok (.iinc 4 1, 3) := by decide +kernel
theorem dX1_burialsIn_34 : decode cX1_burialsIn 34 = .ok (.goto (-25), 3) := by decide +kernel
theorem dX1_burialsIn_37 : decode cX1_burialsIn 37 = .ok (.iload_n 2, 1) := by decide +kernel
theorem dX1_burialsIn_38 : decode cX1_burialsIn 38 = .ok (.ireturn, 1) := by decide +kernel
theorem dX1_restingBurials_0 : decode cX1_restingBurials 0 = .ok (.iconst 0, 1) := by decide +kernel
theorem dX1_restingBurials_1 : decode cX1_restingBurials 1 = .ok (.istore_n 2, 1) := by decide +kernel
theorem dX1_restingBurials_2 : decode cX1_restingBurials 2 = .ok (.iload_n 1, 1) := by decide +kernel
theorem dX1_restingBurials_3 : decode cX1_restingBurials 3 = .ok (.iconst 3, 1) := by decide +kernel
theorem dX1_restingBurials_4 : decode cX1_restingBurials 4 = .ok (.imul, 1) := by decide +kernel
theorem dX1_restingBurials_5 : decode cX1_restingBurials 5 = .ok (.istore_n 3, 1) := by decide +kernel
theorem dX1_restingBurials_6 : decode cX1_restingBurials 6 = .ok (.iload_n 3, 1) := by decide +kernel
theorem dX1_restingBurials_7 : decode cX1_restingBurials 7 = .ok (.istore 4, 2) := by decide +kernel
theorem dX1_restingBurials_9 : decode cX1_restingBurials 9 = .ok (.iload 4, 2) := by decide +kernel
theorem dX1_restingBurials_11 : decode cX1_restingBurials 11 = .ok (.iload_n 3, 1) := by decide +kernel
theorem dX1_restingBurials_12 : decode cX1_restingBurials 12 = .ok (.iconst 3, 1) := by decide +kernel
theorem dX1_restingBurials_13 : decode cX1_restingBurials 13 = .ok (.iadd, 1) := by decide +kernel
theorem dX1_restingBurials_14 : decode cX1_restingBurials 14 = .ok (.if_icmp .ge 25, 3) := by decide +kernel
theorem dX1_restingBurials_17 : decode cX1_restingBurials 17 = .ok (.aload_n 0, 1) := by decide +kernel
theorem dX1_restingBurials_18 : decode cX1_restingBurials 18 = .ok (.iload 4, 2) := by decide +kernel
theorem dX1_restingBurials_20 : decode cX1_restingBurials 20 = .ok (.aload_n 0, 1) := by decide +kernel
theorem dX1_restingBurials_21 : decode cX1_restingBurials 21 = .ok (.getfield 9, 3) := by decide +kernel
theorem dX1_restingBurials_24 : decode cX1_restingBurials 24 = .ok (.invokevirtual 100, 3) := by decide +kernel
theorem dX1_restingBurials_27 : decode cX1_restingBurials 27 = .ok (.ifCond .eq 6, 3) := by decide +kernel
theorem dX1_restingBurials_30 : decode cX1_restingBurials 30 = .ok (.iinc 2 1, 3) := by decide +kernel
theorem dX1_restingBurials_33 : decode cX1_restingBurials 33 = .ok (.iinc 4 1, 3) := by decide +kernel
theorem dX1_restingBurials_36 : decode cX1_restingBurials 36 = .ok (.goto (-27), 3) := by decide +kernel
theorem dX1_restingBurials_39 : decode cX1_restingBurials 39 = .ok (.iload_n 2, 1) := by decide +kernel
theorem dX1_restingBurials_40 : decode cX1_restingBurials 40 = .ok (.ireturn, 1) := by decide +kernel
theorem dX1_yearOfRest_0 : decode cX1_yearOfRest 0 = .ok (.aload_n 0, 1) := by decide +kernel
theorem dX1_yearOfRest_1 : decode cX1_yearOfRest 1 = .ok (.getfield 9, 3) := by decide +kernel
theorem dX1_yearOfRest_4 : decode cX1_yearOfRest 4 = .ok (.istore_n 2, 1) := by decide +kernel
theorem dX1_yearOfRest_5 : decode cX1_yearOfRest 5 = .ok (.iload_n 1, 1) := by decide +kernel
theorem dX1_yearOfRest_6 : decode cX1_yearOfRest 6 = .ok (.iconst 3, 1) := by decide +kernel
theorem dX1_yearOfRest_7 : decode cX1_yearOfRest 7 = .ok (.imul, 1) := by decide +kernel
theorem dX1_yearOfRest_8 : decode cX1_yearOfRest 8 = .ok (.istore_n 3, 1) := by decide +kernel
theorem dX1_yearOfRest_9 : decode cX1_yearOfRest 9 = .ok (.iload_n 3, 1) := by decide +kernel
theorem dX1_yearOfRest_10 : decode cX1_yearOfRest 10 = .ok (.istore 4, 2) := by decide +kernel
theorem dX1_yearOfRest_12 : decode cX1_yearOfRest 12 = .ok (.iload 4, 2) := by decide +kernel
theorem dX1_yearOfRest_14 : decode cX1_yearOfRest 14 = .ok (.iload_n 3, 1) := by decide +kernel
theorem dX1_yearOfRest_15 : decode cX1_yearOfRest 15 = .ok (.iconst 3, 1) := by decide +kernel
theorem dX1_yearOfRest_16 : decode cX1_yearOfRest 16 = .ok (.iadd, 1) := by decide +kernel
theorem dX1_yearOfRest_17 : decode cX1_yearOfRest 17 = .ok (.if_icmp .ge 31, 3) := by decide +kernel
theorem dX1_yearOfRest_20 : decode cX1_yearOfRest 20 = .ok (.aload_n 0, 1) := by decide +kernel
theorem dX1_yearOfRest_21 : decode cX1_yearOfRest 21 = .ok (.getfield 37, 3) := by decide +kernel
theorem dX1_yearOfRest_24 : decode cX1_yearOfRest 24 = .ok (.iload 4, 2) := by decide +kernel
theorem dX1_yearOfRest_26 : decode cX1_yearOfRest 26 = .ok (.iaload, 1) := by decide +kernel
theorem dX1_yearOfRest_27 : decode cX1_yearOfRest 27 = .ok (.iconst (-1), 1) := by decide +kernel
theorem dX1_yearOfRest_28 : decode cX1_yearOfRest 28 = .ok (.if_icmp .eq 14, 3) := by decide +kernel
theorem dX1_yearOfRest_31 : decode cX1_yearOfRest 31 = .ok (.iload_n 2, 1) := by decide +kernel
theorem dX1_yearOfRest_32 : decode cX1_yearOfRest 32 = .ok (.aload_n 0, 1) := by decide +kernel
theorem dX1_yearOfRest_33 : decode cX1_yearOfRest 33 = .ok (.iload 4, 2) := by decide +kernel
theorem dX1_yearOfRest_35 : decode cX1_yearOfRest 35 = .ok (.invokevirtual 97, 3) := by decide +kernel
theorem dX1_yearOfRest_38 : decode cX1_yearOfRest 38 = .ok (.invokestatic 103, 3) := by decide +kernel
theorem dX1_yearOfRest_41 : decode cX1_yearOfRest 41 = .ok (.istore_n 2, 1) := by decide +kernel
theorem dX1_yearOfRest_42 : decode cX1_yearOfRest 42 = .ok (.iinc 4 1, 3) := by decide +kernel
theorem dX1_yearOfRest_45 : decode cX1_yearOfRest 45 = .ok (.goto (-33), 3) := by decide +kernel
theorem dX1_yearOfRest_48 : decode cX1_yearOfRest 48 = .ok (.iload_n 2, 1) := by decide +kernel
theorem dX1_yearOfRest_49 : decode cX1_yearOfRest 49 = .ok (.ireturn, 1) := by decide +kernel
theorem dX1_isReservedIn_0 : decode cX1_isReservedIn 0 = .ok (.aload_n 0, 1) := by decide +kernel
theorem dX1_isReservedIn_1 : decode cX1_isReservedIn 1 = .ok (.getfield 31, 3) := by decide +kernel
theorem dX1_isReservedIn_4 : decode cX1_isReservedIn 4 = .ok (.iload_n 1, 1) := by decide +kernel
theorem dX1_isReservedIn_5 : decode cX1_isReservedIn 5 = .ok (.iaload, 1) := by decide +kernel
theorem dX1_isReservedIn_6 : decode cX1_isReservedIn 6 = .ok (.iconst (-1), 1) := by decide +kernel
theorem dX1_isReservedIn_7 : decode cX1_isReservedIn 7 = .ok (.if_icmp .eq 17, 3) := by decide +kernel
theorem dX1_isReservedIn_10 : decode cX1_isReservedIn 10 = .ok (.iload_n 2, 1) := by decide +kernel
theorem dX1_isReservedIn_11 : decode cX1_isReservedIn 11 = .ok (.aload_n 0, 1) := by decide +kernel
theorem dX1_isReservedIn_12 : decode cX1_isReservedIn 12 = .ok (.getfield 34, 3) := by decide +kernel
theorem dX1_isReservedIn_15 : decode cX1_isReservedIn 15 = .ok (.iload_n 1, 1) := by decide +kernel
theorem dX1_isReservedIn_16 : decode cX1_isReservedIn 16 = .ok (.iaload, 1) := by decide +kernel
theorem dX1_isReservedIn_17 : decode cX1_isReservedIn 17 = .ok (.if_icmp .gt 7, 3) := by decide +kernel
theorem dX1_isReservedIn_20 : decode cX1_isReservedIn 20 = .ok (.iconst 1, 1) := by decide +kernel
theorem dX1_isReservedIn_21 : decode cX1_isReservedIn 21 = .ok (.goto 4, 3) := by decide +kernel
theorem dX1_isReservedIn_24 : decode cX1_isReservedIn 24 = .ok (.iconst 0, 1) := by decide +kernel
theorem dX1_isReservedIn_25 : decode cX1_isReservedIn 25 = .ok (.ireturn, 1) := by decide +kernel
theorem dX1_hasReservation_0 : decode cX1_hasReservation 0 = .ok (.aload_n 0, 1) := by decide +kernel
theorem dX1_hasReservation_1 : decode cX1_hasReservation 1 = .ok (.getfield 31, 3) := by decide +kernel
theorem dX1_hasReservation_4 : decode cX1_hasReservation 4 = .ok (.iload_n 2, 1) := by decide +kernel
theorem dX1_hasReservation_5 : decode cX1_hasReservation 5 = .ok (.iaload, 1) := by decide +kernel
theorem dX1_hasReservation_6 : decode cX1_hasReservation 6 = .ok (.iload_n 1, 1) := by decide +kernel
theorem dX1_hasReservation_7 : decode cX1_hasReservation 7 = .ok (.if_icmp .ne 19, 3) := by decide +kernel
theorem dX1_hasReservation_10 : decode cX1_hasReservation 10 = .ok (.aload_n 0, 1) := by decide +kernel
theorem dX1_hasReservation_11 : decode cX1_hasReservation 11 = .ok (.iload_n 2, 1) := by decide +kernel
theorem dX1_hasReservation_12 : decode cX1_hasReservation 12 = .ok (.aload_n 0, 1) := by decide +kernel
theorem dX1_hasReservation_13 : decode cX1_hasReservation 13 = .ok (.getfield 9, 3) := by decide +kernel
theorem dX1_hasReservation_16 : decode cX1_hasReservation 16 = .ok (.invokevirtual 108, 3) := by decide +kernel
theorem dX1_hasReservation_19 : decode cX1_hasReservation 19 = .ok (.ifCond .eq 7, 3) := by decide +kernel
theorem dX1_hasReservation_22 : decode cX1_hasReservation 22 = .ok (.iconst 1, 1) := by decide +kernel
theorem dX1_hasReservation_23 : decode cX1_hasReservation 23 = .ok (.goto 4, 3) := by decide +kernel
theorem dX1_hasReservation_26 : decode cX1_hasReservation 26 = .ok (.iconst 0, 1) := by decide +kernel
theorem dX1_hasReservation_27 : decode cX1_hasReservation 27 = .ok (.ireturn, 1) := by decide +kernel
theorem dX1_holder_0 : decode cX1_holder 0 = .ok (.aload_n 0, 1) := by decide +kernel
theorem dX1_holder_1 : decode cX1_holder 1 = .ok (.getfield 28, 3) := by decide +kernel
theorem dX1_holder_4 : decode cX1_holder 4 = .ok (.iload_n 1, 1) := by decide +kernel
theorem dX1_holder_5 : decode cX1_holder 5 = .ok (.iaload, 1) := by decide +kernel
theorem dX1_holder_6 : decode cX1_holder 6 = .ok (.iconst (-1), 1) := by decide +kernel
theorem dX1_holder_7 : decode cX1_holder 7 = .ok (.if_icmp .eq 10, 3) := by decide +kernel
theorem dX1_holder_10 : decode cX1_holder 10 = .ok (.aload_n 0, 1) := by decide +kernel
theorem dX1_holder_11 : decode cX1_holder 11 = .ok (.getfield 28, 3) := by decide +kernel
theorem dX1_holder_14 : decode cX1_holder 14 = .ok (.iload_n 1, 1) := by decide +kernel
theorem dX1_holder_15 : decode cX1_holder 15 = .ok (.iaload, 1) := by decide +kernel
theorem dX1_holder_16 : decode cX1_holder 16 = .ok (.ireturn, 1) := by decide +kernel
theorem dX1_holder_17 : decode cX1_holder 17 = .ok (.aload_n 0, 1) := by decide +kernel
theorem dX1_holder_18 : decode cX1_holder 18 = .ok (.iload_n 1, 1) := by decide +kernel
theorem dX1_holder_19 : decode cX1_holder 19 = .ok (.iload_n 2, 1) := by decide +kernel
theorem dX1_holder_20 : decode cX1_holder 20 = .ok (.invokevirtual 108, 3) := by decide +kernel
theorem dX1_holder_23 : decode cX1_holder 23 = .ok (.ifCond .eq 10, 3) := by decide +kernel
theorem dX1_holder_26 : decode cX1_holder 26 = .ok (.aload_n 0, 1) := by decide +kernel
theorem dX1_holder_27 : decode cX1_holder 27 = .ok (.getfield 31, 3) := by decide +kernel
theorem dX1_holder_30 : decode cX1_holder 30 = .ok (.iload_n 1, 1) := by decide +kernel
theorem dX1_holder_31 : decode cX1_holder 31 = .ok (.iaload, 1) := by decide +kernel
theorem dX1_holder_32 : decode cX1_holder 32 = .ok (.ireturn, 1) := by decide +kernel
theorem dX1_holder_33 : decode cX1_holder 33 = .ok (.iload_n 1, 1) := by decide +kernel
theorem dX1_holder_34 : decode cX1_holder 34 = .ok (.iconst 3, 1) := by decide +kernel
theorem dX1_holder_35 : decode cX1_holder 35 = .ok (.imul, 1) := by decide +kernel
theorem dX1_holder_36 : decode cX1_holder 36 = .ok (.istore_n 3, 1) := by decide +kernel
theorem dX1_holder_37 : decode cX1_holder 37 = .ok (.iload_n 3, 1) := by decide +kernel
theorem dX1_holder_38 : decode cX1_holder 38 = .ok (.istore 4, 2) := by decide +kernel
theorem dX1_holder_40 : decode cX1_holder 40 = .ok (.iload 4, 2) := by decide +kernel
theorem dX1_holder_42 : decode cX1_holder 42 = .ok (.iload_n 3, 1) := by decide +kernel
theorem dX1_holder_43 : decode cX1_holder 43 = .ok (.iconst 3, 1) := by decide +kernel
theorem dX1_holder_44 : decode cX1_holder 44 = .ok (.iadd, 1) := by decide +kernel
theorem dX1_holder_45 : decode cX1_holder 45 = .ok (.if_icmp .ge 27, 3) := by decide +kernel
theorem dX1_holder_48 : decode cX1_holder 48 = .ok (.aload_n 0, 1) := by decide +kernel
theorem dX1_holder_49 : decode cX1_holder 49 = .ok (.iload 4, 2) := by decide +kernel
theorem dX1_holder_51 : decode cX1_holder 51 = .ok (.iload_n 2, 1) := by decide +kernel
theorem dX1_holder_52 : decode cX1_holder 52 = .ok (.invokevirtual 100, 3) := by decide +kernel
theorem dX1_holder_55 : decode cX1_holder 55 = .ok (.ifCond .eq 11, 3) := by decide +kernel
theorem dX1_holder_58 : decode cX1_holder 58 = .ok (.aload_n 0, 1) := by decide +kernel
theorem dX1_holder_59 : decode cX1_holder 59 = .ok (.getfield 37, 3) := by decide +kernel
theorem dX1_holder_62 : decode cX1_holder 62 = .ok (.iload 4, 2) := by decide +kernel
theorem dX1_holder_64 : decode cX1_holder 64 = .ok (.iaload, 1) := by decide +kernel
theorem dX1_holder_65 : decode cX1_holder 65 = .ok (.ireturn, 1) := by decide +kernel
theorem dX1_holder_66 : decode cX1_holder 66 = .ok (.iinc 4 1, 3) := by decide +kernel
theorem dX1_holder_69 : decode cX1_holder 69 = .ok (.goto (-29), 3) := by decide +kernel
theorem dX1_holder_72 : decode cX1_holder 72 = .ok (.iconst (-1), 1) := by decide +kernel
theorem dX1_holder_73 : decode cX1_holder 73 = .ok (.ireturn, 1) := by decide +kernel
theorem dX1_isOther_0 : decode cX1_isOther 0 = .ok (.iload_n 0, 1) := by decide +kernel
theorem dX1_isOther_1 : decode cX1_isOther 1 = .ok (.iconst (-1), 1) := by decide +kernel
theorem dX1_isOther_2 : decode cX1_isOther 2 = .ok (.if_icmp .eq 12, 3) := by decide +kernel
theorem dX1_isOther_5 : decode cX1_isOther 5 = .ok (.iload_n 0, 1) := by decide +kernel
theorem dX1_isOther_6 : decode cX1_isOther 6 = .ok (.iload_n 1, 1) := by decide +kernel
theorem dX1_isOther_7 : decode cX1_isOther 7 = .ok (.if_icmp .eq 7, 3) := by decide +kernel
theorem dX1_isOther_10 : decode cX1_isOther 10 = .ok (.iconst 1, 1) := by decide +kernel
theorem dX1_isOther_11 : decode cX1_isOther 11 = .ok (.goto 4, 3) := by decide +kernel
theorem dX1_isOther_14 : decode cX1_isOther 14 = .ok (.iconst 0, 1) := by decide +kernel
theorem dX1_isOther_15 : decode cX1_isOther 15 = .ok (.ireturn, 1) := by decide +kernel
theorem dX1_greatestDepth_0 : decode cX1_greatestDepth 0 = .ok (.aload_n 0, 1) := by decide +kernel
theorem dX1_greatestDepth_1 : decode cX1_greatestDepth 1 = .ok (.getfield 28, 3) := by decide +kernel
theorem dX1_greatestDepth_4 : decode cX1_greatestDepth 4 = .ok (.iload_n 1, 1) := by decide +kernel
theorem dX1_greatestDepth_5 : decode cX1_greatestDepth 5 = .ok (.iaload, 1) := by decide +kernel
theorem dX1_greatestDepth_6 : decode cX1_greatestDepth 6 = .ok (.iconst (-1), 1) := by decide +kernel
theorem dX1_greatestDepth_7 : decode cX1_greatestDepth 7 = .ok (.if_icmp .eq 7, 3) := by decide +kernel
theorem dX1_greatestDepth_10 : decode cX1_greatestDepth 10 = .ok (.iconst 3, 1) := by decide +kernel
theorem dX1_greatestDepth_11 : decode cX1_greatestDepth 11 = .ok (.goto 13, 3) := by decide +kernel
theorem dX1_greatestDepth_14 : decode cX1_greatestDepth 14 = .ok (.getstatic 111, 3) := by decide +kernel
theorem dX1_greatestDepth_17 : decode cX1_greatestDepth 17 = .ok (.aload_n 0, 1) := by decide +kernel
theorem dX1_greatestDepth_18 : decode cX1_greatestDepth 18 = .ok (.getfield 25, 3) := by decide +kernel
theorem dX1_greatestDepth_21 : decode cX1_greatestDepth 21 = .ok (.iload_n 1, 1) := by decide +kernel
theorem dX1_greatestDepth_22 : decode cX1_greatestDepth 22 = .ok (.iaload, 1) := by decide +kernel
theorem dX1_greatestDepth_23 : decode cX1_greatestDepth 23 = .ok (.iaload, 1) := by decide +kernel
theorem dX1_greatestDepth_24 : decode cX1_greatestDepth 24 = .ok (.ireturn, 1) := by decide +kernel
theorem dX1_bitOf_0 : decode cX1_bitOf 0 = .ok (.lconst 1, 1) := by decide +kernel
theorem dX1_bitOf_1 : decode cX1_bitOf 1 = .ok (.iload_n 0, 1) := by decide +kernel
theorem dX1_bitOf_2 : decode cX1_bitOf 2 = .ok (.lshl, 1) := by decide +kernel
theorem dX1_bitOf_3 : decode cX1_bitOf 3 = .ok (.lreturn, 1) := by decide +kernel
theorem dX1_isReached_0 : decode cX1_isReached 0 = .ok (.aload_n 0, 1) := by decide +kernel
theorem dX1_isReached_1 : decode cX1_isReached 1 = .ok (.getfield 48, 3) := by decide +kernel
theorem dX1_isReached_4 : decode cX1_isReached 4 = .ok (.iload_n 1, 1) := by decide +kernel
theorem dX1_isReached_5 : decode cX1_isReached 5 = .ok (.invokestatic 114, 3) := by decide +kernel
theorem dX1_isReached_8 : decode cX1_isReached 8 = .ok (.land, 1) := by decide +kernel
theorem dX1_isReached_9 : decode cX1_isReached 9 = .ok (.lconst 0, 1) := by decide +kernel
theorem dX1_isReached_10 : decode cX1_isReached 10 = .ok (.lcmp, 1) := by decide +kernel
theorem dX1_isReached_11 : decode cX1_isReached 11 = .ok (.ifCond .eq 7, 3) := by decide +kernel
theorem dX1_isReached_14 : decode cX1_isReached 14 = .ok (.iconst 1, 1) := by decide +kernel
theorem dX1_isReached_15 : decode cX1_isReached 15 = .ok (.goto 4, 3) := by decide +kernel
theorem dX1_isReached_18 : decode cX1_isReached 18 = .ok (.iconst 0, 1) := by decide +kernel
theorem dX1_isReached_19 : decode cX1_isReached 19 = .ok (.ireturn, 1) := by decide +kernel
theorem dX1_openPlots_0 : decode cX1_openPlots 0 = .ok (.lconst 0, 1) := by decide +kernel
theorem dX1_openPlots_1 : decode cX1_openPlots 1 = .ok (.lstore_n 1, 1) := by decide +kernel
theorem dX1_openPlots_2 : decode cX1_openPlots 2 = .ok (.iconst 0, 1) := by decide +kernel
theorem dX1_openPlots_3 : decode cX1_openPlots 3 = .ok (.istore_n 3, 1) := by decide +kernel
theorem dX1_openPlots_4 : decode cX1_openPlots 4 = .ok (.iload_n 3, 1) := by decide +kernel
theorem dX1_openPlots_5 : decode cX1_openPlots 5 = .ok (.bipush 40, 2) := by decide +kernel
theorem dX1_openPlots_7 : decode cX1_openPlots 7 = .ok (.if_icmp .ge 34, 3) := by decide +kernel
theorem dX1_openPlots_10 : decode cX1_openPlots 10 = .ok (.aload_n 0, 1) := by decide +kernel
theorem dX1_openPlots_11 : decode cX1_openPlots 11 = .ok (.getfield 25, 3) := by decide +kernel
theorem dX1_openPlots_14 : decode cX1_openPlots 14 = .ok (.iload_n 3, 1) := by decide +kernel
theorem dX1_openPlots_15 : decode cX1_openPlots 15 = .ok (.iaload, 1) := by decide +kernel
theorem dX1_openPlots_16 : decode cX1_openPlots 16 = .ok (.iconst 3, 1) := by decide +kernel
theorem dX1_openPlots_17 : decode cX1_openPlots 17 = .ok (.if_icmp .eq 11, 3) := by decide +kernel

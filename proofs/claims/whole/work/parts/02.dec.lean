theorem dX0_init_0 : decode cX0_init 0 = .ok (.aload_n 0, 1) := by decide +kernel
theorem dX0_init_1 : decode cX0_init 1 = .ok (.invokespecial 3, 3) := by decide +kernel
theorem dX0_init_4 : decode cX0_init 4 = .ok (.aload_n 0, 1) := by decide +kernel
theorem dX0_init_5 : decode cX0_init 5 = .ok (.new 9, 3) := by decide +kernel
theorem dX0_init_8 : decode cX0_init 8 = .ok (.dup, 1) := by decide +kernel
theorem dX0_init_9 : decode cX0_init 9 = .ok (.invokespecial 11, 3) := by decide +kernel
theorem dX0_init_12 : decode cX0_init 12 = .ok (.putfield 12, 3) := by decide +kernel
theorem dX0_init_15 : decode cX0_init 15 = .ok (.aload_n 0, 1) := by decide +kernel
theorem dX0_init_16 : decode cX0_init 16 = .ok (.new 18, 3) := by decide +kernel
theorem dX0_init_19 : decode cX0_init 19 = .ok (.dup, 1) := by decide +kernel
theorem dX0_init_20 : decode cX0_init 20 = .ok (.invokespecial 20, 3) := by decide +kernel
theorem dX0_init_23 : decode cX0_init 23 = .ok (.putfield 21, 3) := by decide +kernel
theorem dX0_init_26 : decode cX0_init 26 = .ok (.aload_n 0, 1) := by decide +kernel
theorem dX0_init_27 : decode cX0_init 27 = .ok (.iconst 4, 1) := by decide +kernel
theorem dX0_init_28 : decode cX0_init 28 = .ok (.newarray .int, 2) := by decide +kernel
theorem dX0_init_30 : decode cX0_init 30 = .ok (.dup, 1) := by decide +kernel
theorem dX0_init_31 : decode cX0_init 31 = .ok (.iconst 0, 1) := by decide +kernel
theorem dX0_init_32 : decode cX0_init 32 = .ok (.iconst 2, 1) := by decide +kernel
theorem dX0_init_33 : decode cX0_init 33 = .ok (.iastore, 1) := by decide +kernel
theorem dX0_init_34 : decode cX0_init 34 = .ok (.dup, 1) := by decide +kernel
theorem dX0_init_35 : decode cX0_init 35 = .ok (.iconst 1, 1) := by decide +kernel
theorem dX0_init_36 : decode cX0_init 36 = .ok (.iconst 1, 1) := by decide +kernel
theorem dX0_init_37 : decode cX0_init 37 = .ok (.iastore, 1) := by decide +kernel
theorem dX0_init_38 : decode cX0_init 38 = .ok (.dup, 1) := by decide +kernel
theorem dX0_init_39 : decode cX0_init 39 = .ok (.iconst 2, 1) := by decide +kernel
theorem dX0_init_40 : decode cX0_init 40 = .ok (.iconst 0, 1) := by decide +kernel
theorem dX0_init_41 : decode cX0_init 41 = .ok (.iastore, 1) := by decide +kernel
theorem dX0_init_42 : decode cX0_init 42 = .ok (.dup, 1) := by decide +kernel
theorem dX0_init_43 : decode cX0_init 43 = .ok (.iconst 3, 1) := by decide +kernel
theorem dX0_init_44 : decode cX0_init 44 = .ok (.iconst 0, 1) := by decide +kernel
theorem dX0_init_45 : decode cX0_init 45 = .ok (.iastore, 1) := by decide +kernel
theorem dX0_init_46 : decode cX0_init 46 = .ok (.putfield 25, 3) := by decide +kernel
theorem dX0_init_49 : decode cX0_init 49 = .ok (.aload_n 0, 1) := by decide +kernel
theorem dX0_init_50 : decode cX0_init 50 = .ok (.iconst (-1), 1) := by decide +kernel
theorem dX0_init_51 : decode cX0_init 51 = .ok (.putfield 29, 3) := by decide +kernel
theorem dX0_init_54 : decode cX0_init 54 = .ok (.aload_n 0, 1) := by decide +kernel
theorem dX0_init_55 : decode cX0_init 55 = .ok (.aload_n 1, 1) := by decide +kernel
theorem dX0_init_56 : decode cX0_init 56 = .ok (.putfield 33, 3) := by decide +kernel
theorem dX0_init_59 : decode cX0_init 59 = .ok (.return_, 1) := by decide +kernel
theorem dX0_beginsAs_0 : decode cX0_beginsAs 0 = .ok (.aload_n 0, 1) := by decide +kernel
theorem dX0_beginsAs_1 : decode cX0_beginsAs 1 = .ok (.getfield 12, 3) := by decide +kernel
theorem dX0_beginsAs_4 : decode cX0_beginsAs 4 = .ok (.aload_n 1, 1) := by decide +kernel
theorem dX0_beginsAs_5 : decode cX0_beginsAs 5 = .ok (.getfield 12, 3) := by decide +kernel
theorem dX0_beginsAs_8 : decode cX0_beginsAs 8 = .ok (.invokevirtual 37, 3) := by decide +kernel
theorem dX0_beginsAs_11 : decode cX0_beginsAs 11 = .ok (.aload_n 0, 1) := by decide +kernel
theorem dX0_beginsAs_12 : decode cX0_beginsAs 12 = .ok (.getfield 21, 3) := by decide +kernel
theorem dX0_beginsAs_15 : decode cX0_beginsAs 15 = .ok (.aload_n 1, 1) := by decide +kernel
theorem dX0_beginsAs_16 : decode cX0_beginsAs 16 = .ok (.getfield 21, 3) := by decide +kernel
theorem dX0_beginsAs_19 : decode cX0_beginsAs 19 = .ok (.invokevirtual 41, 3) := by decide +kernel
theorem dX0_beginsAs_22 : decode cX0_beginsAs 22 = .ok (.aload_n 1, 1) := by decide +kernel
theorem dX0_beginsAs_23 : decode cX0_beginsAs 23 = .ok (.getfield 25, 3) := by decide +kernel
theorem dX0_beginsAs_26 : decode cX0_beginsAs 26 = .ok (.iconst 0, 1) := by decide +kernel
theorem dX0_beginsAs_27 : decode cX0_beginsAs 27 = .ok (.aload_n 0, 1) := by decide +kernel
theorem dX0_beginsAs_28 : decode cX0_beginsAs 28 = .ok (.getfield 25, 3) := by decide +kernel
theorem dX0_beginsAs_31 : decode cX0_beginsAs 31 = .ok (.iconst 0, 1) := by decide +kernel
theorem dX0_beginsAs_32 : decode cX0_beginsAs 32 = .ok (.iconst 4, 1) := by decide +kernel
theorem dX0_beginsAs_33 : decode cX0_beginsAs 33 = .ok (.invokestatic 44, 3) := by decide +kernel
theorem dX0_beginsAs_36 : decode cX0_beginsAs 36 = .ok (.aload_n 0, 1) := by decide +kernel
theorem dX0_beginsAs_37 : decode cX0_beginsAs 37 = .ok (.aload_n 1, 1) := by decide +kernel
theorem dX0_beginsAs_38 : decode cX0_beginsAs 38 = .ok (.getfield 50, 3) := by decide +kernel
theorem dX0_beginsAs_41 : decode cX0_beginsAs 41 = .ok (.putfield 50, 3) := by decide +kernel
theorem dX0_beginsAs_44 : decode cX0_beginsAs 44 = .ok (.aload_n 0, 1) := by decide +kernel
theorem dX0_beginsAs_45 : decode cX0_beginsAs 45 = .ok (.aload_n 1, 1) := by decide +kernel
theorem dX0_beginsAs_46 : decode cX0_beginsAs 46 = .ok (.getfield 53, 3) := by decide +kernel
theorem dX0_beginsAs_49 : decode cX0_beginsAs 49 = .ok (.putfield 53, 3) := by decide +kernel
theorem dX0_beginsAs_52 : decode cX0_beginsAs 52 = .ok (.aload_n 0, 1) := by decide +kernel
theorem dX0_beginsAs_53 : decode cX0_beginsAs 53 = .ok (.iconst 0, 1) := by decide +kernel
theorem dX0_beginsAs_54 : decode cX0_beginsAs 54 = .ok (.putfield 56, 3) := by decide +kernel
theorem dX0_beginsAs_57 : decode cX0_beginsAs 57 = .ok (.aload_n 0, 1) := by decide +kernel
theorem dX0_beginsAs_58 : decode cX0_beginsAs 58 = .ok (.iconst 0, 1) := by decide +kernel
theorem dX0_beginsAs_59 : decode cX0_beginsAs 59 = .ok (.putfield 59, 3) := by decide +kernel
theorem dX0_beginsAs_62 : decode cX0_beginsAs 62 = .ok (.aload_n 0, 1) := by decide +kernel
theorem dX0_beginsAs_63 : decode cX0_beginsAs 63 = .ok (.iconst (-1), 1) := by decide +kernel
theorem dX0_beginsAs_64 : decode cX0_beginsAs 64 = .ok (.putfield 29, 3) := by decide +kernel
theorem dX0_beginsAs_67 : decode cX0_beginsAs 67 = .ok (.aload_n 0, 1) := by decide +kernel
theorem dX0_beginsAs_68 : decode cX0_beginsAs 68 = .ok (.iconst 0, 1) := by decide +kernel
theorem dX0_beginsAs_69 : decode cX0_beginsAs 69 = .ok (.putfield 62, 3) := by decide +kernel
theorem dX0_beginsAs_72 : decode cX0_beginsAs 72 = .ok (.return_, 1) := by decide +kernel
theorem dX0_canTurn_0 : decode cX0_canTurn 0 = .ok (.aload_n 0, 1) := by decide +kernel
theorem dX0_canTurn_1 : decode cX0_canTurn 1 = .ok (.getfield 12, 3) := by decide +kernel
theorem dX0_canTurn_4 : decode cX0_canTurn 4 = .ok (.iload_n 1, 1) := by decide +kernel
theorem dX0_canTurn_5 : decode cX0_canTurn 5 = .ok (.iconst 5, 1) := by decide +kernel
theorem dX0_canTurn_6 : decode cX0_canTurn 6 = .ok (.invokevirtual 65, 3) := by decide +kernel
theorem dX0_canTurn_9 : decode cX0_canTurn 9 = .ok (.ifCond .ne 19, 3) := by decide +kernel
theorem dX0_canTurn_12 : decode cX0_canTurn 12 = .ok (.aload_n 0, 1) := by decide +kernel
theorem dX0_canTurn_13 : decode cX0_canTurn 13 = .ok (.getfield 21, 3) := by decide +kernel
theorem dX0_canTurn_16 : decode cX0_canTurn 16 = .ok (.iload_n 1, 1) := by decide +kernel
theorem dX0_canTurn_17 : decode cX0_canTurn 17 = .ok (.invokevirtual 69, 3) := by decide +kernel
theorem dX0_canTurn_20 : decode cX0_canTurn 20 = .ok (.iconst (-1), 1) := by decide +kernel
theorem dX0_canTurn_21 : decode cX0_canTurn 21 = .ok (.if_icmp .eq 7, 3) := by decide +kernel
theorem dX0_canTurn_24 : decode cX0_canTurn 24 = .ok (.iconst 1, 1) := by decide +kernel
theorem dX0_canTurn_25 : decode cX0_canTurn 25 = .ok (.goto 4, 3) := by decide +kernel
theorem dX0_canTurn_28 : decode cX0_canTurn 28 = .ok (.iconst 0, 1) := by decide +kernel
theorem dX0_canTurn_29 : decode cX0_canTurn 29 = .ok (.ireturn, 1) := by decide +kernel
theorem dX0_turnsOver_0 : decode cX0_turnsOver 0 = .ok (.aload_n 0, 1) := by decide +kernel
theorem dX0_turnsOver_1 : decode cX0_turnsOver 1 = .ok (.getfield 12, 3) := by decide +kernel
theorem dX0_turnsOver_4 : decode cX0_turnsOver 4 = .ok (.iload_n 1, 1) := by decide +kernel
theorem dX0_turnsOver_5 : decode cX0_turnsOver 5 = .ok (.iconst 2, 1) := by decide +kernel
theorem dX0_turnsOver_6 : decode cX0_turnsOver 6 = .ok (.aload_n 0, 1) := by decide +kernel
theorem dX0_turnsOver_7 : decode cX0_turnsOver 7 = .ok (.getfield 12, 3) := by decide +kernel
theorem dX0_turnsOver_10 : decode cX0_turnsOver 10 = .ok (.iload_n 1, 1) := by decide +kernel
theorem dX0_turnsOver_11 : decode cX0_turnsOver 11 = .ok (.iconst 2, 1) := by decide +kernel
theorem dX0_turnsOver_12 : decode cX0_turnsOver 12 = .ok (.invokevirtual 65, 3) := by decide +kernel
theorem dX0_turnsOver_15 : decode cX0_turnsOver 15 = .ok (.iconst 2, 1) := by decide +kernel
theorem dX0_turnsOver_16 : decode cX0_turnsOver 16 = .ok (.idiv, 1) := by decide +kernel
theorem dX0_turnsOver_17 : decode cX0_turnsOver 17 = .ok (.invokevirtual 73, 3) := by decide +kernel
theorem dX0_turnsOver_20 : decode cX0_turnsOver 20 = .ok (.aload_n 0, 1) := by decide +kernel
theorem dX0_turnsOver_21 : decode cX0_turnsOver 21 = .ok (.getfield 12, 3) := by decide +kernel
theorem dX0_turnsOver_24 : decode cX0_turnsOver 24 = .ok (.iload_n 1, 1) := by decide +kernel
theorem dX0_turnsOver_25 : decode cX0_turnsOver 25 = .ok (.iconst 5, 1) := by decide +kernel
theorem dX0_turnsOver_26 : decode cX0_turnsOver 26 = .ok (.iconst 1, 1) := by decide +kernel
theorem dX0_turnsOver_27 : decode cX0_turnsOver 27 = .ok (.invokevirtual 73, 3) := by decide +kernel
theorem dX0_turnsOver_30 : decode cX0_turnsOver 30 = .ok (.return_, 1) := by decide +kernel
theorem dX0_laysDown_0 : decode cX0_laysDown 0 = .ok (.iconst 0, 1) := by decide +kernel
theorem dX0_laysDown_1 : decode cX0_laysDown 1 = .ok (.istore_n 2, 1) := by decide +kernel
theorem dX0_laysDown_2 : decode cX0_laysDown 2 = .ok (.aload_n 0, 1) := by decide +kernel
theorem dX0_laysDown_3 : decode cX0_laysDown 3 = .ok (.getfield 25, 3) := by decide +kernel
theorem dX0_laysDown_6 : decode cX0_laysDown 6 = .ok (.iconst 3, 1) := by decide +kernel
theorem dX0_laysDown_7 : decode cX0_laysDown 7 = .ok (.iaload, 1) := by decide +kernel
theorem dX0_laysDown_8 : decode cX0_laysDown 8 = .ok (.iconst 1, 1) := by decide +kernel
theorem dX0_laysDown_9 : decode cX0_laysDown 9 = .ok (.if_icmp .ne 14, 3) := by decide +kernel
theorem dX0_laysDown_12 : decode cX0_laysDown 12 = .ok (.aload_n 0, 1) := by decide +kernel
theorem dX0_laysDown_13 : decode cX0_laysDown 13 = .ok (.getfield 21, 3) := by decide +kernel
theorem dX0_laysDown_16 : decode cX0_laysDown 16 = .ok (.getfield 77, 3) := by decide +kernel
theorem dX0_laysDown_19 : decode cX0_laysDown 19 = .ok (.istore_n 2, 1) := by decide +kernel
theorem dX0_laysDown_20 : decode cX0_laysDown 20 = .ok (.goto 52, 3) := by decide +kernel
theorem dX0_laysDown_23 : decode cX0_laysDown 23 = .ok (.aload_n 0, 1) := by decide +kernel
theorem dX0_laysDown_24 : decode cX0_laysDown 24 = .ok (.getfield 25, 3) := by decide +kernel
theorem dX0_laysDown_27 : decode cX0_laysDown 27 = .ok (.iconst 3, 1) := by decide +kernel
theorem dX0_laysDown_28 : decode cX0_laysDown 28 = .ok (.iaload, 1) := by decide +kernel
theorem dX0_laysDown_29 : decode cX0_laysDown 29 = .ok (.ifCond .eq 43, 3) := by decide +kernel
theorem dX0_laysDown_32 : decode cX0_laysDown 32 = .ok (.iconst 0, 1) := by decide +kernel
theorem dX0_laysDown_33 : decode cX0_laysDown 33 = .ok (.istore_n 3, 1) := by decide +kernel
theorem dX0_laysDown_34 : decode cX0_laysDown 34 = .ok (.iload_n 3, 1) := by decide +kernel
theorem dX0_laysDown_35 : decode cX0_laysDown 35 = .ok (.bipush 8, 2) := by decide +kernel
theorem dX0_laysDown_37 : decode cX0_laysDown 37 = .ok (.if_icmp .ge 35, 3) := by decide +kernel
theorem dX0_laysDown_40 : decode cX0_laysDown 40 = .ok (.aload_n 0, 1) := by decide +kernel
theorem dX0_laysDown_41 : decode cX0_laysDown 41 = .ok (.getfield 21, 3) := by decide +kernel
theorem dX0_laysDown_44 : decode cX0_laysDown 44 = .ok (.iload_n 2, 1) := by decide +kernel
theorem dX0_laysDown_45 : decode cX0_laysDown 45 = .ok (.invokevirtual 80, 3) := by decide +kernel
theorem dX0_laysDown_48 : decode cX0_laysDown 48 = .ok (.ifCond .eq 24, 3) := by decide +kernel
theorem dX0_laysDown_51 : decode cX0_laysDown 51 = .ok (.aload_n 0, 1) := by decide +kernel
theorem dX0_laysDown_52 : decode cX0_laysDown 52 = .ok (.getfield 21, 3) := by decide +kernel
theorem dX0_laysDown_55 : decode cX0_laysDown 55 = .ok (.iload_n 2, 1) := by decide +kernel
theorem dX0_laysDown_56 : decode cX0_laysDown 56 = .ok (.invokevirtual 84, 3) := by decide +kernel
theorem dX0_laysDown_59 : decode cX0_laysDown 59 = .ok (.iload_n 1, 1) := by decide +kernel
theorem dX0_laysDown_60 : decode cX0_laysDown 60 = .ok (.if_icmp .ge 12, 3) := by decide +kernel
theorem dX0_laysDown_63 : decode cX0_laysDown 63 = .ok (.iinc 2 1, 3) := by decide +kernel
theorem dX0_laysDown_66 : decode cX0_laysDown 66 = .ok (.iinc 3 1, 3) := by decide +kernel
theorem dX0_laysDown_69 : decode cX0_laysDown 69 = .ok (.goto (-35), 3) := by decide +kernel
theorem dX0_laysDown_72 : decode cX0_laysDown 72 = .ok (.aload_n 0, 1) := by decide +kernel
theorem dX0_laysDown_73 : decode cX0_laysDown 73 = .ok (.getfield 21, 3) := by decide +kernel
theorem dX0_laysDown_76 : decode cX0_laysDown 76 = .ok (.iload_n 2, 1) := by decide +kernel
theorem dX0_laysDown_77 : decode cX0_laysDown 77 = .ok (.iload_n 1, 1) := by decide +kernel
theorem dX0_laysDown_78 : decode cX0_laysDown 78 = .ok (.invokevirtual 87, 3) := by decide +kernel
theorem dX0_laysDown_81 : decode cX0_laysDown 81 = .ok (.return_, 1) := by decide +kernel
theorem dX0_placeToTake_0 : decode cX0_placeToTake 0 = .ok (.iload_n 1, 1) := by decide +kernel
theorem dX0_placeToTake_1 : decode cX0_placeToTake 1 = .ok (.ifCond .eq 8, 3) := by decide +kernel
theorem dX0_placeToTake_4 : decode cX0_placeToTake 4 = .ok (.iload_n 1, 1) := by decide +kernel
theorem dX0_placeToTake_5 : decode cX0_placeToTake 5 = .ok (.iconst 1, 1) := by decide +kernel
theorem dX0_placeToTake_6 : decode cX0_placeToTake 6 = .ok (.if_icmp .ne 31, 3) := by decide +kernel
theorem dX0_placeToTake_9 : decode cX0_placeToTake 9 = .ok (.iload_n 1, 1) := by decide +kernel
theorem dX0_placeToTake_10 : decode cX0_placeToTake 10 = .ok (.ifCond .ne 17, 3) := by decide +kernel
theorem dX0_placeToTake_13 : decode cX0_placeToTake 13 = .ok (.aload_n 0, 1) := by decide +kernel
theorem dX0_placeToTake_14 : decode cX0_placeToTake 14 = .ok (.getfield 21, 3) := by decide +kernel
theorem dX0_placeToTake_17 : decode cX0_placeToTake 17 = .ok (.getfield 77, 3) := by decide +kernel
theorem dX0_placeToTake_20 : decode cX0_placeToTake 20 = .ok (.ifCond .le 7, 3) := by decide +kernel
theorem dX0_placeToTake_23 : decode cX0_placeToTake 23 = .ok (.iconst 0, 1) := by decide +kernel
theorem dX0_placeToTake_24 : decode cX0_placeToTake 24 = .ok (.goto 12, 3) := by decide +kernel
theorem dX0_placeToTake_27 : decode cX0_placeToTake 27 = .ok (.aload_n 0, 1) := by decide +kernel
theorem dX0_placeToTake_28 : decode cX0_placeToTake 28 = .ok (.getfield 21, 3) := by decide +kernel
theorem dX0_placeToTake_31 : decode cX0_placeToTake 31 = .ok (.getfield 77, 3) := by decide +kernel
theorem dX0_placeToTake_34 : decode cX0_placeToTake 34 = .ok (.iconst 1, 1) := by decide +kernel
theorem dX0_placeToTake_35 : decode cX0_placeToTake 35 = .ok (.isub, 1) := by decide +kernel
theorem dX0_placeToTake_36 : decode cX0_placeToTake 36 = .ok (.ireturn, 1) := by decide +kernel
theorem dX0_placeToTake_37 : decode cX0_placeToTake 37 = .ok (.iconst (-1), 1) := by decide +kernel
theorem dX0_placeToTake_38 : decode cX0_placeToTake 38 = .ok (.istore_n 2, 1) := by decide +kernel
theorem dX0_placeToTake_39 : decode cX0_placeToTake 39 = .ok (.iconst 0, 1) := by decide +kernel
theorem dX0_placeToTake_40 : decode cX0_placeToTake 40 = .ok (.istore_n 3, 1) := by decide +kernel
theorem dX0_placeToTake_41 : decode cX0_placeToTake 41 = .ok (.iconst 0, 1) := by decide +kernel
theorem dX0_placeToTake_42 : decode cX0_placeToTake 42 = .ok (.istore 4, 2) := by decide +kernel
theorem dX0_placeToTake_44 : decode cX0_placeToTake 44 = .ok (.iload 4, 2) := by decide +kernel
theorem dX0_placeToTake_46 : decode cX0_placeToTake 46 = .ok (.aload_n 0, 1) := by decide +kernel
theorem dX0_placeToTake_47 : decode cX0_placeToTake 47 = .ok (.getfield 21, 3) := by decide +kernel
theorem dX0_placeToTake_50 : decode cX0_placeToTake 50 = .ok (.getfield 77, 3) := by decide +kernel
theorem dX0_placeToTake_53 : decode cX0_placeToTake 53 = .ok (.if_icmp .ge 68, 3) := by decide +kernel
theorem dX0_placeToTake_56 : decode cX0_placeToTake 56 = .ok (.aload_n 0, 1) := by decide +kernel
theorem dX0_placeToTake_57 : decode cX0_placeToTake 57 = .ok (.getfield 21, 3) := by decide +kernel
theorem dX0_placeToTake_60 : decode cX0_placeToTake 60 = .ok (.iload 4, 2) := by decide +kernel
theorem dX0_placeToTake_62 : decode cX0_placeToTake 62 = .ok (.invokevirtual 84, 3) := by decide +kernel
theorem dX0_placeToTake_65 : decode cX0_placeToTake 65 = .ok (.istore 5, 2) := by decide +kernel
theorem dX0_placeToTake_67 : decode cX0_placeToTake 67 = .ok (.iload_n 1, 1) := by decide +kernel
theorem dX0_placeToTake_68 : decode cX0_placeToTake 68 = .ok (.iconst 2, 1) := by decide +kernel
theorem dX0_placeToTake_69 : decode cX0_placeToTake 69 = .ok (.if_icmp .ne 17, 3) := by decide +kernel
theorem dX0_placeToTake_72 : decode cX0_placeToTake 72 = .ok (.aload_n 0, 1) := by decide +kernel
theorem dX0_placeToTake_73 : decode cX0_placeToTake 73 = .ok (.getfield 12, 3) := by decide +kernel
theorem dX0_placeToTake_76 : decode cX0_placeToTake 76 = .ok (.iload 5, 2) := by decide +kernel
theorem dX0_placeToTake_78 : decode cX0_placeToTake 78 = .ok (.iconst 2, 1) := by decide +kernel
theorem dX0_placeToTake_79 : decode cX0_placeToTake 79 = .ok (.invokevirtual 65, 3) := by decide +kernel
theorem dX0_placeToTake_82 : decode cX0_placeToTake 82 = .ok (.ineg, 1) := by decide +kernel
theorem dX0_placeToTake_83 : decode cX0_placeToTake 83 = .ok (.goto 13, 3) := by decide +kernel
theorem dX0_placeToTake_86 : decode cX0_placeToTake 86 = .ok (.aload_n 0, 1) := by decide +kernel
theorem dX0_placeToTake_87 : decode cX0_placeToTake 87 = .ok (.getfield 12, 3) := by decide +kernel
theorem dX0_placeToTake_90 : decode cX0_placeToTake 90 = .ok (.iload 5, 2) := by decide +kernel
theorem dX0_placeToTake_92 : decode cX0_placeToTake 92 = .ok (.iconst 4, 1) := by decide +kernel
theorem dX0_placeToTake_93 : decode cX0_placeToTake 93 = .ok (.invokevirtual 65, 3) := by decide +kernel
theorem dX0_placeToTake_96 : decode cX0_placeToTake 96 = .ok (.istore 6, 2) := by decide +kernel
theorem dX0_placeToTake_98 : decode cX0_placeToTake 98 = .ok (.iload_n 2, 1) := by decide +kernel
theorem dX0_placeToTake_99 : decode cX0_placeToTake 99 = .ok (.iconst (-1), 1) := by decide +kernel
theorem dX0_placeToTake_100 : decode cX0_placeToTake 100 = .ok (.if_icmp .eq 9, 3) := by decide +kernel
theorem dX0_placeToTake_103 : decode cX0_placeToTake 103 = .ok (.iload 6, 2) := by decide +kernel
theorem dX0_placeToTake_105 : decode cX0_placeToTake 105 = .ok (.iload_n 3, 1) := by decide +kernel
theorem dX0_placeToTake_106 : decode cX0_placeToTake 106 = .ok (.if_icmp .le 9, 3) := by decide +kernel
theorem dX0_placeToTake_109 : decode cX0_placeToTake 109 = .ok (.iload 4, 2) := by decide +kernel
theorem dX0_placeToTake_111 : decode cX0_placeToTake 111 = .ok (.istore_n 2, 1) := by decide +kernel
theorem dX0_placeToTake_112 : decode cX0_placeToTake 112 = .ok (.iload 6, 2) := by decide +kernel
theorem dX0_placeToTake_114 : decode cX0_placeToTake 114 = .ok (.istore_n 3, 1) := by decide +kernel
theorem dX0_placeToTake_115 : decode cX0_placeToTake 115 = .ok (.iinc 4 1, 3) := by decide +kernel
theorem dX0_placeToTake_118 : decode cX0_placeToTake 118 = .ok (.goto (-74), 3) := by decide +kernel
theorem dX0_placeToTake_121 : decode cX0_placeToTake 121 = .ok (.iload_n 2, 1) := by decide +kernel
theorem dX0_placeToTake_122 : decode cX0_placeToTake 122 = .ok (.ireturn, 1) := by decide +kernel
theorem dX0_sortsPile_0 : decode cX0_sortsPile 0 = .ok (.aload_n 0, 1) := by decide +kernel
theorem dX0_sortsPile_1 : decode cX0_sortsPile 1 = .ok (.getfield 21, 3) := by decide +kernel
theorem dX0_sortsPile_4 : decode cX0_sortsPile 4 = .ok (.getfield 77, 3) := by decide +kernel
theorem dX0_sortsPile_7 : decode cX0_sortsPile 7 = .ok (.istore_n 2, 1) := by decide +kernel
theorem dX0_sortsPile_8 : decode cX0_sortsPile 8 = .ok (.iconst 1, 1) := by decide +kernel
theorem dX0_sortsPile_9 : decode cX0_sortsPile 9 = .ok (.istore_n 3, 1) := by decide +kernel
theorem dX0_sortsPile_10 : decode cX0_sortsPile 10 = .ok (.iload_n 3, 1) := by decide +kernel
theorem dX0_sortsPile_11 : decode cX0_sortsPile 11 = .ok (.iload_n 2, 1) := by decide +kernel
theorem dX0_sortsPile_12 : decode cX0_sortsPile 12 = .ok (.if_icmp .ge 83, 3) := by decide +kernel
theorem dX0_sortsPile_15 : decode cX0_sortsPile 15 = .ok (.aload_n 0, 1) := by decide +kernel
theorem dX0_sortsPile_16 : decode cX0_sortsPile 16 = .ok (.getfield 21, 3) := by decide +kernel
theorem dX0_sortsPile_19 : decode cX0_sortsPile 19 = .ok (.iload_n 3, 1) := by decide +kernel
theorem dX0_sortsPile_20 : decode cX0_sortsPile 20 = .ok (.invokevirtual 91, 3) := by decide +kernel
theorem dX0_sortsPile_23 : decode cX0_sortsPile 23 = .ok (.istore 4, 2) := by decide +kernel
theorem dX0_sortsPile_25 : decode cX0_sortsPile 25 = .ok (.iload_n 3, 1) := by decide +kernel
theorem dX0_sortsPile_26 : decode cX0_sortsPile 26 = .ok (.istore 5, 2) := by decide +kernel
theorem dX0_sortsPile_28 : decode cX0_sortsPile 28 = .ok (.iconst 0, 1) := by decide +kernel
theorem dX0_sortsPile_29 : decode cX0_sortsPile 29 = .ok (.istore 6, 2) := by decide +kernel
theorem dX0_sortsPile_31 : decode cX0_sortsPile 31 = .ok (.iload 6, 2) := by decide +kernel
theorem dX0_sortsPile_33 : decode cX0_sortsPile 33 = .ok (.bipush 8, 2) := by decide +kernel
theorem dX0_sortsPile_35 : decode cX0_sortsPile 35 = .ok (.if_icmp .ge 43, 3) := by decide +kernel
theorem dX0_sortsPile_38 : decode cX0_sortsPile 38 = .ok (.iload 5, 2) := by decide +kernel
theorem dX0_sortsPile_40 : decode cX0_sortsPile 40 = .ok (.ifCond .le 38, 3) := by decide +kernel
theorem dX0_sortsPile_43 : decode cX0_sortsPile 43 = .ok (.aload_n 0, 1) := by decide +kernel
theorem dX0_sortsPile_44 : decode cX0_sortsPile 44 = .ok (.aload_n 0, 1) := by decide +kernel
theorem dX0_sortsPile_45 : decode cX0_sortsPile 45 = .ok (.getfield 21, 3) := by decide +kernel
theorem dX0_sortsPile_48 : decode cX0_sortsPile 48 = .ok (.iload 5, 2) := by decide +kernel
theorem dX0_sortsPile_50 : decode cX0_sortsPile 50 = .ok (.iconst 1, 1) := by decide +kernel
theorem dX0_sortsPile_51 : decode cX0_sortsPile 51 = .ok (.isub, 1) := by decide +kernel
theorem dX0_sortsPile_52 : decode cX0_sortsPile 52 = .ok (.invokevirtual 84, 3) := by decide +kernel
theorem dX0_sortsPile_55 : decode cX0_sortsPile 55 = .ok (.iload_n 1, 1) := by decide +kernel
theorem dX0_sortsPile_56 : decode cX0_sortsPile 56 = .ok (.invokevirtual 94, 3) := by decide +kernel
theorem dX0_sortsPile_59 : decode cX0_sortsPile 59 = .ok (.aload_n 0, 1) := by decide +kernel
theorem dX0_sortsPile_60 : decode cX0_sortsPile 60 = .ok (.iload 4, 2) := by decide +kernel
theorem dX0_sortsPile_62 : decode cX0_sortsPile 62 = .ok (.iload_n 1, 1) := by decide +kernel
theorem dX0_sortsPile_63 : decode cX0_sortsPile 63 = .ok (.invokevirtual 94, 3) := by decide +kernel
theorem dX0_sortsPile_66 : decode cX0_sortsPile 66 = .ok (.if_icmp .le 12, 3) := by decide +kernel
theorem dX0_sortsPile_69 : decode cX0_sortsPile 69 = .ok (.iinc 5 (-1), 3) := by decide +kernel
theorem dX0_sortsPile_72 : decode cX0_sortsPile 72 = .ok (.iinc 6 1, 3) := by decide +kernel
theorem dX0_sortsPile_75 : decode cX0_sortsPile 75 = .ok (.goto (-44), 3) := by decide +kernel
theorem dX0_sortsPile_78 : decode cX0_sortsPile 78 = .ok (.aload_n 0, 1) := by decide +kernel
theorem dX0_sortsPile_79 : decode cX0_sortsPile 79 = .ok (.getfield 21, 3) := by decide +kernel
theorem dX0_sortsPile_82 : decode cX0_sortsPile 82 = .ok (.iload 5, 2) := by decide +kernel
theorem dX0_sortsPile_84 : decode cX0_sortsPile 84 = .ok (.iload 4, 2) := by decide +kernel
theorem dX0_sortsPile_86 : decode cX0_sortsPile 86 = .ok (.invokevirtual 87, 3) := by decide +kernel
theorem dX0_sortsPile_89 : decode cX0_sortsPile 89 = .ok (.iinc 3 1, 3) := by decide +kernel
theorem dX0_sortsPile_92 : decode cX0_sortsPile 92 = .ok (.goto (-82), 3) := by decide +kernel
theorem dX0_sortsPile_95 : decode cX0_sortsPile 95 = .ok (.return_, 1) := by decide +kernel
theorem dX0_markOf_0 : decode cX0_markOf 0 = .ok (.iload_n 2, 1) := by decide +kernel
theorem dX0_markOf_1 : decode cX0_markOf 1 = .ok (.iconst 2, 1) := by decide +kernel
theorem dX0_markOf_2 : decode cX0_markOf 2 = .ok (.if_icmp .ne 5, 3) := by decide +kernel
theorem dX0_markOf_5 : decode cX0_markOf 5 = .ok (.iload_n 1, 1) := by decide +kernel
theorem dX0_markOf_6 : decode cX0_markOf 6 = .ok (.ireturn, 1) := by decide +kernel
theorem dX0_markOf_7 : decode cX0_markOf 7 = .ok (.iload_n 2, 1) := by decide +kernel
theorem dX0_markOf_8 : decode cX0_markOf 8 = .ok (.ifCond .ne 15, 3) := by decide +kernel
theorem dX0_markOf_11 : decode cX0_markOf 11 = .ok (.aload_n 0, 1) := by decide +kernel
theorem dX0_markOf_12 : decode cX0_markOf 12 = .ok (.getfield 12, 3) := by decide +kernel
theorem dX0_markOf_15 : decode cX0_markOf 15 = .ok (.iload_n 1, 1) := by decide +kernel
theorem dX0_markOf_16 : decode cX0_markOf 16 = .ok (.iconst 2, 1) := by decide +kernel
theorem dX0_markOf_17 : decode cX0_markOf 17 = .ok (.invokevirtual 65, 3) := by decide +kernel
theorem dX0_markOf_20 : decode cX0_markOf 20 = .ok (.goto 13, 3) := by decide +kernel
theorem dX0_markOf_23 : decode cX0_markOf 23 = .ok (.aload_n 0, 1) := by decide +kernel
theorem dX0_markOf_24 : decode cX0_markOf 24 = .ok (.getfield 12, 3) := by decide +kernel
theorem dX0_markOf_27 : decode cX0_markOf 27 = .ok (.iload_n 1, 1) := by decide +kernel
theorem dX0_markOf_28 : decode cX0_markOf 28 = .ok (.iconst 2, 1) := by decide +kernel
theorem dX0_markOf_29 : decode cX0_markOf 29 = .ok (.invokevirtual 65, 3) := by decide +kernel
theorem dX0_markOf_32 : decode cX0_markOf 32 = .ok (.ineg, 1) := by decide +kernel
theorem dX0_markOf_33 : decode cX0_markOf 33 = .ok (.ireturn, 1) := by decide +kernel
theorem dX0_livesWeeks_0 : decode cX0_livesWeeks 0 = .ok (.iconst 0, 1) := by decide +kernel
theorem dX0_livesWeeks_1 : decode cX0_livesWeeks 1 = .ok (.istore_n 2, 1) := by decide +kernel
theorem dX0_livesWeeks_2 : decode cX0_livesWeeks 2 = .ok (.iload_n 2, 1) := by decide +kernel
theorem dX0_livesWeeks_3 : decode cX0_livesWeeks 3 = .ok (.iload_n 1, 1) := by decide +kernel
theorem dX0_livesWeeks_4 : decode cX0_livesWeeks 4 = .ok (.if_icmp .ge 26, 3) := by decide +kernel
theorem dX0_livesWeeks_7 : decode cX0_livesWeeks 7 = .ok (.aload_n 0, 1) := by decide +kernel
theorem dX0_livesWeeks_8 : decode cX0_livesWeeks 8 = .ok (.aload_n 0, 1) := by decide +kernel
theorem dX0_livesWeeks_9 : decode cX0_livesWeeks 9 = .ok (.getfield 25, 3) := by decide +kernel
theorem dX0_livesWeeks_12 : decode cX0_livesWeeks 12 = .ok (.iconst 0, 1) := by decide +kernel
theorem dX0_livesWeeks_13 : decode cX0_livesWeeks 13 = .ok (.iaload, 1) := by decide +kernel
theorem dX0_livesWeeks_14 : decode cX0_livesWeeks 14 = .ok (.aload_n 0, 1) := by decide +kernel
theorem dX0_livesWeeks_15 : decode cX0_livesWeeks 15 = .ok (.getfield 25, 3) := by decide +kernel
theorem dX0_livesWeeks_18 : decode cX0_livesWeeks 18 = .ok (.iconst 2, 1) := by decide +kernel
theorem dX0_livesWeeks_19 : decode cX0_livesWeeks 19 = .ok (.iaload, 1) := by decide +kernel
theorem dX0_livesWeeks_20 : decode cX0_livesWeeks 20 = .ok (.invokevirtual 97, 3) := by decide +kernel
theorem dX0_livesWeeks_23 : decode cX0_livesWeeks 23 = .ok (.pop, 1) := by decide +kernel
theorem dX0_livesWeeks_24 : decode cX0_livesWeeks 24 = .ok (.iinc 2 1, 3) := by decide +kernel
theorem dX0_livesWeeks_27 : decode cX0_livesWeeks 27 = .ok (.goto (-25), 3) := by decide +kernel
theorem dX0_livesWeeks_30 : decode cX0_livesWeeks 30 = .ok (.return_, 1) := by decide +kernel
theorem dX0_livesByLot_0 : decode cX0_livesByLot 0 = .ok (.iload_n 1, 1) := by decide +kernel
theorem dX0_livesByLot_1 : decode cX0_livesByLot 1 = .ok (.iconst 1, 1) := by decide +kernel
theorem dX0_livesByLot_2 : decode cX0_livesByLot 2 = .ok (.iadd, 1) := by decide +kernel
theorem dX0_livesByLot_3 : decode cX0_livesByLot 3 = .ok (.i2l, 1) := by decide +kernel
theorem dX0_livesByLot_4 : decode cX0_livesByLot 4 = .ok (.lstore 4, 2) := by decide +kernel
theorem dX0_livesByLot_6 : decode cX0_livesByLot 6 = .ok (.iconst 0, 1) := by decide +kernel
theorem dX0_livesByLot_7 : decode cX0_livesByLot 7 = .ok (.istore 6, 2) := by decide +kernel
theorem dX0_livesByLot_9 : decode cX0_livesByLot 9 = .ok (.iload 6, 2) := by decide +kernel
theorem dX0_livesByLot_11 : decode cX0_livesByLot 11 = .ok (.iload_n 2, 1) := by decide +kernel
theorem dX0_livesByLot_12 : decode cX0_livesByLot 12 = .ok (.if_icmp .ge 54, 3) := by decide +kernel
theorem dX0_livesByLot_15 : decode cX0_livesByLot 15 = .ok (.lload 4, 2) := by decide +kernel
theorem dX0_livesByLot_17 : decode cX0_livesByLot 17 = .ok (.ldc2_w 100, 3) := by decide +kernel
theorem dX0_livesByLot_20 : decode cX0_livesByLot 20 = .ok (.lmul, 1) := by decide +kernel
theorem dX0_livesByLot_21 : decode cX0_livesByLot 21 = .ok (.ldc2_w 102, 3) := by decide +kernel
theorem dX0_livesByLot_24 : decode cX0_livesByLot 24 = .ok (.lrem, 1) := by decide +kernel
theorem dX0_livesByLot_25 : decode cX0_livesByLot 25 = .ok (.lstore 4, 2) := by decide +kernel
theorem dX0_livesByLot_27 : decode cX0_livesByLot 27 = .ok (.aload_n 0, 1) := by decide +kernel
theorem dX0_livesByLot_28 : decode cX0_livesByLot 28 = .ok (.aload_n 0, 1) := by decide +kernel
theorem dX0_livesByLot_29 : decode cX0_livesByLot 29 = .ok (.getfield 25, 3) := by decide +kernel
theorem dX0_livesByLot_32 : decode cX0_livesByLot 32 = .ok (.iconst 0, 1) := by decide +kernel
theorem dX0_livesByLot_33 : decode cX0_livesByLot 33 = .ok (.iaload, 1) := by decide +kernel
theorem dX0_livesByLot_34 : decode cX0_livesByLot 34 = .ok (.lload 4, 2) := by decide +kernel
theorem dX0_livesByLot_36 : decode cX0_livesByLot 36 = .ok (.ldc2_w 104, 3) := by decide +kernel
theorem dX0_livesByLot_39 : decode cX0_livesByLot 39 = .ok (.lrem, 1) := by decide +kernel
theorem dX0_livesByLot_40 : decode cX0_livesByLot 40 = .ok (.iload_n 3, 1) := by decide +kernel
theorem dX0_livesByLot_41 : decode cX0_livesByLot 41 = .ok (.i2l, 1) := by decide +kernel
theorem dX0_livesByLot_42 : decode cX0_livesByLot 42 = .ok (.lcmp, 1) := by decide +kernel
theorem dX0_livesByLot_43 : decode cX0_livesByLot 43 = .ok (.ifCond .ge 7, 3) := by decide +kernel
theorem dX0_livesByLot_46 : decode cX0_livesByLot 46 = .ok (.iconst 0, 1) := by decide +kernel
theorem dX0_livesByLot_47 : decode cX0_livesByLot 47 = .ok (.goto 9, 3) := by decide +kernel
theorem dX0_livesByLot_50 : decode cX0_livesByLot 50 = .ok (.aload_n 0, 1) := by decide +kernel
theorem dX0_livesByLot_51 : decode cX0_livesByLot 51 = .ok (.getfield 25, 3) := by decide +kernel
theorem dX0_livesByLot_54 : decode cX0_livesByLot 54 = .ok (.iconst 2, 1) := by decide +kernel
theorem dX0_livesByLot_55 : decode cX0_livesByLot 55 = .ok (.iaload, 1) := by decide +kernel
theorem dX0_livesByLot_56 : decode cX0_livesByLot 56 = .ok (.invokevirtual 97, 3) := by decide +kernel
theorem dX0_livesByLot_59 : decode cX0_livesByLot 59 = .ok (.pop, 1) := by decide +kernel
theorem dX0_livesByLot_60 : decode cX0_livesByLot 60 = .ok (.iinc 6 1, 3) := by decide +kernel
theorem dX0_livesByLot_63 : decode cX0_livesByLot 63 = .ok (.goto (-54), 3) := by decide +kernel
theorem dX0_livesByLot_66 : decode cX0_livesByLot 66 = .ok (.return_, 1) := by decide +kernel
theorem dX0_weekOfCloths_0 : decode cX0_weekOfCloths 0 = .ok (.aload_n 0, 1) := by decide +kernel
theorem dX0_weekOfCloths_1 : decode cX0_weekOfCloths 1 = .ok (.getfield 12, 3) := by decide +kernel
theorem dX0_weekOfCloths_4 : decode cX0_weekOfCloths 4 = .ok (.iload_n 1, 1) := by decide +kernel
theorem dX0_weekOfCloths_5 : decode cX0_weekOfCloths 5 = .ok (.invokevirtual 106, 3) := by decide +kernel
theorem dX0_weekOfCloths_8 : decode cX0_weekOfCloths 8 = .ok (.ifCond .eq 5, 3) := by decide +kernel
theorem dX0_weekOfCloths_11 : decode cX0_weekOfCloths 11 = .ok (.iload_n 2, 1) := by decide +kernel
theorem dX0_weekOfCloths_12 : decode cX0_weekOfCloths 12 = .ok (.ireturn, 1) := by decide +kernel
theorem dX0_weekOfCloths_13 : decode cX0_weekOfCloths 13 = .ok (.iconst 0, 1) := by decide +kernel
theorem dX0_weekOfCloths_14 : decode cX0_weekOfCloths 14 = .ok (.istore_n 3, 1) := by decide +kernel
theorem dX0_weekOfCloths_15 : decode cX0_weekOfCloths 15 = .ok (.iload_n 3, 1) := by decide +kernel
theorem dX0_weekOfCloths_16 : decode cX0_weekOfCloths 16 = .ok (.iload_n 2, 1) := by decide +kernel
theorem dX0_weekOfCloths_17 : decode cX0_weekOfCloths 17 = .ok (.if_icmp .ge 39, 3) := by decide +kernel
theorem dX0_weekOfCloths_20 : decode cX0_weekOfCloths 20 = .ok (.aload_n 0, 1) := by decide +kernel
theorem dX0_weekOfCloths_21 : decode cX0_weekOfCloths 21 = .ok (.aload_n 0, 1) := by decide +kernel
theorem dX0_weekOfCloths_22 : decode cX0_weekOfCloths 22 = .ok (.getfield 25, 3) := by decide +kernel
theorem dX0_weekOfCloths_25 : decode cX0_weekOfCloths 25 = .ok (.iconst 0, 1) := by decide +kernel
theorem dX0_weekOfCloths_26 : decode cX0_weekOfCloths 26 = .ok (.iaload, 1) := by decide +kernel
theorem dX0_weekOfCloths_27 : decode cX0_weekOfCloths 27 = .ok (.aload_n 0, 1) := by decide +kernel
theorem dX0_weekOfCloths_28 : decode cX0_weekOfCloths 28 = .ok (.getfield 25, 3) := by decide +kernel
theorem dX0_weekOfCloths_31 : decode cX0_weekOfCloths 31 = .ok (.iconst 2, 1) := by decide +kernel
theorem dX0_weekOfCloths_32 : decode cX0_weekOfCloths 32 = .ok (.iaload, 1) := by decide +kernel
theorem dX0_weekOfCloths_33 : decode cX0_weekOfCloths 33 = .ok (.invokevirtual 97, 3) := by decide +kernel
theorem dX0_weekOfCloths_36 : decode cX0_weekOfCloths 36 = .ok (.pop, 1) := by decide +kernel
theorem dX0_weekOfCloths_37 : decode cX0_weekOfCloths 37 = .ok (.aload_n 0, 1) := by decide +kernel
theorem dX0_weekOfCloths_38 : decode cX0_weekOfCloths 38 = .ok (.getfield 12, 3) := by decide +kernel
theorem dX0_weekOfCloths_41 : decode cX0_weekOfCloths 41 = .ok (.iload_n 1, 1) := by decide +kernel
theorem dX0_weekOfCloths_42 : decode cX0_weekOfCloths 42 = .ok (.invokevirtual 106, 3) := by decide +kernel
theorem dX0_weekOfCloths_45 : decode cX0_weekOfCloths 45 = .ok (.ifCond .eq 5, 3) := by decide +kernel
theorem dX0_weekOfCloths_48 : decode cX0_weekOfCloths 48 = .ok (.iload_n 3, 1) := by decide +kernel
theorem dX0_weekOfCloths_49 : decode cX0_weekOfCloths 49 = .ok (.ireturn, 1) := by decide +kernel
theorem dX0_weekOfCloths_50 : decode cX0_weekOfCloths 50 = .ok (.iinc 3 1, 3) := by decide +kernel
theorem dX0_weekOfCloths_53 : decode cX0_weekOfCloths 53 = .ok (.goto (-38), 3) := by decide +kernel
theorem dX0_weekOfCloths_56 : decode cX0_weekOfCloths 56 = .ok (.iload_n 2, 1) := by decide +kernel
theorem dX0_weekOfCloths_57 : decode cX0_weekOfCloths 57 = .ok (.ireturn, 1) := by decide +kernel
theorem dX0_livesWeek_0 : decode cX0_livesWeek 0 = .ok (.aload_n 0, 1) := by decide +kernel
theorem dX0_livesWeek_1 : decode cX0_livesWeek 1 = .ok (.getfield 12, 3) := by decide +kernel
theorem dX0_livesWeek_4 : decode cX0_livesWeek 4 = .ok (.invokevirtual 109, 3) := by decide +kernel
theorem dX0_livesWeek_7 : decode cX0_livesWeek 7 = .ok (.istore_n 3, 1) := by decide +kernel
theorem dX0_livesWeek_8 : decode cX0_livesWeek 8 = .ok (.aload_n 0, 1) := by decide +kernel
theorem dX0_livesWeek_9 : decode cX0_livesWeek 9 = .ok (.invokevirtual 113, 3) := by decide +kernel
theorem dX0_livesWeek_12 : decode cX0_livesWeek 12 = .ok (.iconst 0, 1) := by decide +kernel
theorem dX0_livesWeek_13 : decode cX0_livesWeek 13 = .ok (.istore 4, 2) := by decide +kernel
theorem dX0_livesWeek_15 : decode cX0_livesWeek 15 = .ok (.iconst 0, 1) := by decide +kernel
theorem dX0_livesWeek_16 : decode cX0_livesWeek 16 = .ok (.istore 5, 2) := by decide +kernel
theorem dX0_livesWeek_18 : decode cX0_livesWeek 18 = .ok (.iconst 0, 1) := by decide +kernel
theorem dX0_livesWeek_19 : decode cX0_livesWeek 19 = .ok (.istore 6, 2) := by decide +kernel
theorem dX0_livesWeek_21 : decode cX0_livesWeek 21 = .ok (.iload 6, 2) := by decide +kernel
theorem dX0_livesWeek_23 : decode cX0_livesWeek 23 = .ok (.iload_n 1, 1) := by decide +kernel
theorem dX0_livesWeek_24 : decode cX0_livesWeek 24 = .ok (.if_icmp .ge 44, 3) := by decide +kernel
theorem dX0_livesWeek_27 : decode cX0_livesWeek 27 = .ok (.aload_n 0, 1) := by decide +kernel
theorem dX0_livesWeek_28 : decode cX0_livesWeek 28 = .ok (.getfield 21, 3) := by decide +kernel
theorem dX0_livesWeek_31 : decode cX0_livesWeek 31 = .ok (.aload_n 0, 1) := by decide +kernel
theorem dX0_livesWeek_32 : decode cX0_livesWeek 32 = .ok (.iload_n 2, 1) := by decide +kernel
theorem dX0_livesWeek_33 : decode cX0_livesWeek 33 = .ok (.invokevirtual 116, 3) := by decide +kernel
theorem dX0_livesWeek_36 : decode cX0_livesWeek 36 = .ok (.invokevirtual 91, 3) := by decide +kernel
theorem dX0_livesWeek_39 : decode cX0_livesWeek 39 = .ok (.istore 7, 2) := by decide +kernel
theorem dX0_livesWeek_41 : decode cX0_livesWeek 41 = .ok (.iload 7, 2) := by decide +kernel
theorem dX0_livesWeek_43 : decode cX0_livesWeek 43 = .ok (.iconst (-1), 1) := by decide +kernel
theorem dX0_livesWeek_44 : decode cX0_livesWeek 44 = .ok (.if_icmp .ne 9, 3) := by decide +kernel
theorem dX0_livesWeek_47 : decode cX0_livesWeek 47 = .ok (.iinc 4 1, 3) := by decide +kernel
theorem dX0_livesWeek_50 : decode cX0_livesWeek 50 = .ok (.goto 12, 3) := by decide +kernel
theorem dX0_livesWeek_53 : decode cX0_livesWeek 53 = .ok (.iload 5, 2) := by decide +kernel
theorem dX0_livesWeek_55 : decode cX0_livesWeek 55 = .ok (.iconst 1, 1) := by decide +kernel
theorem dX0_livesWeek_56 : decode cX0_livesWeek 56 = .ok (.iload 7, 2) := by decide +kernel
theorem dX0_livesWeek_58 : decode cX0_livesWeek 58 = .ok (.ishl, 1) := by decide +kernel
theorem dX0_livesWeek_59 : decode cX0_livesWeek 59 = .ok (.ior, 1) := by decide +kernel
theorem dX0_livesWeek_60 : decode cX0_livesWeek 60 = .ok (.istore 5, 2) := by decide +kernel
theorem dX0_livesWeek_62 : decode cX0_livesWeek 62 = .ok (.iinc 6 1, 3) := by decide +kernel
theorem dX0_livesWeek_65 : decode cX0_livesWeek 65 = .ok (.goto (-44), 3) := by decide +kernel
theorem dX0_livesWeek_68 : decode cX0_livesWeek 68 = .ok (.aload_n 0, 1) := by decide +kernel
theorem dX0_livesWeek_69 : decode cX0_livesWeek 69 = .ok (.invokevirtual 119, 3) := by decide +kernel
theorem dX0_livesWeek_72 : decode cX0_livesWeek 72 = .ok (.aload_n 0, 1) := by decide +kernel
theorem dX0_livesWeek_73 : decode cX0_livesWeek 73 = .ok (.iload 5, 2) := by decide +kernel
theorem dX0_livesWeek_75 : decode cX0_livesWeek 75 = .ok (.invokevirtual 122, 3) := by decide +kernel
theorem dX0_livesWeek_78 : decode cX0_livesWeek 78 = .ok (.aload_n 0, 1) := by decide +kernel
theorem dX0_livesWeek_79 : decode cX0_livesWeek 79 = .ok (.invokevirtual 126, 3) := by decide +kernel
theorem dX0_livesWeek_82 : decode cX0_livesWeek 82 = .ok (.aload_n 0, 1) := by decide +kernel
theorem dX0_livesWeek_83 : decode cX0_livesWeek 83 = .ok (.getfield 29, 3) := by decide +kernel
theorem dX0_livesWeek_86 : decode cX0_livesWeek 86 = .ok (.iconst (-1), 1) := by decide +kernel
theorem dX0_livesWeek_87 : decode cX0_livesWeek 87 = .ok (.if_icmp .ne 22, 3) := by decide +kernel
theorem dX0_livesWeek_90 : decode cX0_livesWeek 90 = .ok (.aload_n 0, 1) := by decide +kernel
theorem dX0_livesWeek_91 : decode cX0_livesWeek 91 = .ok (.getfield 12, 3) := by decide +kernel
theorem dX0_livesWeek_94 : decode cX0_livesWeek 94 = .ok (.invokevirtual 109, 3) := by decide +kernel
theorem dX0_livesWeek_97 : decode cX0_livesWeek 97 = .ok (.iload_n 3, 1) := by decide +kernel
theorem dX0_livesWeek_98 : decode cX0_livesWeek 98 = .ok (.if_icmp .ge 11, 3) := by decide +kernel
theorem dX0_livesWeek_101 : decode cX0_livesWeek 101 = .ok (.aload_n 0, 1) := by decide +kernel
theorem dX0_livesWeek_102 : decode cX0_livesWeek 102 = .ok (.aload_n 0, 1) := by decide +kernel
theorem dX0_livesWeek_103 : decode cX0_livesWeek 103 = .ok (.getfield 62, 3) := by decide +kernel
theorem dX0_livesWeek_106 : decode cX0_livesWeek 106 = .ok (.putfield 29, 3) := by decide +kernel
theorem dX0_livesWeek_109 : decode cX0_livesWeek 109 = .ok (.aload_n 0, 1) := by decide +kernel
theorem dX0_livesWeek_110 : decode cX0_livesWeek 110 = .ok (.dup, 1) := by decide +kernel
theorem dX0_livesWeek_111 : decode cX0_livesWeek 111 = .ok (.getfield 56, 3) := by decide +kernel
theorem dX0_livesWeek_114 : decode cX0_livesWeek 114 = .ok (.iload 4, 2) := by decide +kernel
theorem dX0_livesWeek_116 : decode cX0_livesWeek 116 = .ok (.iadd, 1) := by decide +kernel
theorem dX0_livesWeek_117 : decode cX0_livesWeek 117 = .ok (.putfield 56, 3) := by decide +kernel
theorem dX0_livesWeek_120 : decode cX0_livesWeek 120 = .ok (.aload_n 0, 1) := by decide +kernel
theorem dX0_livesWeek_121 : decode cX0_livesWeek 121 = .ok (.dup, 1) := by decide +kernel
theorem dX0_livesWeek_122 : decode cX0_livesWeek 122 = .ok (.getfield 59, 3) := by decide +kernel
theorem dX0_livesWeek_125 : decode cX0_livesWeek 125 = .ok (.iload 5, 2) := by decide +kernel
theorem dX0_livesWeek_127 : decode cX0_livesWeek 127 = .ok (.ior, 1) := by decide +kernel
theorem dX0_livesWeek_128 : decode cX0_livesWeek 128 = .ok (.putfield 59, 3) := by decide +kernel
theorem dX0_livesWeek_131 : decode cX0_livesWeek 131 = .ok (.aload_n 0, 1) := by decide +kernel
theorem dX0_livesWeek_132 : decode cX0_livesWeek 132 = .ok (.dup, 1) := by decide +kernel
theorem dX0_livesWeek_133 : decode cX0_livesWeek 133 = .ok (.getfield 62, 3) := by decide +kernel
theorem dX0_livesWeek_136 : decode cX0_livesWeek 136 = .ok (.iconst 1, 1) := by decide +kernel
theorem dX0_livesWeek_137 : decode cX0_livesWeek 137 = .ok (.iadd, 1) := by decide +kernel
theorem dX0_livesWeek_138 : decode cX0_livesWeek 138 = .ok (.putfield 62, 3) := by decide +kernel
theorem dX0_livesWeek_141 : decode cX0_livesWeek 141 = .ok (.aload_n 0, 1) := by decide +kernel
theorem dX0_livesWeek_142 : decode cX0_livesWeek 142 = .ok (.dup, 1) := by decide +kernel
theorem dX0_livesWeek_143 : decode cX0_livesWeek 143 = .ok (.getfield 50, 3) := by decide +kernel
theorem dX0_livesWeek_146 : decode cX0_livesWeek 146 = .ok (.iconst 1, 1) := by decide +kernel
theorem dX0_livesWeek_147 : decode cX0_livesWeek 147 = .ok (.iadd, 1) := by decide +kernel
theorem dX0_livesWeek_148 : decode cX0_livesWeek 148 = .ok (.putfield 50, 3) := by decide +kernel
theorem dX0_livesWeek_151 : decode cX0_livesWeek 151 = .ok (.iload 4, 2) := by decide +kernel
theorem dX0_livesWeek_153 : decode cX0_livesWeek 153 = .ok (.ireturn, 1) := by decide +kernel
theorem dX0_comesBack_0 : decode cX0_comesBack 0 = .ok (.iconst 0, 1) := by decide +kernel
theorem dX0_comesBack_1 : decode cX0_comesBack 1 = .ok (.istore_n 1, 1) := by decide +kernel
theorem dX0_comesBack_2 : decode cX0_comesBack 2 = .ok (.iload_n 1, 1) := by decide +kernel
theorem dX0_comesBack_3 : decode cX0_comesBack 3 = .ok (.aload_n 0, 1) := by decide +kernel
theorem dX0_comesBack_4 : decode cX0_comesBack 4 = .ok (.getfield 12, 3) := by decide +kernel
theorem dX0_comesBack_7 : decode cX0_comesBack 7 = .ok (.getfield 129, 3) := by decide +kernel
theorem dX0_comesBack_10 : decode cX0_comesBack 10 = .ok (.if_icmp .ge 47, 3) := by decide +kernel
theorem dX0_comesBack_13 : decode cX0_comesBack 13 = .ok (.aload_n 0, 1) := by decide +kernel
theorem dX0_comesBack_14 : decode cX0_comesBack 14 = .ok (.getfield 12, 3) := by decide +kernel
theorem dX0_comesBack_17 : decode cX0_comesBack 17 = .ok (.iload_n 1, 1) := by decide +kernel
theorem dX0_comesBack_18 : decode cX0_comesBack 18 = .ok (.bipush 6, 2) := by decide +kernel
theorem dX0_comesBack_20 : decode cX0_comesBack 20 = .ok (.invokevirtual 65, 3) := by decide +kernel
theorem dX0_comesBack_23 : decode cX0_comesBack 23 = .ok (.istore_n 2, 1) := by decide +kernel
theorem dX0_comesBack_24 : decode cX0_comesBack 24 = .ok (.iload_n 2, 1) := by decide +kernel
theorem dX0_comesBack_25 : decode cX0_comesBack 25 = .ok (.ifCond .le 26, 3) := by decide +kernel
theorem dX0_comesBack_28 : decode cX0_comesBack 28 = .ok (.aload_n 0, 1) := by decide +kernel
theorem dX0_comesBack_29 : decode cX0_comesBack 29 = .ok (.getfield 12, 3) := by decide +kernel
theorem dX0_comesBack_32 : decode cX0_comesBack 32 = .ok (.iload_n 1, 1) := by decide +kernel
theorem dX0_comesBack_33 : decode cX0_comesBack 33 = .ok (.bipush 6, 2) := by decide +kernel
theorem dX0_comesBack_35 : decode cX0_comesBack 35 = .ok (.iload_n 2, 1) := by decide +kernel
theorem dX0_comesBack_36 : decode cX0_comesBack 36 = .ok (.iconst 1, 1) := by decide +kernel
theorem dX0_comesBack_37 : decode cX0_comesBack 37 = .ok (.isub, 1) := by decide +kernel
theorem dX0_comesBack_38 : decode cX0_comesBack 38 = .ok (.invokevirtual 73, 3) := by decide +kernel
theorem dX0_comesBack_41 : decode cX0_comesBack 41 = .ok (.iload_n 2, 1) := by decide +kernel
theorem dX0_comesBack_42 : decode cX0_comesBack 42 = .ok (.iconst 1, 1) := by decide +kernel
theorem dX0_comesBack_43 : decode cX0_comesBack 43 = .ok (.if_icmp .ne 8, 3) := by decide +kernel
theorem dX0_comesBack_46 : decode cX0_comesBack 46 = .ok (.aload_n 0, 1) := by decide +kernel
theorem dX0_comesBack_47 : decode cX0_comesBack 47 = .ok (.iload_n 1, 1) := by decide +kernel
theorem dX0_comesBack_48 : decode cX0_comesBack 48 = .ok (.invokevirtual 132, 3) := by decide +kernel
theorem dX0_comesBack_51 : decode cX0_comesBack 51 = .ok (.iinc 1 1, 3) := by decide +kernel
theorem dX0_comesBack_54 : decode cX0_comesBack 54 = .ok (.goto (-52), 3) := by decide +kernel
theorem dX0_comesBack_57 : decode cX0_comesBack 57 = .ok (.return_, 1) := by decide +kernel
theorem dX0_yellows_0 : decode cX0_yellows 0 = .ok (.iconst 0, 1) := by decide +kernel
theorem dX0_yellows_1 : decode cX0_yellows 1 = .ok (.istore_n 1, 1) := by decide +kernel
theorem dX0_yellows_2 : decode cX0_yellows 2 = .ok (.iload_n 1, 1) := by decide +kernel
theorem dX0_yellows_3 : decode cX0_yellows 3 = .ok (.aload_n 0, 1) := by decide +kernel
theorem dX0_yellows_4 : decode cX0_yellows 4 = .ok (.getfield 21, 3) := by decide +kernel
theorem dX0_yellows_7 : decode cX0_yellows 7 = .ok (.getfield 77, 3) := by decide +kernel
theorem dX0_yellows_10 : decode cX0_yellows 10 = .ok (.if_icmp .ge 95, 3) := by decide +kernel
theorem dX0_yellows_13 : decode cX0_yellows 13 = .ok (.aload_n 0, 1) := by decide +kernel
theorem dX0_yellows_14 : decode cX0_yellows 14 = .ok (.getfield 21, 3) := by decide +kernel
theorem dX0_yellows_17 : decode cX0_yellows 17 = .ok (.iload_n 1, 1) := by decide +kernel
theorem dX0_yellows_18 : decode cX0_yellows 18 = .ok (.invokevirtual 84, 3) := by decide +kernel
theorem dX0_yellows_21 : decode cX0_yellows 21 = .ok (.istore_n 2, 1) := by decide +kernel
theorem dX0_yellows_22 : decode cX0_yellows 22 = .ok (.aload_n 0, 1) := by decide +kernel
theorem dX0_yellows_23 : decode cX0_yellows 23 = .ok (.iload_n 2, 1) := by decide +kernel
theorem dX0_yellows_24 : decode cX0_yellows 24 = .ok (.invokevirtual 135, 3) := by decide +kernel
theorem dX0_yellows_27 : decode cX0_yellows 27 = .ok (.aload_n 0, 1) := by decide +kernel
theorem dX0_yellows_28 : decode cX0_yellows 28 = .ok (.getfield 12, 3) := by decide +kernel
theorem dX0_yellows_31 : decode cX0_yellows 31 = .ok (.iload_n 2, 1) := by decide +kernel
theorem dX0_yellows_32 : decode cX0_yellows 32 = .ok (.aload_n 0, 1) := by decide +kernel
theorem dX0_yellows_33 : decode cX0_yellows 33 = .ok (.getfield 33, 3) := by decide +kernel
theorem dX0_yellows_36 : decode cX0_yellows 36 = .ok (.aload_n 0, 1) := by decide +kernel
theorem dX0_yellows_37 : decode cX0_yellows 37 = .ok (.getfield 53, 3) := by decide +kernel
theorem dX0_yellows_40 : decode cX0_yellows 40 = .ok (.iconst 1, 1) := by decide +kernel
theorem dX0_yellows_41 : decode cX0_yellows 41 = .ok (.invokevirtual 138, 3) := by decide +kernel
theorem dX0_yellows_44 : decode cX0_yellows 44 = .ok (.invokevirtual 143, 3) := by decide +kernel
theorem dX0_yellows_47 : decode cX0_yellows 47 = .ok (.istore_n 3, 1) := by decide +kernel
theorem dX0_yellows_48 : decode cX0_yellows 48 = .ok (.aload_n 0, 1) := by decide +kernel
theorem dX0_yellows_49 : decode cX0_yellows 49 = .ok (.getfield 12, 3) := by decide +kernel
theorem dX0_yellows_52 : decode cX0_yellows 52 = .ok (.iload_n 2, 1) := by decide +kernel
theorem dX0_yellows_53 : decode cX0_yellows 53 = .ok (.iconst 3, 1) := by decide +kernel
theorem dX0_yellows_54 : decode cX0_yellows 54 = .ok (.bipush 99, 2) := by decide +kernel
theorem dX0_yellows_56 : decode cX0_yellows 56 = .ok (.aload_n 0, 1) := by decide +kernel
theorem dX0_yellows_57 : decode cX0_yellows 57 = .ok (.getfield 12, 3) := by decide +kernel
theorem dX0_yellows_60 : decode cX0_yellows 60 = .ok (.iload_n 2, 1) := by decide +kernel
theorem dX0_yellows_61 : decode cX0_yellows 61 = .ok (.iconst 3, 1) := by decide +kernel
theorem dX0_yellows_62 : decode cX0_yellows 62 = .ok (.invokevirtual 65, 3) := by decide +kernel
theorem dX0_yellows_65 : decode cX0_yellows 65 = .ok (.iload_n 3, 1) := by decide +kernel
theorem dX0_yellows_66 : decode cX0_yellows 66 = .ok (.iadd, 1) := by decide +kernel
theorem dX0_yellows_67 : decode cX0_yellows 67 = .ok (.invokestatic 146, 3) := by decide +kernel
theorem dX0_yellows_70 : decode cX0_yellows 70 = .ok (.invokevirtual 73, 3) := by decide +kernel
theorem dX0_yellows_73 : decode cX0_yellows 73 = .ok (.aload_n 0, 1) := by decide +kernel
theorem dX0_yellows_74 : decode cX0_yellows 74 = .ok (.getfield 12, 3) := by decide +kernel
theorem dX0_yellows_77 : decode cX0_yellows 77 = .ok (.iload_n 2, 1) := by decide +kernel
theorem dX0_yellows_78 : decode cX0_yellows 78 = .ok (.iconst 4, 1) := by decide +kernel
theorem dX0_yellows_79 : decode cX0_yellows 79 = .ok (.sipush 999, 3) := by decide +kernel
theorem dX0_yellows_82 : decode cX0_yellows 82 = .ok (.aload_n 0, 1) := by decide +kernel
theorem dX0_yellows_83 : decode cX0_yellows 83 = .ok (.getfield 12, 3) := by decide +kernel
theorem dX0_yellows_86 : decode cX0_yellows 86 = .ok (.iload_n 2, 1) := by decide +kernel
theorem dX0_yellows_87 : decode cX0_yellows 87 = .ok (.iconst 4, 1) := by decide +kernel
theorem dX0_yellows_88 : decode cX0_yellows 88 = .ok (.invokevirtual 65, 3) := by decide +kernel
theorem dX0_yellows_91 : decode cX0_yellows 91 = .ok (.iconst 1, 1) := by decide +kernel
theorem dX0_yellows_92 : decode cX0_yellows 92 = .ok (.iadd, 1) := by decide +kernel
theorem dX0_yellows_93 : decode cX0_yellows 93 = .ok (.invokestatic 146, 3) := by decide +kernel
theorem dX0_yellows_96 : decode cX0_yellows 96 = .ok (.invokevirtual 73, 3) := by decide +kernel
theorem dX0_yellows_99 : decode cX0_yellows 99 = .ok (.iinc 1 1, 3) := by decide +kernel
theorem dX0_yellows_102 : decode cX0_yellows 102 = .ok (.goto (-100), 3) := by decide +kernel
theorem dX0_yellows_105 : decode cX0_yellows 105 = .ok (.return_, 1) := by decide +kernel
theorem dX0_washes_0 : decode cX0_washes 0 = .ok (.iconst 0, 1) := by decide +kernel
theorem dX0_washes_1 : decode cX0_washes 1 = .ok (.istore_n 2, 1) := by decide +kernel
theorem dX0_washes_2 : decode cX0_washes 2 = .ok (.iload_n 2, 1) := by decide +kernel
theorem dX0_washes_3 : decode cX0_washes 3 = .ok (.aload_n 0, 1) := by decide +kernel
theorem dX0_washes_4 : decode cX0_washes 4 = .ok (.getfield 12, 3) := by decide +kernel
theorem dX0_washes_7 : decode cX0_washes 7 = .ok (.getfield 129, 3) := by decide +kernel
theorem dX0_washes_10 : decode cX0_washes 10 = .ok (.if_icmp .ge 144, 3) := by decide +kernel
theorem dX0_washes_13 : decode cX0_washes 13 = .ok (.iload_n 1, 1) := by decide +kernel
theorem dX0_washes_14 : decode cX0_washes 14 = .ok (.iload_n 2, 1) := by decide +kernel
theorem dX0_washes_15 : decode cX0_washes 15 = .ok (.ishr, 1) := by decide +kernel
theorem dX0_washes_16 : decode cX0_washes 16 = .ok (.iconst 1, 1) := by decide +kernel
theorem dX0_washes_17 : decode cX0_washes 17 = .ok (.iand, 1) := by decide +kernel
theorem dX0_washes_18 : decode cX0_washes 18 = .ok (.iconst 1, 1) := by decide +kernel
theorem dX0_washes_19 : decode cX0_washes 19 = .ok (.if_icmp .ne 129, 3) := by decide +kernel
theorem dX0_washes_22 : decode cX0_washes 22 = .ok (.aload_n 0, 1) := by decide +kernel
theorem dX0_washes_23 : decode cX0_washes 23 = .ok (.iload_n 2, 1) := by decide +kernel
theorem dX0_washes_24 : decode cX0_washes 24 = .ok (.invokevirtual 135, 3) := by decide +kernel
theorem dX0_washes_27 : decode cX0_washes 27 = .ok (.aload_n 0, 1) := by decide +kernel
theorem dX0_washes_28 : decode cX0_washes 28 = .ok (.getfield 12, 3) := by decide +kernel
theorem dX0_washes_31 : decode cX0_washes 31 = .ok (.iload_n 2, 1) := by decide +kernel
theorem dX0_washes_32 : decode cX0_washes 32 = .ok (.aload_n 0, 1) := by decide +kernel
theorem dX0_washes_33 : decode cX0_washes 33 = .ok (.getfield 33, 3) := by decide +kernel
theorem dX0_washes_36 : decode cX0_washes 36 = .ok (.aload_n 0, 1) := by decide +kernel
theorem dX0_washes_37 : decode cX0_washes 37 = .ok (.getfield 53, 3) := by decide +kernel
theorem dX0_washes_40 : decode cX0_washes 40 = .ok (.iconst 0, 1) := by decide +kernel
theorem dX0_washes_41 : decode cX0_washes 41 = .ok (.invokevirtual 138, 3) := by decide +kernel
theorem dX0_washes_44 : decode cX0_washes 44 = .ok (.invokevirtual 151, 3) := by decide +kernel
theorem dX0_washes_47 : decode cX0_washes 47 = .ok (.istore_n 3, 1) := by decide +kernel
theorem dX0_washes_48 : decode cX0_washes 48 = .ok (.aload_n 0, 1) := by decide +kernel
theorem dX0_washes_49 : decode cX0_washes 49 = .ok (.getfield 12, 3) := by decide +kernel
theorem dX0_washes_52 : decode cX0_washes 52 = .ok (.iload_n 2, 1) := by decide +kernel
theorem dX0_washes_53 : decode cX0_washes 53 = .ok (.iconst 2, 1) := by decide +kernel
theorem dX0_washes_54 : decode cX0_washes 54 = .ok (.sipush 999, 3) := by decide +kernel
theorem dX0_washes_57 : decode cX0_washes 57 = .ok (.aload_n 0, 1) := by decide +kernel
theorem dX0_washes_58 : decode cX0_washes 58 = .ok (.getfield 12, 3) := by decide +kernel
theorem dX0_washes_61 : decode cX0_washes 61 = .ok (.iload_n 2, 1) := by decide +kernel
theorem dX0_washes_62 : decode cX0_washes 62 = .ok (.iconst 2, 1) := by decide +kernel
theorem dX0_washes_63 : decode cX0_washes 63 = .ok (.invokevirtual 65, 3) := by decide +kernel
theorem dX0_washes_66 : decode cX0_washes 66 = .ok (.iload_n 3, 1) := by decide +kernel
theorem dX0_washes_67 : decode cX0_washes 67 = .ok (.iadd, 1) := by decide +kernel
theorem dX0_washes_68 : decode cX0_washes 68 = .ok (.invokestatic 146, 3) := by decide +kernel
theorem dX0_washes_71 : decode cX0_washes 71 = .ok (.invokevirtual 73, 3) := by decide +kernel
theorem dX0_washes_74 : decode cX0_washes 74 = .ok (.aload_n 0, 1) := by decide +kernel
theorem dX0_washes_75 : decode cX0_washes 75 = .ok (.getfield 12, 3) := by decide +kernel
theorem dX0_washes_78 : decode cX0_washes 78 = .ok (.iload_n 2, 1) := by decide +kernel
theorem dX0_washes_79 : decode cX0_washes 79 = .ok (.iconst 4, 1) := by decide +kernel
theorem dX0_washes_80 : decode cX0_washes 80 = .ok (.iconst 0, 1) := by decide +kernel
theorem dX0_washes_81 : decode cX0_washes 81 = .ok (.invokevirtual 73, 3) := by decide +kernel
theorem dX0_washes_84 : decode cX0_washes 84 = .ok (.aload_n 0, 1) := by decide +kernel
theorem dX0_washes_85 : decode cX0_washes 85 = .ok (.getfield 12, 3) := by decide +kernel
theorem dX0_washes_88 : decode cX0_washes 88 = .ok (.iload_n 2, 1) := by decide +kernel
theorem dX0_washes_89 : decode cX0_washes 89 = .ok (.bipush 6, 2) := by decide +kernel
theorem dX0_washes_91 : decode cX0_washes 91 = .ok (.aload_n 0, 1) := by decide +kernel
theorem dX0_washes_92 : decode cX0_washes 92 = .ok (.getfield 25, 3) := by decide +kernel
theorem dX0_washes_95 : decode cX0_washes 95 = .ok (.iconst 1, 1) := by decide +kernel
theorem dX0_washes_96 : decode cX0_washes 96 = .ok (.iaload, 1) := by decide +kernel
theorem dX0_washes_97 : decode cX0_washes 97 = .ok (.invokevirtual 73, 3) := by decide +kernel
theorem dX0_washes_100 : decode cX0_washes 100 = .ok (.aload_n 0, 1) := by decide +kernel
theorem dX0_washes_101 : decode cX0_washes 101 = .ok (.getfield 12, 3) := by decide +kernel
theorem dX0_washes_104 : decode cX0_washes 104 = .ok (.iload_n 2, 1) := by decide +kernel
theorem dX0_washes_105 : decode cX0_washes 105 = .ok (.iconst 2, 1) := by decide +kernel
theorem dX0_washes_106 : decode cX0_washes 106 = .ok (.invokevirtual 65, 3) := by decide +kernel
theorem dX0_washes_109 : decode cX0_washes 109 = .ok (.aload_n 0, 1) := by decide +kernel
theorem dX0_washes_110 : decode cX0_washes 110 = .ok (.getfield 12, 3) := by decide +kernel
theorem dX0_washes_113 : decode cX0_washes 113 = .ok (.iload_n 2, 1) := by decide +kernel
theorem dX0_washes_114 : decode cX0_washes 114 = .ok (.invokevirtual 154, 3) := by decide +kernel
theorem dX0_washes_117 : decode cX0_washes 117 = .ok (.if_icmp .lt 17, 3) := by decide +kernel
theorem dX0_washes_120 : decode cX0_washes 120 = .ok (.aload_n 0, 1) := by decide +kernel
theorem dX0_washes_121 : decode cX0_washes 121 = .ok (.getfield 12, 3) := by decide +kernel
theorem dX0_washes_124 : decode cX0_washes 124 = .ok (.iload_n 2, 1) := by decide +kernel
theorem dX0_washes_125 : decode cX0_washes 125 = .ok (.bipush 6, 2) := by decide +kernel
theorem dX0_washes_127 : decode cX0_washes 127 = .ok (.iconst (-1), 1) := by decide +kernel
theorem dX0_washes_128 : decode cX0_washes 128 = .ok (.invokevirtual 73, 3) := by decide +kernel
theorem dX0_washes_131 : decode cX0_washes 131 = .ok (.goto 17, 3) := by decide +kernel
theorem dX0_washes_134 : decode cX0_washes 134 = .ok (.aload_n 0, 1) := by decide +kernel
theorem dX0_washes_135 : decode cX0_washes 135 = .ok (.getfield 25, 3) := by decide +kernel
theorem dX0_washes_138 : decode cX0_washes 138 = .ok (.iconst 1, 1) := by decide +kernel
theorem dX0_washes_139 : decode cX0_washes 139 = .ok (.iaload, 1) := by decide +kernel
theorem dX0_washes_140 : decode cX0_washes 140 = .ok (.ifCond .ne 8, 3) := by decide +kernel
theorem dX0_washes_143 : decode cX0_washes 143 = .ok (.aload_n 0, 1) := by decide +kernel
theorem dX0_washes_144 : decode cX0_washes 144 = .ok (.iload_n 2, 1) := by decide +kernel
theorem dX0_washes_145 : decode cX0_washes 145 = .ok (.invokevirtual 132, 3) := by decide +kernel
theorem dX0_washes_148 : decode cX0_washes 148 = .ok (.iinc 2 1, 3) := by decide +kernel
theorem dX0_washes_151 : decode cX0_washes 151 = .ok (.goto (-149), 3) := by decide +kernel
theorem dX0_washes_154 : decode cX0_washes 154 = .ok (.return_, 1) := by decide +kernel
theorem dX0_dropsYellow_0 : decode cX0_dropsYellow 0 = .ok (.aload_n 0, 1) := by decide +kernel
theorem dX0_dropsYellow_1 : decode cX0_dropsYellow 1 = .ok (.getfield 21, 3) := by decide +kernel
theorem dX0_dropsYellow_4 : decode cX0_dropsYellow 4 = .ok (.getfield 77, 3) := by decide +kernel
theorem dX0_dropsYellow_7 : decode cX0_dropsYellow 7 = .ok (.iconst 1, 1) := by decide +kernel
theorem dX0_dropsYellow_8 : decode cX0_dropsYellow 8 = .ok (.isub, 1) := by decide +kernel
theorem dX0_dropsYellow_9 : decode cX0_dropsYellow 9 = .ok (.istore_n 1, 1) := by decide +kernel
theorem dX0_dropsYellow_10 : decode cX0_dropsYellow 10 = .ok (.iload_n 1, 1) := by decide +kernel
theorem dX0_dropsYellow_11 : decode cX0_dropsYellow 11 = .ok (.ifCond .lt 48, 3) := by decide +kernel
theorem dX0_dropsYellow_14 : decode cX0_dropsYellow 14 = .ok (.aload_n 0, 1) := by decide +kernel
theorem dX0_dropsYellow_15 : decode cX0_dropsYellow 15 = .ok (.getfield 12, 3) := by decide +kernel
theorem dX0_dropsYellow_18 : decode cX0_dropsYellow 18 = .ok (.aload_n 0, 1) := by decide +kernel
theorem dX0_dropsYellow_19 : decode cX0_dropsYellow 19 = .ok (.getfield 21, 3) := by decide +kernel
theorem dX0_dropsYellow_22 : decode cX0_dropsYellow 22 = .ok (.iload_n 1, 1) := by decide +kernel
theorem dX0_dropsYellow_23 : decode cX0_dropsYellow 23 = .ok (.invokevirtual 84, 3) := by decide +kernel
theorem dX0_dropsYellow_26 : decode cX0_dropsYellow 26 = .ok (.iconst 3, 1) := by decide +kernel
theorem dX0_dropsYellow_27 : decode cX0_dropsYellow 27 = .ok (.invokevirtual 65, 3) := by decide +kernel
theorem dX0_dropsYellow_30 : decode cX0_dropsYellow 30 = .ok (.bipush 99, 2) := by decide +kernel
theorem dX0_dropsYellow_32 : decode cX0_dropsYellow 32 = .ok (.if_icmp .ne 21, 3) := by decide +kernel
theorem dX0_dropsYellow_35 : decode cX0_dropsYellow 35 = .ok (.aload_n 0, 1) := by decide +kernel
theorem dX0_dropsYellow_36 : decode cX0_dropsYellow 36 = .ok (.getfield 12, 3) := by decide +kernel
theorem dX0_dropsYellow_39 : decode cX0_dropsYellow 39 = .ok (.aload_n 0, 1) := by decide +kernel
theorem dX0_dropsYellow_40 : decode cX0_dropsYellow 40 = .ok (.getfield 21, 3) := by decide +kernel
theorem dX0_dropsYellow_43 : decode cX0_dropsYellow 43 = .ok (.iload_n 1, 1) := by decide +kernel
theorem dX0_dropsYellow_44 : decode cX0_dropsYellow 44 = .ok (.invokevirtual 91, 3) := by decide +kernel
theorem dX0_dropsYellow_47 : decode cX0_dropsYellow 47 = .ok (.bipush 6, 2) := by decide +kernel
theorem dX0_dropsYellow_49 : decode cX0_dropsYellow 49 = .ok (.iconst (-1), 1) := by decide +kernel
theorem dX0_dropsYellow_50 : decode cX0_dropsYellow 50 = .ok (.invokevirtual 73, 3) := by decide +kernel
theorem dX0_dropsYellow_53 : decode cX0_dropsYellow 53 = .ok (.iinc 1 (-1), 3) := by decide +kernel
theorem dX0_dropsYellow_56 : decode cX0_dropsYellow 56 = .ok (.goto (-46), 3) := by decide +kernel
theorem dX0_dropsYellow_59 : decode cX0_dropsYellow 59 = .ok (.return_, 1) := by decide +kernel
theorem dX0_tellsOf_0 : decode cX0_tellsOf 0 = .ok (.aload_n 0, 1) := by decide +kernel
theorem dX0_tellsOf_1 : decode cX0_tellsOf 1 = .ok (.getfield 33, 3) := by decide +kernel
theorem dX0_tellsOf_4 : decode cX0_tellsOf 4 = .ok (.aload_n 0, 1) := by decide +kernel
theorem dX0_tellsOf_5 : decode cX0_tellsOf 5 = .ok (.getfield 12, 3) := by decide +kernel
theorem dX0_tellsOf_8 : decode cX0_tellsOf 8 = .ok (.iload_n 1, 1) := by decide +kernel
theorem dX0_tellsOf_9 : decode cX0_tellsOf 9 = .ok (.iconst 2, 1) := by decide +kernel
theorem dX0_tellsOf_10 : decode cX0_tellsOf 10 = .ok (.invokevirtual 65, 3) := by decide +kernel
theorem dX0_tellsOf_13 : decode cX0_tellsOf 13 = .ok (.aload_n 0, 1) := by decide +kernel
theorem dX0_tellsOf_14 : decode cX0_tellsOf 14 = .ok (.getfield 12, 3) := by decide +kernel
theorem dX0_tellsOf_17 : decode cX0_tellsOf 17 = .ok (.iload_n 1, 1) := by decide +kernel
theorem dX0_tellsOf_18 : decode cX0_tellsOf 18 = .ok (.iconst 4, 1) := by decide +kernel
theorem dX0_tellsOf_19 : decode cX0_tellsOf 19 = .ok (.invokevirtual 65, 3) := by decide +kernel
theorem dX0_tellsOf_22 : decode cX0_tellsOf 22 = .ok (.aload_n 0, 1) := by decide +kernel
theorem dX0_tellsOf_23 : decode cX0_tellsOf 23 = .ok (.getfield 12, 3) := by decide +kernel
theorem dX0_tellsOf_26 : decode cX0_tellsOf 26 = .ok (.iload_n 1, 1) := by decide +kernel
theorem dX0_tellsOf_27 : decode cX0_tellsOf 27 = .ok (.iconst 1, 1) := by decide +kernel
theorem dX0_tellsOf_28 : decode cX0_tellsOf 28 = .ok (.invokevirtual 65, 3) := by decide +kernel
theorem dX0_tellsOf_31 : decode cX0_tellsOf 31 = .ok (.aload_n 0, 1) := by decide +kernel
theorem dX0_tellsOf_32 : decode cX0_tellsOf 32 = .ok (.getfield 12, 3) := by decide +kernel
theorem dX0_tellsOf_35 : decode cX0_tellsOf 35 = .ok (.iload_n 1, 1) := by decide +kernel
theorem dX0_tellsOf_36 : decode cX0_tellsOf 36 = .ok (.iconst 5, 1) := by decide +kernel
theorem dX0_tellsOf_37 : decode cX0_tellsOf 37 = .ok (.invokevirtual 65, 3) := by decide +kernel
theorem dX0_tellsOf_40 : decode cX0_tellsOf 40 = .ok (.invokevirtual 157, 3) := by decide +kernel
theorem dX0_tellsOf_43 : decode cX0_tellsOf 43 = .ok (.aload_n 0, 1) := by decide +kernel
theorem dX0_tellsOf_44 : decode cX0_tellsOf 44 = .ok (.getfield 33, 3) := by decide +kernel
theorem dX0_tellsOf_47 : decode cX0_tellsOf 47 = .ok (.aload_n 0, 1) := by decide +kernel
theorem dX0_tellsOf_48 : decode cX0_tellsOf 48 = .ok (.getfield 50, 3) := by decide +kernel
theorem dX0_tellsOf_51 : decode cX0_tellsOf 51 = .ok (.aload_n 0, 1) := by decide +kernel
theorem dX0_tellsOf_52 : decode cX0_tellsOf 52 = .ok (.getfield 25, 3) := by decide +kernel
theorem dX0_tellsOf_55 : decode cX0_tellsOf 55 = .ok (.iconst 0, 1) := by decide +kernel
theorem dX0_tellsOf_56 : decode cX0_tellsOf 56 = .ok (.iaload, 1) := by decide +kernel
theorem dX0_tellsOf_57 : decode cX0_tellsOf 57 = .ok (.invokevirtual 161, 3) := by decide +kernel
theorem dX0_tellsOf_60 : decode cX0_tellsOf 60 = .ok (.return_, 1) := by decide +kernel
theorem dX1_init_0 : decode cX1_init 0 = .ok (.aload_n 0, 1) := by decide +kernel
theorem dX1_init_1 : decode cX1_init 1 = .ok (.invokespecial 3, 3) := by decide +kernel
theorem dX1_init_4 : decode cX1_init 4 = .ok (.aload_n 0, 1) := by decide +kernel
theorem dX1_init_5 : decode cX1_init 5 = .ok (.bipush 56, 2) := by decide +kernel
theorem dX1_init_7 : decode cX1_init 7 = .ok (.newarray .int, 2) := by decide +kernel
theorem dX1_init_9 : decode cX1_init 9 = .ok (.putfield 9, 3) := by decide +kernel
theorem dX1_init_12 : decode cX1_init 12 = .ok (.return_, 1) := by decide +kernel
theorem dX1_becomes_0 : decode cX1_becomes 0 = .ok (.aload_n 0, 1) := by decide +kernel
theorem dX1_becomes_1 : decode cX1_becomes 1 = .ok (.aload_n 1, 1) := by decide +kernel
theorem dX1_becomes_2 : decode cX1_becomes 2 = .ok (.getfield 15, 3) := by decide +kernel
theorem dX1_becomes_5 : decode cX1_becomes 5 = .ok (.putfield 15, 3) := by decide +kernel
theorem dX1_becomes_8 : decode cX1_becomes 8 = .ok (.aload_n 1, 1) := by decide +kernel
theorem dX1_becomes_9 : decode cX1_becomes 9 = .ok (.getfield 9, 3) := by decide +kernel
theorem dX1_becomes_12 : decode cX1_becomes 12 = .ok (.iconst 0, 1) := by decide +kernel
theorem dX1_becomes_13 : decode cX1_becomes 13 = .ok (.aload_n 0, 1) := by decide +kernel
theorem dX1_becomes_14 : decode cX1_becomes 14 = .ok (.getfield 9, 3) := by decide +kernel
theorem dX1_becomes_17 : decode cX1_becomes 17 = .ok (.iconst 0, 1) := by decide +kernel
theorem dX1_becomes_18 : decode cX1_becomes 18 = .ok (.bipush 56, 2) := by decide +kernel
theorem dX1_becomes_20 : decode cX1_becomes 20 = .ok (.invokestatic 19, 3) := by decide +kernel
theorem dX1_becomes_23 : decode cX1_becomes 23 = .ok (.return_, 1) := by decide +kernel
theorem dX1_fact_0 : decode cX1_fact 0 = .ok (.iload_n 1, 1) := by decide +kernel
theorem dX1_fact_1 : decode cX1_fact 1 = .ok (.ifCond .lt 19, 3) := by decide +kernel
theorem dX1_fact_4 : decode cX1_fact 4 = .ok (.iload_n 1, 1) := by decide +kernel
theorem dX1_fact_5 : decode cX1_fact 5 = .ok (.bipush 8, 2) := by decide +kernel
theorem dX1_fact_7 : decode cX1_fact 7 = .ok (.if_icmp .ge 13, 3) := by decide +kernel
theorem dX1_fact_10 : decode cX1_fact 10 = .ok (.iload_n 2, 1) := by decide +kernel
theorem dX1_fact_11 : decode cX1_fact 11 = .ok (.ifCond .lt 9, 3) := by decide +kernel
theorem dX1_fact_14 : decode cX1_fact 14 = .ok (.iload_n 2, 1) := by decide +kernel
theorem dX1_fact_15 : decode cX1_fact 15 = .ok (.bipush 7, 2) := by decide +kernel
theorem dX1_fact_17 : decode cX1_fact 17 = .ok (.if_icmp .lt 5, 3) := by decide +kernel
theorem dX1_fact_20 : decode cX1_fact 20 = .ok (.iconst 0, 1) := by decide +kernel
theorem dX1_fact_21 : decode cX1_fact 21 = .ok (.ireturn, 1) := by decide +kernel
theorem dX1_fact_22 : decode cX1_fact 22 = .ok (.aload_n 0, 1) := by decide +kernel
theorem dX1_fact_23 : decode cX1_fact 23 = .ok (.getfield 9, 3) := by decide +kernel
theorem dX1_fact_26 : decode cX1_fact 26 = .ok (.iload_n 1, 1) := by decide +kernel
theorem dX1_fact_27 : decode cX1_fact 27 = .ok (.bipush 7, 2) := by decide +kernel
theorem dX1_fact_29 : decode cX1_fact 29 = .ok (.imul, 1) := by decide +kernel
theorem dX1_fact_30 : decode cX1_fact 30 = .ok (.iload_n 2, 1) := by decide +kernel
theorem dX1_fact_31 : decode cX1_fact 31 = .ok (.iadd, 1) := by decide +kernel
theorem dX1_fact_32 : decode cX1_fact 32 = .ok (.iaload, 1) := by decide +kernel
theorem dX1_fact_33 : decode cX1_fact 33 = .ok (.ireturn, 1) := by decide +kernel
theorem dX1_notes_0 : decode cX1_notes 0 = .ok (.iload_n 1, 1) := by decide +kernel
theorem dX1_notes_1 : decode cX1_notes 1 = .ok (.ifCond .lt 31, 3) := by decide +kernel
theorem dX1_notes_4 : decode cX1_notes 4 = .ok (.iload_n 1, 1) := by decide +kernel
theorem dX1_notes_5 : decode cX1_notes 5 = .ok (.bipush 8, 2) := by decide +kernel
theorem dX1_notes_7 : decode cX1_notes 7 = .ok (.if_icmp .ge 25, 3) := by decide +kernel
theorem dX1_notes_10 : decode cX1_notes 10 = .ok (.iload_n 2, 1) := by decide +kernel
theorem dX1_notes_11 : decode cX1_notes 11 = .ok (.ifCond .lt 21, 3) := by decide +kernel
theorem dX1_notes_14 : decode cX1_notes 14 = .ok (.iload_n 2, 1) := by decide +kernel
theorem dX1_notes_15 : decode cX1_notes 15 = .ok (.bipush 7, 2) := by decide +kernel
theorem dX1_notes_17 : decode cX1_notes 17 = .ok (.if_icmp .ge 15, 3) := by decide +kernel
theorem dX1_notes_20 : decode cX1_notes 20 = .ok (.aload_n 0, 1) := by decide +kernel
theorem dX1_notes_21 : decode cX1_notes 21 = .ok (.getfield 9, 3) := by decide +kernel
theorem dX1_notes_24 : decode cX1_notes 24 = .ok (.iload_n 1, 1) := by decide +kernel
theorem dX1_notes_25 : decode cX1_notes 25 = .ok (.bipush 7, 2) := by decide +kernel
theorem dX1_notes_27 : decode cX1_notes 27 = .ok (.imul, 1) := by decide +kernel
theorem dX1_notes_28 : decode cX1_notes 28 = .ok (.iload_n 2, 1) := by decide +kernel
theorem dX1_notes_29 : decode cX1_notes 29 = .ok (.iadd, 1) := by decide +kernel
theorem dX1_notes_30 : decode cX1_notes 30 = .ok (.iload_n 3, 1) := by decide +kernel
theorem dX1_notes_31 : decode cX1_notes 31 = .ok (.iastore, 1) := by decide +kernel
theorem dX1_notes_32 : decode cX1_notes 32 = .ok (.return_, 1) := by decide +kernel
theorem dX1_adds_0 : decode cX1_adds 0 = .ok (.aload_n 0, 1) := by decide +kernel
theorem dX1_adds_1 : decode cX1_adds 1 = .ok (.getfield 15, 3) := by decide +kernel
theorem dX1_adds_4 : decode cX1_adds 4 = .ok (.istore 4, 2) := by decide +kernel
theorem dX1_adds_6 : decode cX1_adds 6 = .ok (.aload_n 0, 1) := by decide +kernel
theorem dX1_adds_7 : decode cX1_adds 7 = .ok (.iload 4, 2) := by decide +kernel
theorem dX1_adds_9 : decode cX1_adds 9 = .ok (.iconst 0, 1) := by decide +kernel
theorem dX1_adds_10 : decode cX1_adds 10 = .ok (.iload_n 1, 1) := by decide +kernel
theorem dX1_adds_11 : decode cX1_adds 11 = .ok (.invokevirtual 25, 3) := by decide +kernel
theorem dX1_adds_14 : decode cX1_adds 14 = .ok (.aload_n 0, 1) := by decide +kernel
theorem dX1_adds_15 : decode cX1_adds 15 = .ok (.iload 4, 2) := by decide +kernel
theorem dX1_adds_17 : decode cX1_adds 17 = .ok (.iconst 1, 1) := by decide +kernel
theorem dX1_adds_18 : decode cX1_adds 18 = .ok (.iload_n 2, 1) := by decide +kernel
theorem dX1_adds_19 : decode cX1_adds 19 = .ok (.invokevirtual 25, 3) := by decide +kernel
theorem dX1_adds_22 : decode cX1_adds 22 = .ok (.aload_n 0, 1) := by decide +kernel
theorem dX1_adds_23 : decode cX1_adds 23 = .ok (.iload 4, 2) := by decide +kernel
theorem dX1_adds_25 : decode cX1_adds 25 = .ok (.iconst 2, 1) := by decide +kernel
theorem dX1_adds_26 : decode cX1_adds 26 = .ok (.iload_n 3, 1) := by decide +kernel
theorem dX1_adds_27 : decode cX1_adds 27 = .ok (.invokevirtual 25, 3) := by decide +kernel
theorem dX1_adds_30 : decode cX1_adds 30 = .ok (.aload_n 0, 1) := by decide +kernel
theorem dX1_adds_31 : decode cX1_adds 31 = .ok (.dup, 1) := by decide +kernel
theorem dX1_adds_32 : decode cX1_adds 32 = .ok (.getfield 15, 3) := by decide +kernel
theorem dX1_adds_35 : decode cX1_adds 35 = .ok (.iconst 1, 1) := by decide +kernel
theorem dX1_adds_36 : decode cX1_adds 36 = .ok (.iadd, 1) := by decide +kernel
theorem dX1_adds_37 : decode cX1_adds 37 = .ok (.putfield 15, 3) := by decide +kernel
theorem dX1_adds_40 : decode cX1_adds 40 = .ok (.iload 4, 2) := by decide +kernel
theorem dX1_adds_42 : decode cX1_adds 42 = .ok (.ireturn, 1) := by decide +kernel
theorem dX1_isCloths_0 : decode cX1_isCloths 0 = .ok (.aload_n 0, 1) := by decide +kernel
theorem dX1_isCloths_1 : decode cX1_isCloths 1 = .ok (.iload_n 1, 1) := by decide +kernel
theorem dX1_isCloths_2 : decode cX1_isCloths 2 = .ok (.bipush 6, 2) := by decide +kernel
theorem dX1_isCloths_4 : decode cX1_isCloths 4 = .ok (.invokevirtual 29, 3) := by decide +kernel
theorem dX1_isCloths_7 : decode cX1_isCloths 7 = .ok (.iconst (-1), 1) := by decide +kernel
theorem dX1_isCloths_8 : decode cX1_isCloths 8 = .ok (.if_icmp .ne 7, 3) := by decide +kernel
theorem dX1_isCloths_11 : decode cX1_isCloths 11 = .ok (.iconst 1, 1) := by decide +kernel
theorem dX1_isCloths_12 : decode cX1_isCloths 12 = .ok (.goto 4, 3) := by decide +kernel
theorem dX1_isCloths_15 : decode cX1_isCloths 15 = .ok (.iconst 0, 1) := by decide +kernel
theorem dX1_isCloths_16 : decode cX1_isCloths 16 = .ok (.ireturn, 1) := by decide +kernel
theorem dX1_left_0 : decode cX1_left 0 = .ok (.iconst 0, 1) := by decide +kernel
theorem dX1_left_1 : decode cX1_left 1 = .ok (.istore_n 1, 1) := by decide +kernel
theorem dX1_left_2 : decode cX1_left 2 = .ok (.iconst 0, 1) := by decide +kernel
theorem dX1_left_3 : decode cX1_left 3 = .ok (.istore_n 2, 1) := by decide +kernel
theorem dX1_left_4 : decode cX1_left 4 = .ok (.iload_n 2, 1) := by decide +kernel
theorem dX1_left_5 : decode cX1_left 5 = .ok (.aload_n 0, 1) := by decide +kernel
theorem dX1_left_6 : decode cX1_left 6 = .ok (.getfield 15, 3) := by decide +kernel
theorem dX1_left_9 : decode cX1_left 9 = .ok (.if_icmp .ge 25, 3) := by decide +kernel
theorem dX1_left_12 : decode cX1_left 12 = .ok (.iload_n 1, 1) := by decide +kernel
theorem dX1_left_13 : decode cX1_left 13 = .ok (.aload_n 0, 1) := by decide +kernel
theorem dX1_left_14 : decode cX1_left 14 = .ok (.iload_n 2, 1) := by decide +kernel
theorem dX1_left_15 : decode cX1_left 15 = .ok (.invokevirtual 33, 3) := by decide +kernel
theorem dX1_left_18 : decode cX1_left 18 = .ok (.ifCond .eq 7, 3) := by decide +kernel
theorem dX1_left_21 : decode cX1_left 21 = .ok (.iconst 0, 1) := by decide +kernel
theorem dX1_left_22 : decode cX1_left 22 = .ok (.goto 4, 3) := by decide +kernel
theorem dX1_left_25 : decode cX1_left 25 = .ok (.iconst 1, 1) := by decide +kernel
theorem dX1_left_26 : decode cX1_left 26 = .ok (.iadd, 1) := by decide +kernel
theorem dX1_left_27 : decode cX1_left 27 = .ok (.istore_n 1, 1) := by decide +kernel
theorem dX1_left_28 : decode cX1_left 28 = .ok (.iinc 2 1, 3) := by decide +kernel
theorem dX1_left_31 : decode cX1_left 31 = .ok (.goto (-27), 3) := by decide +kernel
theorem dX1_left_34 : decode cX1_left 34 = .ok (.iload_n 1, 1) := by decide +kernel
theorem dX1_left_35 : decode cX1_left 35 = .ok (.ireturn, 1) := by decide +kernel
theorem dX1_mostWorn_0 : decode cX1_mostWorn 0 = .ok (.iconst (-1), 1) := by decide +kernel
theorem dX1_mostWorn_1 : decode cX1_mostWorn 1 = .ok (.istore_n 1, 1) := by decide +kernel
theorem dX1_mostWorn_2 : decode cX1_mostWorn 2 = .ok (.iconst 0, 1) := by decide +kernel
theorem dX1_mostWorn_3 : decode cX1_mostWorn 3 = .ok (.istore_n 2, 1) := by decide +kernel
theorem dX1_mostWorn_4 : decode cX1_mostWorn 4 = .ok (.iload_n 2, 1) := by decide +kernel
theorem dX1_mostWorn_5 : decode cX1_mostWorn 5 = .ok (.aload_n 0, 1) := by decide +kernel
theorem dX1_mostWorn_6 : decode cX1_mostWorn 6 = .ok (.getfield 15, 3) := by decide +kernel
theorem dX1_mostWorn_9 : decode cX1_mostWorn 9 = .ok (.if_icmp .ge 20, 3) := by decide +kernel
theorem dX1_mostWorn_12 : decode cX1_mostWorn 12 = .ok (.iload_n 1, 1) := by decide +kernel
theorem dX1_mostWorn_13 : decode cX1_mostWorn 13 = .ok (.aload_n 0, 1) := by decide +kernel
theorem dX1_mostWorn_14 : decode cX1_mostWorn 14 = .ok (.iload_n 2, 1) := by decide +kernel
theorem dX1_mostWorn_15 : decode cX1_mostWorn 15 = .ok (.iconst 2, 1) := by decide +kernel
theorem dX1_mostWorn_16 : decode cX1_mostWorn 16 = .ok (.invokevirtual 29, 3) := by decide +kernel
theorem dX1_mostWorn_19 : decode cX1_mostWorn 19 = .ok (.invokestatic 37, 3) := by decide +kernel
theorem dX1_mostWorn_22 : decode cX1_mostWorn 22 = .ok (.istore_n 1, 1) := by decide +kernel
theorem dX1_mostWorn_23 : decode cX1_mostWorn 23 = .ok (.iinc 2 1, 3) := by decide +kernel
theorem dX1_mostWorn_26 : decode cX1_mostWorn 26 = .ok (.goto (-22), 3) := by decide +kernel
theorem dX1_mostWorn_29 : decode cX1_mostWorn 29 = .ok (.iload_n 1, 1) := by decide +kernel
theorem dX1_mostWorn_30 : decode cX1_mostWorn 30 = .ok (.ireturn, 1) := by decide +kernel
theorem dX1_wornOfAll_0 : decode cX1_wornOfAll 0 = .ok (.iconst 0, 1) := by decide +kernel
theorem dX1_wornOfAll_1 : decode cX1_wornOfAll 1 = .ok (.istore_n 1, 1) := by decide +kernel
theorem dX1_wornOfAll_2 : decode cX1_wornOfAll 2 = .ok (.iconst 0, 1) := by decide +kernel
theorem dX1_wornOfAll_3 : decode cX1_wornOfAll 3 = .ok (.istore_n 2, 1) := by decide +kernel
theorem dX1_wornOfAll_4 : decode cX1_wornOfAll 4 = .ok (.iload_n 2, 1) := by decide +kernel
theorem dX1_wornOfAll_5 : decode cX1_wornOfAll 5 = .ok (.aload_n 0, 1) := by decide +kernel
theorem dX1_wornOfAll_6 : decode cX1_wornOfAll 6 = .ok (.getfield 15, 3) := by decide +kernel
theorem dX1_wornOfAll_9 : decode cX1_wornOfAll 9 = .ok (.if_icmp .ge 18, 3) := by decide +kernel
theorem dX1_wornOfAll_12 : decode cX1_wornOfAll 12 = .ok (.iload_n 1, 1) := by decide +kernel
theorem dX1_wornOfAll_13 : decode cX1_wornOfAll 13 = .ok (.aload_n 0, 1) := by decide +kernel
theorem dX1_wornOfAll_14 : decode cX1_wornOfAll 14 = .ok (.iload_n 2, 1) := by decide +kernel
theorem dX1_wornOfAll_15 : decode cX1_wornOfAll 15 = .ok (.iconst 2, 1) := by decide +kernel
theorem dX1_wornOfAll_16 : decode cX1_wornOfAll 16 = .ok (.invokevirtual 29, 3) := by decide +kernel
theorem dX1_wornOfAll_19 : decode cX1_wornOfAll 19 = .ok (.iadd, 1) := by decide +kernel
theorem dX1_wornOfAll_20 : decode cX1_wornOfAll 20 = .ok (.istore_n 1, 1) := by decide +kernel
theorem dX1_wornOfAll_21 : decode cX1_wornOfAll 21 = .ok (.iinc 2 1, 3) := by decide +kernel
theorem dX1_wornOfAll_24 : decode cX1_wornOfAll 24 = .ok (.goto (-20), 3) := by decide +kernel
theorem dX1_wornOfAll_27 : decode cX1_wornOfAll 27 = .ok (.iload_n 1, 1) := by decide +kernel
theorem dX1_wornOfAll_28 : decode cX1_wornOfAll 28 = .ok (.ireturn, 1) := by decide +kernel
theorem dX1_isOne_0 : decode cX1_isOne 0 = .ok (.aload_n 0, 1) := by decide +kernel
theorem dX1_isOne_1 : decode cX1_isOne 1 = .ok (.iload_n 1, 1) := by decide +kernel
theorem dX1_isOne_2 : decode cX1_isOne 2 = .ok (.iconst 0, 1) := by decide +kernel
theorem dX1_isOne_3 : decode cX1_isOne 3 = .ok (.invokevirtual 29, 3) := by decide +kernel
theorem dX1_isOne_6 : decode cX1_isOne 6 = .ok (.istore_n 3, 1) := by decide +kernel
theorem dX1_isOne_7 : decode cX1_isOne 7 = .ok (.iload_n 3, 1) := by decide +kernel
theorem dX1_isOne_8 : decode cX1_isOne 8 = .ok (.iload_n 2, 1) := by decide +kernel
theorem dX1_isOne_9 : decode cX1_isOne 9 = .ok (.if_icmp .eq 27, 3) := by decide +kernel
theorem dX1_isOne_12 : decode cX1_isOne 12 = .ok (.iload_n 2, 1) := by decide +kernel
theorem dX1_isOne_13 : decode cX1_isOne 13 = .ok (.ifCond .eq 23, 3) := by decide +kernel
theorem dX1_isOne_16 : decode cX1_isOne 16 = .ok (.iload_n 3, 1) := by decide +kernel
theorem dX1_isOne_17 : decode cX1_isOne 17 = .ok (.iconst 3, 1) := by decide +kernel
theorem dX1_isOne_18 : decode cX1_isOne 18 = .ok (.if_icmp .ne 8, 3) := by decide +kernel
theorem dX1_isOne_21 : decode cX1_isOne 21 = .ok (.iload_n 2, 1) := by decide +kernel
theorem dX1_isOne_22 : decode cX1_isOne 22 = .ok (.iconst 1, 1) := by decide +kernel
theorem dX1_isOne_23 : decode cX1_isOne 23 = .ok (.if_icmp .eq 13, 3) := by decide +kernel
theorem dX1_isOne_26 : decode cX1_isOne 26 = .ok (.iload_n 3, 1) := by decide +kernel
theorem dX1_isOne_27 : decode cX1_isOne 27 = .ok (.iconst 4, 1) := by decide +kernel
theorem dX1_isOne_28 : decode cX1_isOne 28 = .ok (.if_icmp .ne 12, 3) := by decide +kernel
theorem dX1_isOne_31 : decode cX1_isOne 31 = .ok (.iload_n 2, 1) := by decide +kernel
theorem dX1_isOne_32 : decode cX1_isOne 32 = .ok (.iconst 2, 1) := by decide +kernel
theorem dX1_isOne_33 : decode cX1_isOne 33 = .ok (.if_icmp .ne 7, 3) := by decide +kernel
theorem dX1_isOne_36 : decode cX1_isOne 36 = .ok (.iconst 1, 1) := by decide +kernel
theorem dX1_isOne_37 : decode cX1_isOne 37 = .ok (.goto 4, 3) := by decide +kernel
theorem dX1_isOne_40 : decode cX1_isOne 40 = .ok (.iconst 0, 1) := by decide +kernel
theorem dX1_isOne_41 : decode cX1_isOne 41 = .ok (.ireturn, 1) := by decide +kernel
theorem dX1_lasts_0 : decode cX1_lasts 0 = .ok (.aload_n 0, 1) := by decide +kernel
theorem dX1_lasts_1 : decode cX1_lasts 1 = .ok (.iload_n 1, 1) := by decide +kernel
theorem dX1_lasts_2 : decode cX1_lasts 2 = .ok (.iconst 1, 1) := by decide +kernel
theorem dX1_lasts_3 : decode cX1_lasts 3 = .ok (.invokevirtual 29, 3) := by decide +kernel
theorem dX1_lasts_6 : decode cX1_lasts 6 = .ok (.istore_n 2, 1) := by decide +kernel
theorem dX1_lasts_7 : decode cX1_lasts 7 = .ok (.aload_n 0, 1) := by decide +kernel
theorem dX1_lasts_8 : decode cX1_lasts 8 = .ok (.iload_n 1, 1) := by decide +kernel
theorem dX1_lasts_9 : decode cX1_lasts 9 = .ok (.iconst 0, 1) := by decide +kernel
theorem dX1_lasts_10 : decode cX1_lasts 10 = .ok (.invokevirtual 29, 3) := by decide +kernel
theorem dX1_lasts_13 : decode cX1_lasts 13 = .ok (.tableswitch 67 2 5 #[31, 40, 49, 58], 31) := by decide +kernel
theorem dX1_lasts_44 : decode cX1_lasts 44 = .ok (.sipush 400, 3) := by decide +kernel
theorem dX1_lasts_47 : decode cX1_lasts 47 = .ok (.bipush 20, 2) := by decide +kernel
theorem dX1_lasts_49 : decode cX1_lasts 49 = .ok (.iload_n 2, 1) := by decide +kernel
theorem dX1_lasts_50 : decode cX1_lasts 50 = .ok (.imul, 1) := by decide +kernel
theorem dX1_lasts_51 : decode cX1_lasts 51 = .ok (.isub, 1) := by decide +kernel
theorem dX1_lasts_52 : decode cX1_lasts 52 = .ok (.ireturn, 1) := by decide +kernel
theorem dX1_lasts_53 : decode cX1_lasts 53 = .ok (.sipush 400, 3) := by decide +kernel
theorem dX1_lasts_56 : decode cX1_lasts 56 = .ok (.bipush 10, 2) := by decide +kernel
theorem dX1_lasts_58 : decode cX1_lasts 58 = .ok (.iload_n 2, 1) := by decide +kernel
theorem dX1_lasts_59 : decode cX1_lasts 59 = .ok (.imul, 1) := by decide +kernel
theorem dX1_lasts_60 : decode cX1_lasts 60 = .ok (.iadd, 1) := by decide +kernel
theorem dX1_lasts_61 : decode cX1_lasts 61 = .ok (.ireturn, 1) := by decide +kernel
theorem dX1_lasts_62 : decode cX1_lasts 62 = .ok (.sipush 500, 3) := by decide +kernel
theorem dX1_lasts_65 : decode cX1_lasts 65 = .ok (.bipush 20, 2) := by decide +kernel
theorem dX1_lasts_67 : decode cX1_lasts 67 = .ok (.iload_n 2, 1) := by decide +kernel
theorem dX1_lasts_68 : decode cX1_lasts 68 = .ok (.imul, 1) := by decide +kernel
theorem dX1_lasts_69 : decode cX1_lasts 69 = .ok (.isub, 1) := by decide +kernel
theorem dX1_lasts_70 : decode cX1_lasts 70 = .ok (.ireturn, 1) := by decide +kernel
theorem dX1_lasts_71 : decode cX1_lasts 71 = .ok (.sipush 150, 3) := by decide +kernel
theorem dX1_lasts_74 : decode cX1_lasts 74 = .ok (.bipush 10, 2) := by decide +kernel
theorem dX1_lasts_76 : decode cX1_lasts 76 = .ok (.iload_n 2, 1) := by decide +kernel
theorem dX1_lasts_77 : decode cX1_lasts 77 = .ok (.imul, 1) := by decide +kernel
theorem dX1_lasts_78 : decode cX1_lasts 78 = .ok (.iadd, 1) := by decide +kernel
theorem dX1_lasts_79 : decode cX1_lasts 79 = .ok (.ireturn, 1) := by decide +kernel
theorem dX1_lasts_80 : decode cX1_lasts 80 = .ok (.sipush 400, 3) := by decide +kernel
theorem dX1_lasts_83 : decode cX1_lasts 83 = .ok (.ireturn, 1) := by decide +kernel
theorem dX1_wearsBy_0 : decode cX1_wearsBy 0 = .ok (.aload_n 0, 1) := by decide +kernel
theorem dX1_wearsBy_1 : decode cX1_wearsBy 1 = .ok (.iload_n 1, 1) := by decide +kernel
theorem dX1_wearsBy_2 : decode cX1_wearsBy 2 = .ok (.iconst 1, 1) := by decide +kernel
theorem dX1_wearsBy_3 : decode cX1_wearsBy 3 = .ok (.invokevirtual 29, 3) := by decide +kernel
theorem dX1_wearsBy_6 : decode cX1_wearsBy 6 = .ok (.istore_n 3, 1) := by decide +kernel
theorem dX1_wearsBy_7 : decode cX1_wearsBy 7 = .ok (.aload_n 0, 1) := by decide +kernel
theorem dX1_wearsBy_8 : decode cX1_wearsBy 8 = .ok (.iload_n 1, 1) := by decide +kernel
theorem dX1_wearsBy_9 : decode cX1_wearsBy 9 = .ok (.iconst 2, 1) := by decide +kernel
theorem dX1_wearsBy_10 : decode cX1_wearsBy 10 = .ok (.invokevirtual 29, 3) := by decide +kernel
theorem dX1_wearsBy_13 : decode cX1_wearsBy 13 = .ok (.sipush 200, 3) := by decide +kernel
theorem dX1_wearsBy_16 : decode cX1_wearsBy 16 = .ok (.if_icmp .le 7, 3) := by decide +kernel
theorem dX1_wearsBy_19 : decode cX1_wearsBy 19 = .ok (.iload_n 3, 1) := by decide +kernel
theorem dX1_wearsBy_20 : decode cX1_wearsBy 20 = .ok (.goto 4, 3) := by decide +kernel
theorem dX1_wearsBy_23 : decode cX1_wearsBy 23 = .ok (.iconst 0, 1) := by decide +kernel
theorem dX1_wearsBy_24 : decode cX1_wearsBy 24 = .ok (.istore 4, 2) := by decide +kernel
theorem dX1_wearsBy_26 : decode cX1_wearsBy 26 = .ok (.aload_n 0, 1) := by decide +kernel
theorem dX1_wearsBy_27 : decode cX1_wearsBy 27 = .ok (.iload_n 1, 1) := by decide +kernel
theorem dX1_wearsBy_28 : decode cX1_wearsBy 28 = .ok (.iconst 0, 1) := by decide +kernel
theorem dX1_wearsBy_29 : decode cX1_wearsBy 29 = .ok (.invokevirtual 29, 3) := by decide +kernel
theorem dX1_wearsBy_32 : decode cX1_wearsBy 32 = .ok (.tableswitch 62 1 5 #[36, 46, 36, 51, 58], 36) := by decide +kernel
theorem dX1_wearsBy_68 : decode cX1_wearsBy 68 = .ok (.iconst 0, 1) := by decide +kernel
theorem dX1_wearsBy_69 : decode cX1_wearsBy 69 = .ok (.iload_n 2, 1) := by decide +kernel
theorem dX1_wearsBy_70 : decode cX1_wearsBy 70 = .ok (.iload_n 3, 1) := by decide +kernel
theorem dX1_wearsBy_71 : decode cX1_wearsBy 71 = .ok (.iconst 2, 1) := by decide +kernel
theorem dX1_wearsBy_72 : decode cX1_wearsBy 72 = .ok (.idiv, 1) := by decide +kernel
theorem dX1_wearsBy_73 : decode cX1_wearsBy 73 = .ok (.isub, 1) := by decide +kernel
theorem dX1_wearsBy_74 : decode cX1_wearsBy 74 = .ok (.invokestatic 37, 3) := by decide +kernel
theorem dX1_wearsBy_77 : decode cX1_wearsBy 77 = .ok (.ireturn, 1) := by decide +kernel
theorem dX1_wearsBy_78 : decode cX1_wearsBy 78 = .ok (.iload_n 2, 1) := by decide +kernel
theorem dX1_wearsBy_79 : decode cX1_wearsBy 79 = .ok (.iload 4, 2) := by decide +kernel
theorem dX1_wearsBy_81 : decode cX1_wearsBy 81 = .ok (.iadd, 1) := by decide +kernel
theorem dX1_wearsBy_82 : decode cX1_wearsBy 82 = .ok (.ireturn, 1) := by decide +kernel
theorem dX1_wearsBy_83 : decode cX1_wearsBy 83 = .ok (.iload_n 2, 1) := by decide +kernel
theorem dX1_wearsBy_84 : decode cX1_wearsBy 84 = .ok (.iload 4, 2) := by decide +kernel
theorem dX1_wearsBy_86 : decode cX1_wearsBy 86 = .ok (.iadd, 1) := by decide +kernel
theorem dX1_wearsBy_87 : decode cX1_wearsBy 87 = .ok (.iconst 2, 1) := by decide +kernel
theorem dX1_wearsBy_88 : decode cX1_wearsBy 88 = .ok (.iadd, 1) := by decide +kernel
theorem dX1_wearsBy_89 : decode cX1_wearsBy 89 = .ok (.ireturn, 1) := by decide +kernel
theorem dX1_wearsBy_90 : decode cX1_wearsBy 90 = .ok (.iload_n 2, 1) := by decide +kernel
theorem dX1_wearsBy_91 : decode cX1_wearsBy 91 = .ok (.iconst 2, 1) := by decide +kernel
theorem dX1_wearsBy_92 : decode cX1_wearsBy 92 = .ok (.idiv, 1) := by decide +kernel
theorem dX1_wearsBy_93 : decode cX1_wearsBy 93 = .ok (.ireturn, 1) := by decide +kernel
theorem dX1_wearsBy_94 : decode cX1_wearsBy 94 = .ok (.iload_n 2, 1) := by decide +kernel
theorem dX1_wearsBy_95 : decode cX1_wearsBy 95 = .ok (.ireturn, 1) := by decide +kernel
theorem dX1_yellowsBy_0 : decode cX1_yellowsBy 0 = .ok (.aload_n 0, 1) := by decide +kernel
theorem dX1_yellowsBy_1 : decode cX1_yellowsBy 1 = .ok (.iload_n 1, 1) := by decide +kernel
theorem dX1_yellowsBy_2 : decode cX1_yellowsBy 2 = .ok (.iconst 0, 1) := by decide +kernel
theorem dX1_yellowsBy_3 : decode cX1_yellowsBy 3 = .ok (.invokevirtual 29, 3) := by decide +kernel
theorem dX1_yellowsBy_6 : decode cX1_yellowsBy 6 = .ok (.lookupswitch 53 #[(1, 26), (3, 30)], 26) := by decide +kernel
theorem dX1_yellowsBy_32 : decode cX1_yellowsBy 32 = .ok (.iload_n 2, 1) := by decide +kernel
theorem dX1_yellowsBy_33 : decode cX1_yellowsBy 33 = .ok (.iconst 1, 1) := by decide +kernel
theorem dX1_yellowsBy_34 : decode cX1_yellowsBy 34 = .ok (.iadd, 1) := by decide +kernel
theorem dX1_yellowsBy_35 : decode cX1_yellowsBy 35 = .ok (.ireturn, 1) := by decide +kernel
theorem dX1_yellowsBy_36 : decode cX1_yellowsBy 36 = .ok (.aload_n 0, 1) := by decide +kernel
theorem dX1_yellowsBy_37 : decode cX1_yellowsBy 37 = .ok (.iload_n 1, 1) := by decide +kernel
theorem dX1_yellowsBy_38 : decode cX1_yellowsBy 38 = .ok (.iconst 4, 1) := by decide +kernel
theorem dX1_yellowsBy_39 : decode cX1_yellowsBy 39 = .ok (.invokevirtual 29, 3) := by decide +kernel
theorem dX1_yellowsBy_42 : decode cX1_yellowsBy 42 = .ok (.bipush 10, 2) := by decide +kernel
theorem dX1_yellowsBy_44 : decode cX1_yellowsBy 44 = .ok (.if_icmp .le 11, 3) := by decide +kernel
theorem dX1_yellowsBy_47 : decode cX1_yellowsBy 47 = .ok (.iconst 2, 1) := by decide +kernel
theorem dX1_yellowsBy_48 : decode cX1_yellowsBy 48 = .ok (.iload_n 2, 1) := by decide +kernel
theorem dX1_yellowsBy_49 : decode cX1_yellowsBy 49 = .ok (.iconst 1, 1) := by decide +kernel
theorem dX1_yellowsBy_50 : decode cX1_yellowsBy 50 = .ok (.iadd, 1) := by decide +kernel
theorem dX1_yellowsBy_51 : decode cX1_yellowsBy 51 = .ok (.imul, 1) := by decide +kernel
theorem dX1_yellowsBy_52 : decode cX1_yellowsBy 52 = .ok (.goto 6, 3) := by decide +kernel
theorem dX1_yellowsBy_55 : decode cX1_yellowsBy 55 = .ok (.iload_n 2, 1) := by decide +kernel
theorem dX1_yellowsBy_56 : decode cX1_yellowsBy 56 = .ok (.iconst 1, 1) := by decide +kernel
theorem dX1_yellowsBy_57 : decode cX1_yellowsBy 57 = .ok (.iadd, 1) := by decide +kernel
theorem dX1_yellowsBy_58 : decode cX1_yellowsBy 58 = .ok (.ireturn, 1) := by decide +kernel
theorem dX1_yellowsBy_59 : decode cX1_yellowsBy 59 = .ok (.iload_n 2, 1) := by decide +kernel
theorem dX1_yellowsBy_60 : decode cX1_yellowsBy 60 = .ok (.ireturn, 1) := by decide +kernel
theorem dX2_init_0 : decode cX2_init 0 = .ok (.aload_n 0, 1) := by decide +kernel
theorem dX2_init_1 : decode cX2_init 1 = .ok (.invokespecial 3, 3) := by decide +kernel
theorem dX2_init_4 : decode cX2_init 4 = .ok (.aload_n 0, 1) := by decide +kernel
theorem dX2_init_5 : decode cX2_init 5 = .ok (.bipush 8, 2) := by decide +kernel
theorem dX2_init_7 : decode cX2_init 7 = .ok (.newarray .int, 2) := by decide +kernel
theorem dX2_init_9 : decode cX2_init 9 = .ok (.putfield 9, 3) := by decide +kernel
theorem dX2_init_12 : decode cX2_init 12 = .ok (.return_, 1) := by decide +kernel
theorem dX2_becomes_0 : decode cX2_becomes 0 = .ok (.aload_n 0, 1) := by decide +kernel
theorem dX2_becomes_1 : decode cX2_becomes 1 = .ok (.aload_n 1, 1) := by decide +kernel
theorem dX2_becomes_2 : decode cX2_becomes 2 = .ok (.getfield 15, 3) := by decide +kernel
theorem dX2_becomes_5 : decode cX2_becomes 5 = .ok (.putfield 15, 3) := by decide +kernel
theorem dX2_becomes_8 : decode cX2_becomes 8 = .ok (.aload_n 1, 1) := by decide +kernel
theorem dX2_becomes_9 : decode cX2_becomes 9 = .ok (.getfield 9, 3) := by decide +kernel
theorem dX2_becomes_12 : decode cX2_becomes 12 = .ok (.iconst 0, 1) := by decide +kernel
theorem dX2_becomes_13 : decode cX2_becomes 13 = .ok (.aload_n 0, 1) := by decide +kernel
theorem dX2_becomes_14 : decode cX2_becomes 14 = .ok (.getfield 9, 3) := by decide +kernel
theorem dX2_becomes_17 : decode cX2_becomes 17 = .ok (.iconst 0, 1) := by decide +kernel
theorem dX2_becomes_18 : decode cX2_becomes 18 = .ok (.bipush 8, 2) := by decide +kernel
theorem dX2_becomes_20 : decode cX2_becomes 20 = .ok (.invokestatic 19, 3) := by decide +kernel
theorem dX2_becomes_23 : decode cX2_becomes 23 = .ok (.return_, 1) := by decide +kernel
theorem dX2_isPlace_0 : decode cX2_isPlace 0 = .ok (.iload_n 1, 1) := by decide +kernel
theorem dX2_isPlace_1 : decode cX2_isPlace 1 = .ok (.ifCond .lt 21, 3) := by decide +kernel
theorem dX2_isPlace_4 : decode cX2_isPlace 4 = .ok (.iload_n 1, 1) := by decide +kernel
theorem dX2_isPlace_5 : decode cX2_isPlace 5 = .ok (.aload_n 0, 1) := by decide +kernel
theorem dX2_isPlace_6 : decode cX2_isPlace 6 = .ok (.getfield 15, 3) := by decide +kernel
theorem dX2_isPlace_9 : decode cX2_isPlace 9 = .ok (.if_icmp .ge 13, 3) := by decide +kernel
theorem dX2_isPlace_12 : decode cX2_isPlace 12 = .ok (.iload_n 1, 1) := by decide +kernel
theorem dX2_isPlace_13 : decode cX2_isPlace 13 = .ok (.bipush 8, 2) := by decide +kernel
theorem dX2_isPlace_15 : decode cX2_isPlace 15 = .ok (.if_icmp .ge 7, 3) := by decide +kernel
theorem dX2_isPlace_18 : decode cX2_isPlace 18 = .ok (.iconst 1, 1) := by decide +kernel
theorem dX2_isPlace_19 : decode cX2_isPlace 19 = .ok (.goto 4, 3) := by decide +kernel
theorem dX2_isPlace_22 : decode cX2_isPlace 22 = .ok (.iconst 0, 1) := by decide +kernel
theorem dX2_isPlace_23 : decode cX2_isPlace 23 = .ok (.ireturn, 1) := by decide +kernel
theorem dX2_at_0 : decode cX2_at 0 = .ok (.iload_n 1, 1) := by decide +kernel
theorem dX2_at_1 : decode cX2_at 1 = .ok (.ifCond .lt 26, 3) := by decide +kernel
theorem dX2_at_4 : decode cX2_at 4 = .ok (.iload_n 1, 1) := by decide +kernel
theorem dX2_at_5 : decode cX2_at 5 = .ok (.aload_n 0, 1) := by decide +kernel
theorem dX2_at_6 : decode cX2_at 6 = .ok (.getfield 15, 3) := by decide +kernel
theorem dX2_at_9 : decode cX2_at 9 = .ok (.if_icmp .ge 18, 3) := by decide +kernel
theorem dX2_at_12 : decode cX2_at 12 = .ok (.iload_n 1, 1) := by decide +kernel
theorem dX2_at_13 : decode cX2_at 13 = .ok (.bipush 8, 2) := by decide +kernel
theorem dX2_at_15 : decode cX2_at 15 = .ok (.if_icmp .ge 12, 3) := by decide +kernel
theorem dX2_at_18 : decode cX2_at 18 = .ok (.aload_n 0, 1) := by decide +kernel
theorem dX2_at_19 : decode cX2_at 19 = .ok (.getfield 9, 3) := by decide +kernel
theorem dX2_at_22 : decode cX2_at 22 = .ok (.iload_n 1, 1) := by decide +kernel
theorem dX2_at_23 : decode cX2_at 23 = .ok (.iaload, 1) := by decide +kernel
theorem dX2_at_24 : decode cX2_at 24 = .ok (.goto 4, 3) := by decide +kernel
theorem dX2_at_27 : decode cX2_at 27 = .ok (.iconst (-1), 1) := by decide +kernel
theorem dX2_at_28 : decode cX2_at 28 = .ok (.ireturn, 1) := by decide +kernel
theorem dX2_placeOf_0 : decode cX2_placeOf 0 = .ok (.iconst 0, 1) := by decide +kernel
theorem dX2_placeOf_1 : decode cX2_placeOf 1 = .ok (.istore_n 2, 1) := by decide +kernel
theorem dX2_placeOf_2 : decode cX2_placeOf 2 = .ok (.iload_n 2, 1) := by decide +kernel
theorem dX2_placeOf_3 : decode cX2_placeOf 3 = .ok (.aload_n 0, 1) := by decide +kernel
theorem dX2_placeOf_4 : decode cX2_placeOf 4 = .ok (.getfield 15, 3) := by decide +kernel
theorem dX2_placeOf_7 : decode cX2_placeOf 7 = .ok (.if_icmp .ge 20, 3) := by decide +kernel
theorem dX2_placeOf_10 : decode cX2_placeOf 10 = .ok (.aload_n 0, 1) := by decide +kernel
theorem dX2_placeOf_11 : decode cX2_placeOf 11 = .ok (.iload_n 2, 1) := by decide +kernel
theorem dX2_placeOf_12 : decode cX2_placeOf 12 = .ok (.invokevirtual 25, 3) := by decide +kernel
theorem dX2_placeOf_15 : decode cX2_placeOf 15 = .ok (.iload_n 1, 1) := by decide +kernel
theorem dX2_placeOf_16 : decode cX2_placeOf 16 = .ok (.if_icmp .ne 5, 3) := by decide +kernel
theorem dX2_placeOf_19 : decode cX2_placeOf 19 = .ok (.iload_n 2, 1) := by decide +kernel
theorem dX2_placeOf_20 : decode cX2_placeOf 20 = .ok (.ireturn, 1) := by decide +kernel
theorem dX2_placeOf_21 : decode cX2_placeOf 21 = .ok (.iinc 2 1, 3) := by decide +kernel
theorem dX2_placeOf_24 : decode cX2_placeOf 24 = .ok (.goto (-22), 3) := by decide +kernel
theorem dX2_placeOf_27 : decode cX2_placeOf 27 = .ok (.iconst (-1), 1) := by decide +kernel
theorem dX2_placeOf_28 : decode cX2_placeOf 28 = .ok (.ireturn, 1) := by decide +kernel
theorem dX2_insertsAt_0 : decode cX2_insertsAt 0 = .ok (.iload_n 1, 1) := by decide +kernel
theorem dX2_insertsAt_1 : decode cX2_insertsAt 1 = .ok (.ifCond .lt 20, 3) := by decide +kernel
theorem dX2_insertsAt_4 : decode cX2_insertsAt 4 = .ok (.iload_n 1, 1) := by decide +kernel
theorem dX2_insertsAt_5 : decode cX2_insertsAt 5 = .ok (.aload_n 0, 1) := by decide +kernel
theorem dX2_insertsAt_6 : decode cX2_insertsAt 6 = .ok (.getfield 15, 3) := by decide +kernel
theorem dX2_insertsAt_9 : decode cX2_insertsAt 9 = .ok (.if_icmp .gt 12, 3) := by decide +kernel
theorem dX2_insertsAt_12 : decode cX2_insertsAt 12 = .ok (.aload_n 0, 1) := by decide +kernel
theorem dX2_insertsAt_13 : decode cX2_insertsAt 13 = .ok (.getfield 15, 3) := by decide +kernel
theorem dX2_insertsAt_16 : decode cX2_insertsAt 16 = .ok (.bipush 8, 2) := by decide +kernel
theorem dX2_insertsAt_18 : decode cX2_insertsAt 18 = .ok (.if_icmp .lt 4, 3) := by decide +kernel
theorem dX2_insertsAt_21 : decode cX2_insertsAt 21 = .ok (.return_, 1) := by decide +kernel
theorem dX2_insertsAt_22 : decode cX2_insertsAt 22 = .ok (.aload_n 0, 1) := by decide +kernel
theorem dX2_insertsAt_23 : decode cX2_insertsAt 23 = .ok (.getfield 9, 3) := by decide +kernel
theorem dX2_insertsAt_26 : decode cX2_insertsAt 26 = .ok (.iload_n 1, 1) := by decide +kernel
theorem dX2_insertsAt_27 : decode cX2_insertsAt 27 = .ok (.aload_n 0, 1) := by decide +kernel
theorem dX2_insertsAt_28 : decode cX2_insertsAt 28 = .ok (.getfield 9, 3) := by decide +kernel
theorem dX2_insertsAt_31 : decode cX2_insertsAt 31 = .ok (.iload_n 1, 1) := by decide +kernel
theorem dX2_insertsAt_32 : decode cX2_insertsAt 32 = .ok (.iconst 1, 1) := by decide +kernel
theorem dX2_insertsAt_33 : decode cX2_insertsAt 33 = .ok (.iadd, 1) := by decide +kernel
theorem dX2_insertsAt_34 : decode cX2_insertsAt 34 = .ok (.aload_n 0, 1) := by decide +kernel
theorem dX2_insertsAt_35 : decode cX2_insertsAt 35 = .ok (.getfield 15, 3) := by decide +kernel
theorem dX2_insertsAt_38 : decode cX2_insertsAt 38 = .ok (.iload_n 1, 1) := by decide +kernel
theorem dX2_insertsAt_39 : decode cX2_insertsAt 39 = .ok (.isub, 1) := by decide +kernel
theorem dX2_insertsAt_40 : decode cX2_insertsAt 40 = .ok (.invokestatic 19, 3) := by decide +kernel
theorem dX2_insertsAt_43 : decode cX2_insertsAt 43 = .ok (.aload_n 0, 1) := by decide +kernel
theorem dX2_insertsAt_44 : decode cX2_insertsAt 44 = .ok (.getfield 9, 3) := by decide +kernel
theorem dX2_insertsAt_47 : decode cX2_insertsAt 47 = .ok (.iload_n 1, 1) := by decide +kernel
theorem dX2_insertsAt_48 : decode cX2_insertsAt 48 = .ok (.iload_n 2, 1) := by decide +kernel
theorem dX2_insertsAt_49 : decode cX2_insertsAt 49 = .ok (.iastore, 1) := by decide +kernel
theorem dX2_insertsAt_50 : decode cX2_insertsAt 50 = .ok (.aload_n 0, 1) := by decide +kernel
theorem dX2_insertsAt_51 : decode cX2_insertsAt 51 = .ok (.dup, 1) := by decide +kernel
theorem dX2_insertsAt_52 : decode cX2_insertsAt 52 = .ok (.getfield 15, 3) := by decide +kernel
theorem dX2_insertsAt_55 : decode cX2_insertsAt 55 = .ok (.iconst 1, 1) := by decide +kernel
theorem dX2_insertsAt_56 : decode cX2_insertsAt 56 = .ok (.iadd, 1) := by decide +kernel
theorem dX2_insertsAt_57 : decode cX2_insertsAt 57 = .ok (.putfield 15, 3) := by decide +kernel
theorem dX2_insertsAt_60 : decode cX2_insertsAt 60 = .ok (.return_, 1) := by decide +kernel
theorem dX2_removesAt_0 : decode cX2_removesAt 0 = .ok (.iload_n 1, 1) := by decide +kernel
theorem dX2_removesAt_1 : decode cX2_removesAt 1 = .ok (.ifCond .lt 20, 3) := by decide +kernel
theorem dX2_removesAt_4 : decode cX2_removesAt 4 = .ok (.iload_n 1, 1) := by decide +kernel
theorem dX2_removesAt_5 : decode cX2_removesAt 5 = .ok (.aload_n 0, 1) := by decide +kernel
theorem dX2_removesAt_6 : decode cX2_removesAt 6 = .ok (.getfield 15, 3) := by decide +kernel
theorem dX2_removesAt_9 : decode cX2_removesAt 9 = .ok (.if_icmp .ge 12, 3) := by decide +kernel
theorem dX2_removesAt_12 : decode cX2_removesAt 12 = .ok (.aload_n 0, 1) := by decide +kernel
theorem dX2_removesAt_13 : decode cX2_removesAt 13 = .ok (.getfield 15, 3) := by decide +kernel
theorem dX2_removesAt_16 : decode cX2_removesAt 16 = .ok (.bipush 8, 2) := by decide +kernel
theorem dX2_removesAt_18 : decode cX2_removesAt 18 = .ok (.if_icmp .le 5, 3) := by decide +kernel
theorem dX2_removesAt_21 : decode cX2_removesAt 21 = .ok (.iconst (-1), 1) := by decide +kernel
theorem dX2_removesAt_22 : decode cX2_removesAt 22 = .ok (.ireturn, 1) := by decide +kernel
theorem dX2_removesAt_23 : decode cX2_removesAt 23 = .ok (.aload_n 0, 1) := by decide +kernel
theorem dX2_removesAt_24 : decode cX2_removesAt 24 = .ok (.getfield 9, 3) := by decide +kernel
theorem dX2_removesAt_27 : decode cX2_removesAt 27 = .ok (.iload_n 1, 1) := by decide +kernel
theorem dX2_removesAt_28 : decode cX2_removesAt 28 = .ok (.iaload, 1) := by decide +kernel
theorem dX2_removesAt_29 : decode cX2_removesAt 29 = .ok (.istore_n 2, 1) := by decide +kernel
theorem dX2_removesAt_30 : decode cX2_removesAt 30 = .ok (.aload_n 0, 1) := by decide +kernel
theorem dX2_removesAt_31 : decode cX2_removesAt 31 = .ok (.getfield 9, 3) := by decide +kernel
theorem dX2_removesAt_34 : decode cX2_removesAt 34 = .ok (.iload_n 1, 1) := by decide +kernel
theorem dX2_removesAt_35 : decode cX2_removesAt 35 = .ok (.iconst 1, 1) := by decide +kernel
theorem dX2_removesAt_36 : decode cX2_removesAt 36 = .ok (.iadd, 1) := by decide +kernel
theorem dX2_removesAt_37 : decode cX2_removesAt 37 = .ok (.aload_n 0, 1) := by decide +kernel
theorem dX2_removesAt_38 : decode cX2_removesAt 38 = .ok (.getfield 9, 3) := by decide +kernel
theorem dX2_removesAt_41 : decode cX2_removesAt 41 = .ok (.iload_n 1, 1) := by decide +kernel
theorem dX2_removesAt_42 : decode cX2_removesAt 42 = .ok (.aload_n 0, 1) := by decide +kernel
theorem dX2_removesAt_43 : decode cX2_removesAt 43 = .ok (.getfield 15, 3) := by decide +kernel
theorem dX2_removesAt_46 : decode cX2_removesAt 46 = .ok (.iload_n 1, 1) := by decide +kernel
theorem dX2_removesAt_47 : decode cX2_removesAt 47 = .ok (.isub, 1) := by decide +kernel
theorem dX2_removesAt_48 : decode cX2_removesAt 48 = .ok (.iconst 1, 1) := by decide +kernel
theorem dX2_removesAt_49 : decode cX2_removesAt 49 = .ok (.isub, 1) := by decide +kernel
theorem dX2_removesAt_50 : decode cX2_removesAt 50 = .ok (.invokestatic 19, 3) := by decide +kernel
theorem dX2_removesAt_53 : decode cX2_removesAt 53 = .ok (.aload_n 0, 1) := by decide +kernel
theorem dX2_removesAt_54 : decode cX2_removesAt 54 = .ok (.dup, 1) := by decide +kernel
theorem dX2_removesAt_55 : decode cX2_removesAt 55 = .ok (.getfield 15, 3) := by decide +kernel
theorem dX2_removesAt_58 : decode cX2_removesAt 58 = .ok (.iconst 1, 1) := by decide +kernel
theorem dX2_removesAt_59 : decode cX2_removesAt 59 = .ok (.isub, 1) := by decide +kernel
theorem dX2_removesAt_60 : decode cX2_removesAt 60 = .ok (.putfield 15, 3) := by decide +kernel
theorem dX2_removesAt_63 : decode cX2_removesAt 63 = .ok (.iload_n 2, 1) := by decide +kernel
theorem dX2_removesAt_64 : decode cX2_removesAt 64 = .ok (.ireturn, 1) := by decide +kernel
theorem dX2_turnsUpsideDown_0 : decode cX2_turnsUpsideDown 0 = .ok (.aload_n 0, 1) := by decide +kernel
theorem dX2_turnsUpsideDown_1 : decode cX2_turnsUpsideDown 1 = .ok (.getfield 15, 3) := by decide +kernel
theorem dX2_turnsUpsideDown_4 : decode cX2_turnsUpsideDown 4 = .ok (.istore_n 1, 1) := by decide +kernel
theorem dX2_turnsUpsideDown_5 : decode cX2_turnsUpsideDown 5 = .ok (.iconst 0, 1) := by decide +kernel
theorem dX2_turnsUpsideDown_6 : decode cX2_turnsUpsideDown 6 = .ok (.istore_n 2, 1) := by decide +kernel
theorem dX2_turnsUpsideDown_7 : decode cX2_turnsUpsideDown 7 = .ok (.iload_n 2, 1) := by decide +kernel
theorem dX2_turnsUpsideDown_8 : decode cX2_turnsUpsideDown 8 = .ok (.iload_n 1, 1) := by decide +kernel
theorem dX2_turnsUpsideDown_9 : decode cX2_turnsUpsideDown 9 = .ok (.if_icmp .ge 19, 3) := by decide +kernel
theorem dX2_turnsUpsideDown_12 : decode cX2_turnsUpsideDown 12 = .ok (.aload_n 0, 1) := by decide +kernel
theorem dX2_turnsUpsideDown_13 : decode cX2_turnsUpsideDown 13 = .ok (.iconst 0, 1) := by decide +kernel
theorem dX2_turnsUpsideDown_14 : decode cX2_turnsUpsideDown 14 = .ok (.aload_n 0, 1) := by decide +kernel
theorem dX2_turnsUpsideDown_15 : decode cX2_turnsUpsideDown 15 = .ok (.iload_n 2, 1) := by decide +kernel
theorem dX2_turnsUpsideDown_16 : decode cX2_turnsUpsideDown 16 = .ok (.invokevirtual 29, 3) := by decide +kernel
theorem dX2_turnsUpsideDown_19 : decode cX2_turnsUpsideDown 19 = .ok (.invokevirtual 32, 3) := by decide +kernel
theorem dX2_turnsUpsideDown_22 : decode cX2_turnsUpsideDown 22 = .ok (.iinc 2 1, 3) := by decide +kernel
theorem dX2_turnsUpsideDown_25 : decode cX2_turnsUpsideDown 25 = .ok (.goto (-18), 3) := by decide +kernel
theorem dX2_turnsUpsideDown_28 : decode cX2_turnsUpsideDown 28 = .ok (.return_, 1) := by decide +kernel
theorem dX3_init_0 : decode cX3_init 0 = .ok (.aload_n 0, 1) := by decide +kernel
theorem dX3_init_1 : decode cX3_init 1 = .ok (.invokespecial 3, 3) := by decide +kernel
theorem dX3_init_4 : decode cX3_init 4 = .ok (.aload_n 0, 1) := by decide +kernel
theorem dX3_init_5 : decode cX3_init 5 = .ok (.iconst 4, 1) := by decide +kernel
theorem dX3_init_6 : decode cX3_init 6 = .ok (.newarray .int, 2) := by decide +kernel
theorem dX3_init_8 : decode cX3_init 8 = .ok (.dup, 1) := by decide +kernel
theorem dX3_init_9 : decode cX3_init 9 = .ok (.iconst 0, 1) := by decide +kernel
theorem dX3_init_10 : decode cX3_init 10 = .ok (.iconst (-1), 1) := by decide +kernel
theorem dX3_init_11 : decode cX3_init 11 = .ok (.iastore, 1) := by decide +kernel
theorem dX3_init_12 : decode cX3_init 12 = .ok (.dup, 1) := by decide +kernel
theorem dX3_init_13 : decode cX3_init 13 = .ok (.iconst 1, 1) := by decide +kernel
theorem dX3_init_14 : decode cX3_init 14 = .ok (.iconst (-1), 1) := by decide +kernel
theorem dX3_init_15 : decode cX3_init 15 = .ok (.iastore, 1) := by decide +kernel
theorem dX3_init_16 : decode cX3_init 16 = .ok (.dup, 1) := by decide +kernel
theorem dX3_init_17 : decode cX3_init 17 = .ok (.iconst 2, 1) := by decide +kernel
theorem dX3_init_18 : decode cX3_init 18 = .ok (.iconst (-1), 1) := by decide +kernel
theorem dX3_init_19 : decode cX3_init 19 = .ok (.iastore, 1) := by decide +kernel
theorem dX3_init_20 : decode cX3_init 20 = .ok (.dup, 1) := by decide +kernel
theorem dX3_init_21 : decode cX3_init 21 = .ok (.iconst 3, 1) := by decide +kernel
theorem dX3_init_22 : decode cX3_init 22 = .ok (.iconst (-1), 1) := by decide +kernel
theorem dX3_init_23 : decode cX3_init 23 = .ok (.iastore, 1) := by decide +kernel
theorem dX3_init_24 : decode cX3_init 24 = .ok (.putfield 9, 3) := by decide +kernel
theorem dX3_init_27 : decode cX3_init 27 = .ok (.aload_n 0, 1) := by decide +kernel
theorem dX3_init_28 : decode cX3_init 28 = .ok (.iconst 4, 1) := by decide +kernel
theorem dX3_init_29 : decode cX3_init 29 = .ok (.newarray .int, 2) := by decide +kernel
theorem dX3_init_31 : decode cX3_init 31 = .ok (.putfield 15, 3) := by decide +kernel
theorem dX3_init_34 : decode cX3_init 34 = .ok (.aload_n 0, 1) := by decide +kernel
theorem dX3_init_35 : decode cX3_init 35 = .ok (.sipush 160, 3) := by decide +kernel
theorem dX3_init_38 : decode cX3_init 38 = .ok (.newarray .int, 2) := by decide +kernel
theorem dX3_init_40 : decode cX3_init 40 = .ok (.putfield 18, 3) := by decide +kernel
theorem dX3_init_43 : decode cX3_init 43 = .ok (.return_, 1) := by decide +kernel
theorem dX3_makes_0 : decode cX3_makes 0 = .ok (.iload_n 1, 1) := by decide +kernel
theorem dX3_makes_1 : decode cX3_makes 1 = .ok (.invokestatic 21, 3) := by decide +kernel
theorem dX3_makes_4 : decode cX3_makes 4 = .ok (.ifCond .eq 56, 3) := by decide +kernel
theorem dX3_makes_7 : decode cX3_makes 7 = .ok (.iload_n 3, 1) := by decide +kernel
theorem dX3_makes_8 : decode cX3_makes 8 = .ok (.ifCond .lt 52, 3) := by decide +kernel
theorem dX3_makes_11 : decode cX3_makes 11 = .ok (.iload_n 3, 1) := by decide +kernel
theorem dX3_makes_12 : decode cX3_makes 12 = .ok (.bipush 40, 2) := by decide +kernel
theorem dX3_makes_14 : decode cX3_makes 14 = .ok (.if_icmp .gt 46, 3) := by decide +kernel
theorem dX3_makes_17 : decode cX3_makes 17 = .ok (.aload_n 0, 1) := by decide +kernel
theorem dX3_makes_18 : decode cX3_makes 18 = .ok (.getfield 9, 3) := by decide +kernel
theorem dX3_makes_21 : decode cX3_makes 21 = .ok (.iload_n 1, 1) := by decide +kernel
theorem dX3_makes_22 : decode cX3_makes 22 = .ok (.iload_n 2, 1) := by decide +kernel
theorem dX3_makes_23 : decode cX3_makes 23 = .ok (.iastore, 1) := by decide +kernel
theorem dX3_makes_24 : decode cX3_makes 24 = .ok (.aload_n 0, 1) := by decide +kernel
theorem dX3_makes_25 : decode cX3_makes 25 = .ok (.getfield 15, 3) := by decide +kernel
theorem dX3_makes_28 : decode cX3_makes 28 = .ok (.iload_n 1, 1) := by decide +kernel
theorem dX3_makes_29 : decode cX3_makes 29 = .ok (.iload_n 3, 1) := by decide +kernel
theorem dX3_makes_30 : decode cX3_makes 30 = .ok (.iastore, 1) := by decide +kernel
theorem dX3_makes_31 : decode cX3_makes 31 = .ok (.iconst 0, 1) := by decide +kernel
theorem dX3_makes_32 : decode cX3_makes 32 = .ok (.istore 4, 2) := by decide +kernel
theorem dX3_makes_34 : decode cX3_makes 34 = .ok (.iload 4, 2) := by decide +kernel
theorem dX3_makes_36 : decode cX3_makes 36 = .ok (.bipush 40, 2) := by decide +kernel
theorem dX3_makes_38 : decode cX3_makes 38 = .ok (.if_icmp .ge 22, 3) := by decide +kernel
theorem dX3_makes_41 : decode cX3_makes 41 = .ok (.aload_n 0, 1) := by decide +kernel
theorem dX3_makes_42 : decode cX3_makes 42 = .ok (.getfield 18, 3) := by decide +kernel
theorem dX3_makes_45 : decode cX3_makes 45 = .ok (.iload_n 1, 1) := by decide +kernel
theorem dX3_makes_46 : decode cX3_makes 46 = .ok (.bipush 40, 2) := by decide +kernel
theorem dX3_makes_48 : decode cX3_makes 48 = .ok (.imul, 1) := by decide +kernel
theorem dX3_makes_49 : decode cX3_makes 49 = .ok (.iload 4, 2) := by decide +kernel
theorem dX3_makes_51 : decode cX3_makes 51 = .ok (.iadd, 1) := by decide +kernel
theorem dX3_makes_52 : decode cX3_makes 52 = .ok (.iconst 0, 1) := by decide +kernel
theorem dX3_makes_53 : decode cX3_makes 53 = .ok (.iastore, 1) := by decide +kernel
theorem dX3_makes_54 : decode cX3_makes 54 = .ok (.iinc 4 1, 3) := by decide +kernel
theorem dX3_makes_57 : decode cX3_makes 57 = .ok (.goto (-23), 3) := by decide +kernel
theorem dX3_makes_60 : decode cX3_makes 60 = .ok (.return_, 1) := by decide +kernel
theorem dX3_isMissing_0 : decode cX3_isMissing 0 = .ok (.iload_n 1, 1) := by decide +kernel
theorem dX3_isMissing_1 : decode cX3_isMissing 1 = .ok (.invokestatic 21, 3) := by decide +kernel
theorem dX3_isMissing_4 : decode cX3_isMissing 4 = .ok (.ifCond .eq 13, 3) := by decide +kernel
theorem dX3_isMissing_7 : decode cX3_isMissing 7 = .ok (.aload_n 0, 1) := by decide +kernel
theorem dX3_isMissing_8 : decode cX3_isMissing 8 = .ok (.getfield 9, 3) := by decide +kernel
theorem dX3_isMissing_11 : decode cX3_isMissing 11 = .ok (.iload_n 1, 1) := by decide +kernel
theorem dX3_isMissing_12 : decode cX3_isMissing 12 = .ok (.iaload, 1) := by decide +kernel
theorem dX3_isMissing_13 : decode cX3_isMissing 13 = .ok (.iconst (-1), 1) := by decide +kernel
theorem dX3_isMissing_14 : decode cX3_isMissing 14 = .ok (.if_icmp .ne 7, 3) := by decide +kernel
theorem dX3_isMissing_17 : decode cX3_isMissing 17 = .ok (.iconst 1, 1) := by decide +kernel
theorem dX3_isMissing_18 : decode cX3_isMissing 18 = .ok (.goto 4, 3) := by decide +kernel
theorem dX3_isMissing_21 : decode cX3_isMissing 21 = .ok (.iconst 0, 1) := by decide +kernel
theorem dX3_isMissing_22 : decode cX3_isMissing 22 = .ok (.ireturn, 1) := by decide +kernel
theorem dX3_isPlace_0 : decode cX3_isPlace 0 = .ok (.iload_n 1, 1) := by decide +kernel
theorem dX3_isPlace_1 : decode cX3_isPlace 1 = .ok (.invokestatic 21, 3) := by decide +kernel
theorem dX3_isPlace_4 : decode cX3_isPlace 4 = .ok (.ifCond .eq 27, 3) := by decide +kernel
theorem dX3_isPlace_7 : decode cX3_isPlace 7 = .ok (.iload_n 2, 1) := by decide +kernel
theorem dX3_isPlace_8 : decode cX3_isPlace 8 = .ok (.ifCond .lt 23, 3) := by decide +kernel
theorem dX3_isPlace_11 : decode cX3_isPlace 11 = .ok (.iload_n 2, 1) := by decide +kernel
theorem dX3_isPlace_12 : decode cX3_isPlace 12 = .ok (.aload_n 0, 1) := by decide +kernel
theorem dX3_isPlace_13 : decode cX3_isPlace 13 = .ok (.getfield 15, 3) := by decide +kernel
theorem dX3_isPlace_16 : decode cX3_isPlace 16 = .ok (.iload_n 1, 1) := by decide +kernel
theorem dX3_isPlace_17 : decode cX3_isPlace 17 = .ok (.iaload, 1) := by decide +kernel
theorem dX3_isPlace_18 : decode cX3_isPlace 18 = .ok (.if_icmp .ge 13, 3) := by decide +kernel
theorem dX3_isPlace_21 : decode cX3_isPlace 21 = .ok (.iload_n 2, 1) := by decide +kernel
theorem dX3_isPlace_22 : decode cX3_isPlace 22 = .ok (.bipush 40, 2) := by decide +kernel
theorem dX3_isPlace_24 : decode cX3_isPlace 24 = .ok (.if_icmp .ge 7, 3) := by decide +kernel
theorem dX3_isPlace_27 : decode cX3_isPlace 27 = .ok (.iconst 1, 1) := by decide +kernel
theorem dX3_isPlace_28 : decode cX3_isPlace 28 = .ok (.goto 4, 3) := by decide +kernel
theorem dX3_isPlace_31 : decode cX3_isPlace 31 = .ok (.iconst 0, 1) := by decide +kernel
theorem dX3_isPlace_32 : decode cX3_isPlace 32 = .ok (.ireturn, 1) := by decide +kernel
theorem dX3_holds_0 : decode cX3_holds 0 = .ok (.iload_n 1, 1) := by decide +kernel
theorem dX3_holds_1 : decode cX3_holds 1 = .ok (.invokestatic 21, 3) := by decide +kernel
theorem dX3_holds_4 : decode cX3_holds 4 = .ok (.ifCond .eq 48, 3) := by decide +kernel
theorem dX3_holds_7 : decode cX3_holds 7 = .ok (.aload_n 0, 1) := by decide +kernel
theorem dX3_holds_8 : decode cX3_holds 8 = .ok (.getfield 15, 3) := by decide +kernel
theorem dX3_holds_11 : decode cX3_holds 11 = .ok (.iload_n 1, 1) := by decide +kernel
theorem dX3_holds_12 : decode cX3_holds 12 = .ok (.iaload, 1) := by decide +kernel
theorem dX3_holds_13 : decode cX3_holds 13 = .ok (.bipush 40, 2) := by decide +kernel
theorem dX3_holds_15 : decode cX3_holds 15 = .ok (.if_icmp .gt 37, 3) := by decide +kernel
theorem dX3_holds_18 : decode cX3_holds 18 = .ok (.iload_n 2, 1) := by decide +kernel
theorem dX3_holds_19 : decode cX3_holds 19 = .ok (.ifCond .lt 33, 3) := by decide +kernel
theorem dX3_holds_22 : decode cX3_holds 22 = .ok (.iload_n 3, 1) := by decide +kernel
theorem dX3_holds_23 : decode cX3_holds 23 = .ok (.ifCond .lt 29, 3) := by decide +kernel
theorem dX3_holds_26 : decode cX3_holds 26 = .ok (.iload_n 3, 1) := by decide +kernel
theorem dX3_holds_27 : decode cX3_holds 27 = .ok (.aload_n 0, 1) := by decide +kernel
theorem dX3_holds_28 : decode cX3_holds 28 = .ok (.getfield 15, 3) := by decide +kernel
theorem dX3_holds_31 : decode cX3_holds 31 = .ok (.iload_n 1, 1) := by decide +kernel
theorem dX3_holds_32 : decode cX3_holds 32 = .ok (.iaload, 1) := by decide +kernel
theorem dX3_holds_33 : decode cX3_holds 33 = .ok (.if_icmp .gt 19, 3) := by decide +kernel
theorem dX3_holds_36 : decode cX3_holds 36 = .ok (.iload_n 2, 1) := by decide +kernel
theorem dX3_holds_37 : decode cX3_holds 37 = .ok (.aload_n 0, 1) := by decide +kernel
theorem dX3_holds_38 : decode cX3_holds 38 = .ok (.getfield 15, 3) := by decide +kernel
theorem dX3_holds_41 : decode cX3_holds 41 = .ok (.iload_n 1, 1) := by decide +kernel
theorem dX3_holds_42 : decode cX3_holds 42 = .ok (.iaload, 1) := by decide +kernel
theorem dX3_holds_43 : decode cX3_holds 43 = .ok (.iload_n 3, 1) := by decide +kernel
theorem dX3_holds_44 : decode cX3_holds 44 = .ok (.isub, 1) := by decide +kernel
theorem dX3_holds_45 : decode cX3_holds 45 = .ok (.if_icmp .gt 7, 3) := by decide +kernel
theorem dX3_holds_48 : decode cX3_holds 48 = .ok (.iconst 1, 1) := by decide +kernel
theorem dX3_holds_49 : decode cX3_holds 49 = .ok (.goto 4, 3) := by decide +kernel
theorem dX3_holds_52 : decode cX3_holds 52 = .ok (.iconst 0, 1) := by decide +kernel
theorem dX3_holds_53 : decode cX3_holds 53 = .ok (.ireturn, 1) := by decide +kernel
theorem dX3_reads_0 : decode cX3_reads 0 = .ok (.aload_n 0, 1) := by decide +kernel
theorem dX3_reads_1 : decode cX3_reads 1 = .ok (.iload_n 1, 1) := by decide +kernel
theorem dX3_reads_2 : decode cX3_reads 2 = .ok (.iload_n 2, 1) := by decide +kernel
theorem dX3_reads_3 : decode cX3_reads 3 = .ok (.invokevirtual 25, 3) := by decide +kernel
theorem dX3_reads_6 : decode cX3_reads 6 = .ok (.ifCond .eq 17, 3) := by decide +kernel
theorem dX3_reads_9 : decode cX3_reads 9 = .ok (.aload_n 0, 1) := by decide +kernel
theorem dX3_reads_10 : decode cX3_reads 10 = .ok (.getfield 18, 3) := by decide +kernel
theorem dX3_reads_13 : decode cX3_reads 13 = .ok (.iload_n 1, 1) := by decide +kernel
theorem dX3_reads_14 : decode cX3_reads 14 = .ok (.bipush 40, 2) := by decide +kernel
theorem dX3_reads_16 : decode cX3_reads 16 = .ok (.imul, 1) := by decide +kernel
theorem dX3_reads_17 : decode cX3_reads 17 = .ok (.iload_n 2, 1) := by decide +kernel
theorem dX3_reads_18 : decode cX3_reads 18 = .ok (.iadd, 1) := by decide +kernel
theorem dX3_reads_19 : decode cX3_reads 19 = .ok (.iaload, 1) := by decide +kernel
theorem dX3_reads_20 : decode cX3_reads 20 = .ok (.goto 4, 3) := by decide +kernel
theorem dX3_reads_23 : decode cX3_reads 23 = .ok (.iconst 0, 1) := by decide +kernel
theorem dX3_reads_24 : decode cX3_reads 24 = .ok (.ireturn, 1) := by decide +kernel
theorem dX3_writes_0 : decode cX3_writes 0 = .ok (.aload_n 0, 1) := by decide +kernel
theorem dX3_writes_1 : decode cX3_writes 1 = .ok (.iload_n 1, 1) := by decide +kernel
theorem dX3_writes_2 : decode cX3_writes 2 = .ok (.iload_n 2, 1) := by decide +kernel
theorem dX3_writes_3 : decode cX3_writes 3 = .ok (.invokevirtual 25, 3) := by decide +kernel
theorem dX3_writes_6 : decode cX3_writes 6 = .ok (.ifCond .eq 44, 3) := by decide +kernel
theorem dX3_writes_9 : decode cX3_writes 9 = .ok (.aload_n 0, 1) := by decide +kernel
theorem dX3_writes_10 : decode cX3_writes 10 = .ok (.getfield 18, 3) := by decide +kernel
theorem dX3_writes_13 : decode cX3_writes 13 = .ok (.iload_n 1, 1) := by decide +kernel
theorem dX3_writes_14 : decode cX3_writes 14 = .ok (.bipush 40, 2) := by decide +kernel
theorem dX3_writes_16 : decode cX3_writes 16 = .ok (.imul, 1) := by decide +kernel
theorem dX3_writes_17 : decode cX3_writes 17 = .ok (.iload_n 2, 1) := by decide +kernel
theorem dX3_writes_18 : decode cX3_writes 18 = .ok (.iadd, 1) := by decide +kernel
theorem dX3_writes_19 : decode cX3_writes 19 = .ok (.aload_n 0, 1) := by decide +kernel
theorem dX3_writes_20 : decode cX3_writes 20 = .ok (.getfield 9, 3) := by decide +kernel
theorem dX3_writes_23 : decode cX3_writes 23 = .ok (.iload_n 1, 1) := by decide +kernel
theorem dX3_writes_24 : decode cX3_writes 24 = .ok (.iaload, 1) := by decide +kernel
theorem dX3_writes_25 : decode cX3_writes 25 = .ok (.ifCond .ne 8, 3) := by decide +kernel
theorem dX3_writes_28 : decode cX3_writes 28 = .ok (.iload_n 3, 1) := by decide +kernel
theorem dX3_writes_29 : decode cX3_writes 29 = .ok (.i2b, 1) := by decide +kernel
theorem dX3_writes_30 : decode cX3_writes 30 = .ok (.goto 19, 3) := by decide +kernel
theorem dX3_writes_33 : decode cX3_writes 33 = .ok (.aload_n 0, 1) := by decide +kernel
theorem dX3_writes_34 : decode cX3_writes 34 = .ok (.getfield 9, 3) := by decide +kernel
theorem dX3_writes_37 : decode cX3_writes 37 = .ok (.iload_n 1, 1) := by decide +kernel
theorem dX3_writes_38 : decode cX3_writes 38 = .ok (.iaload, 1) := by decide +kernel
theorem dX3_writes_39 : decode cX3_writes 39 = .ok (.iconst 1, 1) := by decide +kernel
theorem dX3_writes_40 : decode cX3_writes 40 = .ok (.if_icmp .ne 8, 3) := by decide +kernel
theorem dX3_writes_43 : decode cX3_writes 43 = .ok (.iload_n 3, 1) := by decide +kernel
theorem dX3_writes_44 : decode cX3_writes 44 = .ok (.i2s, 1) := by decide +kernel
theorem dX3_writes_45 : decode cX3_writes 45 = .ok (.goto 4, 3) := by decide +kernel
theorem dX3_writes_48 : decode cX3_writes 48 = .ok (.iload_n 3, 1) := by decide +kernel
theorem dX3_writes_49 : decode cX3_writes 49 = .ok (.iastore, 1) := by decide +kernel
theorem dX3_writes_50 : decode cX3_writes 50 = .ok (.return_, 1) := by decide +kernel
theorem dX3_moves_0 : decode cX3_moves 0 = .ok (.aload_n 0, 1) := by decide +kernel
theorem dX3_moves_1 : decode cX3_moves 1 = .ok (.iload_n 1, 1) := by decide +kernel
theorem dX3_moves_2 : decode cX3_moves 2 = .ok (.iload_n 2, 1) := by decide +kernel
theorem dX3_moves_3 : decode cX3_moves 3 = .ok (.iload 5, 2) := by decide +kernel
theorem dX3_moves_5 : decode cX3_moves 5 = .ok (.invokevirtual 29, 3) := by decide +kernel
theorem dX3_moves_8 : decode cX3_moves 8 = .ok (.ifCond .eq 41, 3) := by decide +kernel
theorem dX3_moves_11 : decode cX3_moves 11 = .ok (.aload_n 0, 1) := by decide +kernel
theorem dX3_moves_12 : decode cX3_moves 12 = .ok (.iload_n 3, 1) := by decide +kernel
theorem dX3_moves_13 : decode cX3_moves 13 = .ok (.iload 4, 2) := by decide +kernel
theorem dX3_moves_15 : decode cX3_moves 15 = .ok (.iload 5, 2) := by decide +kernel
theorem dX3_moves_17 : decode cX3_moves 17 = .ok (.invokevirtual 29, 3) := by decide +kernel
theorem dX3_moves_20 : decode cX3_moves 20 = .ok (.ifCond .eq 29, 3) := by decide +kernel
theorem dX3_moves_23 : decode cX3_moves 23 = .ok (.aload_n 0, 1) := by decide +kernel
theorem dX3_moves_24 : decode cX3_moves 24 = .ok (.getfield 18, 3) := by decide +kernel
theorem dX3_moves_27 : decode cX3_moves 27 = .ok (.iload_n 1, 1) := by decide +kernel
theorem dX3_moves_28 : decode cX3_moves 28 = .ok (.bipush 40, 2) := by decide +kernel
theorem dX3_moves_30 : decode cX3_moves 30 = .ok (.imul, 1) := by decide +kernel
theorem dX3_moves_31 : decode cX3_moves 31 = .ok (.iload_n 2, 1) := by decide +kernel
theorem dX3_moves_32 : decode cX3_moves 32 = .ok (.iadd, 1) := by decide +kernel
theorem dX3_moves_33 : decode cX3_moves 33 = .ok (.aload_n 0, 1) := by decide +kernel
theorem dX3_moves_34 : decode cX3_moves 34 = .ok (.getfield 18, 3) := by decide +kernel
theorem dX3_moves_37 : decode cX3_moves 37 = .ok (.iload_n 3, 1) := by decide +kernel
theorem dX3_moves_38 : decode cX3_moves 38 = .ok (.bipush 40, 2) := by decide +kernel
theorem dX3_moves_40 : decode cX3_moves 40 = .ok (.imul, 1) := by decide +kernel
theorem dX3_moves_41 : decode cX3_moves 41 = .ok (.iload 4, 2) := by decide +kernel
theorem dX3_moves_43 : decode cX3_moves 43 = .ok (.iadd, 1) := by decide +kernel
theorem dX3_moves_44 : decode cX3_moves 44 = .ok (.iload 5, 2) := by decide +kernel
theorem dX3_moves_46 : decode cX3_moves 46 = .ok (.invokestatic 33, 3) := by decide +kernel
theorem dX3_moves_49 : decode cX3_moves 49 = .ok (.return_, 1) := by decide +kernel
theorem dX4_init_0 : decode cX4_init 0 = .ok (.aload_n 0, 1) := by decide +kernel
theorem dX4_init_1 : decode cX4_init 1 = .ok (.invokespecial 3, 3) := by decide +kernel
theorem dX4_init_4 : decode cX4_init 4 = .ok (.aload_n 0, 1) := by decide +kernel
theorem dX4_init_5 : decode cX4_init 5 = .ok (.sipush 160, 3) := by decide +kernel
theorem dX4_init_8 : decode cX4_init 8 = .ok (.newarray .int, 2) := by decide +kernel
theorem dX4_init_10 : decode cX4_init 10 = .ok (.putfield 9, 3) := by decide +kernel
theorem dX4_init_13 : decode cX4_init 13 = .ok (.return_, 1) := by decide +kernel
theorem dX4_adds_0 : decode cX4_adds 0 = .ok (.aload_n 0, 1) := by decide +kernel
theorem dX4_adds_1 : decode cX4_adds 1 = .ok (.getfield 15, 3) := by decide +kernel
theorem dX4_adds_4 : decode cX4_adds 4 = .ok (.ifCond .lt 33, 3) := by decide +kernel
theorem dX4_adds_7 : decode cX4_adds 7 = .ok (.aload_n 0, 1) := by decide +kernel
theorem dX4_adds_8 : decode cX4_adds 8 = .ok (.getfield 15, 3) := by decide +kernel
theorem dX4_adds_11 : decode cX4_adds 11 = .ok (.sipush 160, 3) := by decide +kernel
theorem dX4_adds_14 : decode cX4_adds 14 = .ok (.if_icmp .ge 23, 3) := by decide +kernel
theorem dX4_adds_17 : decode cX4_adds 17 = .ok (.aload_n 0, 1) := by decide +kernel
theorem dX4_adds_18 : decode cX4_adds 18 = .ok (.getfield 9, 3) := by decide +kernel
theorem dX4_adds_21 : decode cX4_adds 21 = .ok (.aload_n 0, 1) := by decide +kernel
theorem dX4_adds_22 : decode cX4_adds 22 = .ok (.getfield 15, 3) := by decide +kernel
theorem dX4_adds_25 : decode cX4_adds 25 = .ok (.iload_n 1, 1) := by decide +kernel
theorem dX4_adds_26 : decode cX4_adds 26 = .ok (.iastore, 1) := by decide +kernel
theorem dX4_adds_27 : decode cX4_adds 27 = .ok (.aload_n 0, 1) := by decide +kernel
theorem dX4_adds_28 : decode cX4_adds 28 = .ok (.dup, 1) := by decide +kernel
theorem dX4_adds_29 : decode cX4_adds 29 = .ok (.getfield 15, 3) := by decide +kernel
theorem dX4_adds_32 : decode cX4_adds 32 = .ok (.iconst 1, 1) := by decide +kernel
theorem dX4_adds_33 : decode cX4_adds 33 = .ok (.iadd, 1) := by decide +kernel
theorem dX4_adds_34 : decode cX4_adds 34 = .ok (.putfield 15, 3) := by decide +kernel
theorem dX4_adds_37 : decode cX4_adds 37 = .ok (.return_, 1) := by decide +kernel
theorem dX4_readsInto_0 : decode cX4_readsInto 0 = .ok (.aload_n 0, 1) := by decide +kernel
theorem dX4_readsInto_1 : decode cX4_readsInto 1 = .ok (.iconst 0, 1) := by decide +kernel
theorem dX4_readsInto_2 : decode cX4_readsInto 2 = .ok (.putfield 19, 3) := by decide +kernel
theorem dX4_readsInto_5 : decode cX4_readsInto 5 = .ok (.aload_n 0, 1) := by decide +kernel
theorem dX4_readsInto_6 : decode cX4_readsInto 6 = .ok (.invokevirtual 22, 3) := by decide +kernel
theorem dX4_readsInto_9 : decode cX4_readsInto 9 = .ok (.iconst 0, 1) := by decide +kernel
theorem dX4_readsInto_10 : decode cX4_readsInto 10 = .ok (.istore_n 2, 1) := by decide +kernel
theorem dX4_readsInto_11 : decode cX4_readsInto 11 = .ok (.iload_n 2, 1) := by decide +kernel
theorem dX4_readsInto_12 : decode cX4_readsInto 12 = .ok (.iconst 3, 1) := by decide +kernel
theorem dX4_readsInto_13 : decode cX4_readsInto 13 = .ok (.if_icmp .ge 62, 3) := by decide +kernel
theorem dX4_readsInto_16 : decode cX4_readsInto 16 = .ok (.aload_n 0, 1) := by decide +kernel
theorem dX4_readsInto_17 : decode cX4_readsInto 17 = .ok (.getfield 25, 3) := by decide +kernel
theorem dX4_readsInto_20 : decode cX4_readsInto 20 = .ok (.sipush 300, 3) := by decide +kernel
theorem dX4_readsInto_23 : decode cX4_readsInto 23 = .ok (.iload_n 2, 1) := by decide +kernel
theorem dX4_readsInto_24 : decode cX4_readsInto 24 = .ok (.iadd, 1) := by decide +kernel
theorem dX4_readsInto_25 : decode cX4_readsInto 25 = .ok (.if_icmp .eq 8, 3) := by decide +kernel
theorem dX4_readsInto_28 : decode cX4_readsInto 28 = .ok (.aload_n 0, 1) := by decide +kernel
theorem dX4_readsInto_29 : decode cX4_readsInto 29 = .ok (.getfield 28, 3) := by decide +kernel
theorem dX4_readsInto_32 : decode cX4_readsInto 32 = .ok (.ireturn, 1) := by decide +kernel
theorem dX4_readsInto_33 : decode cX4_readsInto 33 = .ok (.aload_n 0, 1) := by decide +kernel
theorem dX4_readsInto_34 : decode cX4_readsInto 34 = .ok (.invokevirtual 22, 3) := by decide +kernel
theorem dX4_readsInto_37 : decode cX4_readsInto 37 = .ok (.aload_n 0, 1) := by decide +kernel
theorem dX4_readsInto_38 : decode cX4_readsInto 38 = .ok (.aload_n 1, 1) := by decide +kernel
theorem dX4_readsInto_39 : decode cX4_readsInto 39 = .ok (.iconst 0, 1) := by decide +kernel
theorem dX4_readsInto_40 : decode cX4_readsInto 40 = .ok (.invokevirtual 31, 3) := by decide +kernel
theorem dX4_readsInto_43 : decode cX4_readsInto 43 = .ok (.ifCond .eq 12, 3) := by decide +kernel
theorem dX4_readsInto_46 : decode cX4_readsInto 46 = .ok (.aload_n 0, 1) := by decide +kernel
theorem dX4_readsInto_47 : decode cX4_readsInto 47 = .ok (.getfield 25, 3) := by decide +kernel
theorem dX4_readsInto_50 : decode cX4_readsInto 50 = .ok (.bipush 59, 2) := by decide +kernel
theorem dX4_readsInto_52 : decode cX4_readsInto 52 = .ok (.if_icmp .eq 8, 3) := by decide +kernel
theorem dX4_readsInto_55 : decode cX4_readsInto 55 = .ok (.aload_n 0, 1) := by decide +kernel
theorem dX4_readsInto_56 : decode cX4_readsInto 56 = .ok (.getfield 28, 3) := by decide +kernel
theorem dX4_readsInto_59 : decode cX4_readsInto 59 = .ok (.ireturn, 1) := by decide +kernel
theorem dX4_readsInto_60 : decode cX4_readsInto 60 = .ok (.aload_n 0, 1) := by decide +kernel
theorem dX4_readsInto_61 : decode cX4_readsInto 61 = .ok (.invokevirtual 22, 3) := by decide +kernel
theorem dX4_readsInto_64 : decode cX4_readsInto 64 = .ok (.aload_n 1, 1) := by decide +kernel
theorem dX4_readsInto_65 : decode cX4_readsInto 65 = .ok (.iload_n 2, 1) := by decide +kernel
theorem dX4_readsInto_66 : decode cX4_readsInto 66 = .ok (.invokevirtual 35, 3) := by decide +kernel
theorem dX4_readsInto_69 : decode cX4_readsInto 69 = .ok (.iinc 2 1, 3) := by decide +kernel
theorem dX4_readsInto_72 : decode cX4_readsInto 72 = .ok (.goto (-61), 3) := by decide +kernel
theorem dX4_readsInto_75 : decode cX4_readsInto 75 = .ok (.aload_n 0, 1) := by decide +kernel
theorem dX4_readsInto_76 : decode cX4_readsInto 76 = .ok (.getfield 25, 3) := by decide +kernel
theorem dX4_readsInto_79 : decode cX4_readsInto 79 = .ok (.ifCond .ne 7, 3) := by decide +kernel
theorem dX4_readsInto_82 : decode cX4_readsInto 82 = .ok (.iconst (-1), 1) := by decide +kernel
theorem dX4_readsInto_83 : decode cX4_readsInto 83 = .ok (.goto 7, 3) := by decide +kernel
theorem dX4_readsInto_86 : decode cX4_readsInto 86 = .ok (.aload_n 0, 1) := by decide +kernel
theorem dX4_readsInto_87 : decode cX4_readsInto 87 = .ok (.getfield 28, 3) := by decide +kernel
theorem dX4_readsInto_90 : decode cX4_readsInto 90 = .ok (.ireturn, 1) := by decide +kernel
theorem dX4_readsEither_0 : decode cX4_readsEither 0 = .ok (.aload_n 0, 1) := by decide +kernel
theorem dX4_readsEither_1 : decode cX4_readsEither 1 = .ok (.aload_n 1, 1) := by decide +kernel
theorem dX4_readsEither_2 : decode cX4_readsEither 2 = .ok (.iload_n 2, 1) := by decide +kernel
theorem dX4_readsEither_3 : decode cX4_readsEither 3 = .ok (.invokevirtual 41, 3) := by decide +kernel
theorem dX4_readsEither_6 : decode cX4_readsEither 6 = .ok (.istore_n 3, 1) := by decide +kernel
theorem dX4_readsEither_7 : decode cX4_readsEither 7 = .ok (.iconst 0, 1) := by decide +kernel
theorem dX4_readsEither_8 : decode cX4_readsEither 8 = .ok (.istore 4, 2) := by decide +kernel
theorem dX4_readsEither_10 : decode cX4_readsEither 10 = .ok (.iload 4, 2) := by decide +kernel
theorem dX4_readsEither_12 : decode cX4_readsEither 12 = .ok (.sipush 160, 3) := by decide +kernel
theorem dX4_readsEither_15 : decode cX4_readsEither 15 = .ok (.if_icmp .ge 41, 3) := by decide +kernel
theorem dX4_readsEither_18 : decode cX4_readsEither 18 = .ok (.iload_n 3, 1) := by decide +kernel
theorem dX4_readsEither_19 : decode cX4_readsEither 19 = .ok (.ifCond .eq 37, 3) := by decide +kernel
theorem dX4_readsEither_22 : decode cX4_readsEither 22 = .ok (.aload_n 0, 1) := by decide +kernel
theorem dX4_readsEither_23 : decode cX4_readsEither 23 = .ok (.getfield 25, 3) := by decide +kernel
theorem dX4_readsEither_26 : decode cX4_readsEither 26 = .ok (.sipush 303, 3) := by decide +kernel
theorem dX4_readsEither_29 : decode cX4_readsEither 29 = .ok (.if_icmp .ne 27, 3) := by decide +kernel
theorem dX4_readsEither_32 : decode cX4_readsEither 32 = .ok (.aload_n 0, 1) := by decide +kernel
theorem dX4_readsEither_33 : decode cX4_readsEither 33 = .ok (.invokevirtual 22, 3) := by decide +kernel
theorem dX4_readsEither_36 : decode cX4_readsEither 36 = .ok (.aload_n 0, 1) := by decide +kernel
theorem dX4_readsEither_37 : decode cX4_readsEither 37 = .ok (.aload_n 1, 1) := by decide +kernel
theorem dX4_readsEither_38 : decode cX4_readsEither 38 = .ok (.iload_n 2, 1) := by decide +kernel
theorem dX4_readsEither_39 : decode cX4_readsEither 39 = .ok (.invokevirtual 41, 3) := by decide +kernel
theorem dX4_readsEither_42 : decode cX4_readsEither 42 = .ok (.istore_n 3, 1) := by decide +kernel
theorem dX4_readsEither_43 : decode cX4_readsEither 43 = .ok (.aload_n 1, 1) := by decide +kernel
theorem dX4_readsEither_44 : decode cX4_readsEither 44 = .ok (.sipush (-303), 3) := by decide +kernel
theorem dX4_readsEither_47 : decode cX4_readsEither 47 = .ok (.invokevirtual 44, 3) := by decide +kernel
theorem dX4_readsEither_50 : decode cX4_readsEither 50 = .ok (.iinc 4 1, 3) := by decide +kernel
theorem dX4_readsEither_53 : decode cX4_readsEither 53 = .ok (.goto (-43), 3) := by decide +kernel
theorem dX4_readsEither_56 : decode cX4_readsEither 56 = .ok (.iload_n 3, 1) := by decide +kernel
theorem dX4_readsEither_57 : decode cX4_readsEither 57 = .ok (.ireturn, 1) := by decide +kernel
theorem dX4_readsBoth_0 : decode cX4_readsBoth 0 = .ok (.aload_n 0, 1) := by decide +kernel
theorem dX4_readsBoth_1 : decode cX4_readsBoth 1 = .ok (.aload_n 1, 1) := by decide +kernel
theorem dX4_readsBoth_2 : decode cX4_readsBoth 2 = .ok (.iload_n 2, 1) := by decide +kernel
theorem dX4_readsBoth_3 : decode cX4_readsBoth 3 = .ok (.invokevirtual 47, 3) := by decide +kernel
theorem dX4_readsBoth_6 : decode cX4_readsBoth 6 = .ok (.istore_n 3, 1) := by decide +kernel
theorem dX4_readsBoth_7 : decode cX4_readsBoth 7 = .ok (.iconst 0, 1) := by decide +kernel
theorem dX4_readsBoth_8 : decode cX4_readsBoth 8 = .ok (.istore 4, 2) := by decide +kernel
theorem dX4_readsBoth_10 : decode cX4_readsBoth 10 = .ok (.iload 4, 2) := by decide +kernel
theorem dX4_readsBoth_12 : decode cX4_readsBoth 12 = .ok (.sipush 160, 3) := by decide +kernel
theorem dX4_readsBoth_15 : decode cX4_readsBoth 15 = .ok (.if_icmp .ge 41, 3) := by decide +kernel
theorem dX4_readsBoth_18 : decode cX4_readsBoth 18 = .ok (.iload_n 3, 1) := by decide +kernel
theorem dX4_readsBoth_19 : decode cX4_readsBoth 19 = .ok (.ifCond .eq 37, 3) := by decide +kernel
theorem dX4_readsBoth_22 : decode cX4_readsBoth 22 = .ok (.aload_n 0, 1) := by decide +kernel
theorem dX4_readsBoth_23 : decode cX4_readsBoth 23 = .ok (.getfield 25, 3) := by decide +kernel
theorem dX4_readsBoth_26 : decode cX4_readsBoth 26 = .ok (.sipush 304, 3) := by decide +kernel
theorem dX4_readsBoth_29 : decode cX4_readsBoth 29 = .ok (.if_icmp .ne 27, 3) := by decide +kernel
theorem dX4_readsBoth_32 : decode cX4_readsBoth 32 = .ok (.aload_n 0, 1) := by decide +kernel
theorem dX4_readsBoth_33 : decode cX4_readsBoth 33 = .ok (.invokevirtual 22, 3) := by decide +kernel
theorem dX4_readsBoth_36 : decode cX4_readsBoth 36 = .ok (.aload_n 0, 1) := by decide +kernel
theorem dX4_readsBoth_37 : decode cX4_readsBoth 37 = .ok (.aload_n 1, 1) := by decide +kernel
theorem dX4_readsBoth_38 : decode cX4_readsBoth 38 = .ok (.iload_n 2, 1) := by decide +kernel
theorem dX4_readsBoth_39 : decode cX4_readsBoth 39 = .ok (.invokevirtual 47, 3) := by decide +kernel
theorem dX4_readsBoth_42 : decode cX4_readsBoth 42 = .ok (.istore_n 3, 1) := by decide +kernel
theorem dX4_readsBoth_43 : decode cX4_readsBoth 43 = .ok (.aload_n 1, 1) := by decide +kernel
theorem dX4_readsBoth_44 : decode cX4_readsBoth 44 = .ok (.sipush (-304), 3) := by decide +kernel
theorem dX4_readsBoth_47 : decode cX4_readsBoth 47 = .ok (.invokevirtual 44, 3) := by decide +kernel
theorem dX4_readsBoth_50 : decode cX4_readsBoth 50 = .ok (.iinc 4 1, 3) := by decide +kernel
theorem dX4_readsBoth_53 : decode cX4_readsBoth 53 = .ok (.goto (-43), 3) := by decide +kernel
theorem dX4_readsBoth_56 : decode cX4_readsBoth 56 = .ok (.iload_n 3, 1) := by decide +kernel
theorem dX4_readsBoth_57 : decode cX4_readsBoth 57 = .ok (.ireturn, 1) := by decide +kernel
theorem dX4_readsNot_0 : decode cX4_readsNot 0 = .ok (.aload_n 0, 1) := by decide +kernel
theorem dX4_readsNot_1 : decode cX4_readsNot 1 = .ok (.getfield 25, 3) := by decide +kernel
theorem dX4_readsNot_4 : decode cX4_readsNot 4 = .ok (.sipush 305, 3) := by decide +kernel
theorem dX4_readsNot_7 : decode cX4_readsNot 7 = .ok (.if_icmp .ne 32, 3) := by decide +kernel
theorem dX4_readsNot_10 : decode cX4_readsNot 10 = .ok (.iload_n 2, 1) := by decide +kernel
theorem dX4_readsNot_11 : decode cX4_readsNot 11 = .ok (.iconst 5, 1) := by decide +kernel
theorem dX4_readsNot_12 : decode cX4_readsNot 12 = .ok (.if_icmp .lt 5, 3) := by decide +kernel
theorem dX4_readsNot_15 : decode cX4_readsNot 15 = .ok (.iconst 0, 1) := by decide +kernel
theorem dX4_readsNot_16 : decode cX4_readsNot 16 = .ok (.ireturn, 1) := by decide +kernel
theorem dX4_readsNot_17 : decode cX4_readsNot 17 = .ok (.aload_n 0, 1) := by decide +kernel
theorem dX4_readsNot_18 : decode cX4_readsNot 18 = .ok (.invokevirtual 22, 3) := by decide +kernel
theorem dX4_readsNot_21 : decode cX4_readsNot 21 = .ok (.aload_n 0, 1) := by decide +kernel
theorem dX4_readsNot_22 : decode cX4_readsNot 22 = .ok (.aload_n 1, 1) := by decide +kernel
theorem dX4_readsNot_23 : decode cX4_readsNot 23 = .ok (.iload_n 2, 1) := by decide +kernel
theorem dX4_readsNot_24 : decode cX4_readsNot 24 = .ok (.iconst 1, 1) := by decide +kernel
theorem dX4_readsNot_25 : decode cX4_readsNot 25 = .ok (.iadd, 1) := by decide +kernel
theorem dX4_readsNot_26 : decode cX4_readsNot 26 = .ok (.invokevirtual 47, 3) := by decide +kernel
theorem dX4_readsNot_29 : decode cX4_readsNot 29 = .ok (.istore_n 3, 1) := by decide +kernel
theorem dX4_readsNot_30 : decode cX4_readsNot 30 = .ok (.aload_n 1, 1) := by decide +kernel
theorem dX4_readsNot_31 : decode cX4_readsNot 31 = .ok (.sipush (-305), 3) := by decide +kernel
theorem dX4_readsNot_34 : decode cX4_readsNot 34 = .ok (.invokevirtual 44, 3) := by decide +kernel
theorem dX4_readsNot_37 : decode cX4_readsNot 37 = .ok (.iload_n 3, 1) := by decide +kernel
theorem dX4_readsNot_38 : decode cX4_readsNot 38 = .ok (.ireturn, 1) := by decide +kernel
theorem dX4_readsNot_39 : decode cX4_readsNot 39 = .ok (.aload_n 0, 1) := by decide +kernel
theorem dX4_readsNot_40 : decode cX4_readsNot 40 = .ok (.aload_n 1, 1) := by decide +kernel
theorem dX4_readsNot_41 : decode cX4_readsNot 41 = .ok (.iload_n 2, 1) := by decide +kernel
theorem dX4_readsNot_42 : decode cX4_readsNot 42 = .ok (.invokevirtual 50, 3) := by decide +kernel
theorem dX4_readsNot_45 : decode cX4_readsNot 45 = .ok (.istore_n 3, 1) := by decide +kernel
theorem dX4_readsNot_46 : decode cX4_readsNot 46 = .ok (.iload_n 3, 1) := by decide +kernel
theorem dX4_readsNot_47 : decode cX4_readsNot 47 = .ok (.ifCond .eq 45, 3) := by decide +kernel
theorem dX4_readsNot_50 : decode cX4_readsNot 50 = .ok (.aload_n 0, 1) := by decide +kernel
theorem dX4_readsNot_51 : decode cX4_readsNot 51 = .ok (.getfield 25, 3) := by decide +kernel
theorem dX4_readsNot_54 : decode cX4_readsNot 54 = .ok (.bipush 60, 2) := by decide +kernel
theorem dX4_readsNot_56 : decode cX4_readsNot 56 = .ok (.if_icmp .eq 12, 3) := by decide +kernel
theorem dX4_readsNot_59 : decode cX4_readsNot 59 = .ok (.aload_n 0, 1) := by decide +kernel
theorem dX4_readsNot_60 : decode cX4_readsNot 60 = .ok (.getfield 25, 3) := by decide +kernel
theorem dX4_readsNot_63 : decode cX4_readsNot 63 = .ok (.bipush 61, 2) := by decide +kernel
theorem dX4_readsNot_65 : decode cX4_readsNot 65 = .ok (.if_icmp .ne 27, 3) := by decide +kernel
theorem dX4_readsNot_68 : decode cX4_readsNot 68 = .ok (.aload_n 0, 1) := by decide +kernel
theorem dX4_readsNot_69 : decode cX4_readsNot 69 = .ok (.getfield 25, 3) := by decide +kernel
theorem dX4_readsNot_72 : decode cX4_readsNot 72 = .ok (.istore 4, 2) := by decide +kernel
theorem dX4_readsNot_74 : decode cX4_readsNot 74 = .ok (.aload_n 0, 1) := by decide +kernel
theorem dX4_readsNot_75 : decode cX4_readsNot 75 = .ok (.invokevirtual 22, 3) := by decide +kernel
theorem dX4_readsNot_78 : decode cX4_readsNot 78 = .ok (.aload_n 0, 1) := by decide +kernel
theorem dX4_readsNot_79 : decode cX4_readsNot 79 = .ok (.aload_n 1, 1) := by decide +kernel
theorem dX4_readsNot_80 : decode cX4_readsNot 80 = .ok (.iload_n 2, 1) := by decide +kernel
theorem dX4_readsNot_81 : decode cX4_readsNot 81 = .ok (.invokevirtual 50, 3) := by decide +kernel
theorem dX4_readsNot_84 : decode cX4_readsNot 84 = .ok (.istore_n 3, 1) := by decide +kernel
theorem dX4_readsNot_85 : decode cX4_readsNot 85 = .ok (.aload_n 1, 1) := by decide +kernel
theorem dX4_readsNot_86 : decode cX4_readsNot 86 = .ok (.iload 4, 2) := by decide +kernel
theorem dX4_readsNot_88 : decode cX4_readsNot 88 = .ok (.ineg, 1) := by decide +kernel
theorem dX4_readsNot_89 : decode cX4_readsNot 89 = .ok (.invokevirtual 44, 3) := by decide +kernel
theorem dX4_readsNot_92 : decode cX4_readsNot 92 = .ok (.iload_n 3, 1) := by decide +kernel
theorem dX4_readsNot_93 : decode cX4_readsNot 93 = .ok (.ireturn, 1) := by decide +kernel
theorem dX4_readsSum_0 : decode cX4_readsSum 0 = .ok (.aload_n 0, 1) := by decide +kernel
theorem dX4_readsSum_1 : decode cX4_readsSum 1 = .ok (.aload_n 1, 1) := by decide +kernel
theorem dX4_readsSum_2 : decode cX4_readsSum 2 = .ok (.iload_n 2, 1) := by decide +kernel
theorem dX4_readsSum_3 : decode cX4_readsSum 3 = .ok (.invokevirtual 53, 3) := by decide +kernel
theorem dX4_readsSum_6 : decode cX4_readsSum 6 = .ok (.istore_n 3, 1) := by decide +kernel
theorem dX4_readsSum_7 : decode cX4_readsSum 7 = .ok (.iconst 0, 1) := by decide +kernel
theorem dX4_readsSum_8 : decode cX4_readsSum 8 = .ok (.istore 4, 2) := by decide +kernel
theorem dX4_readsSum_10 : decode cX4_readsSum 10 = .ok (.iload 4, 2) := by decide +kernel
theorem dX4_readsSum_12 : decode cX4_readsSum 12 = .ok (.sipush 160, 3) := by decide +kernel
theorem dX4_readsSum_15 : decode cX4_readsSum 15 = .ok (.if_icmp .ge 55, 3) := by decide +kernel
theorem dX4_readsSum_18 : decode cX4_readsSum 18 = .ok (.iload_n 3, 1) := by decide +kernel
theorem dX4_readsSum_19 : decode cX4_readsSum 19 = .ok (.ifCond .eq 51, 3) := by decide +kernel
theorem dX4_readsSum_22 : decode cX4_readsSum 22 = .ok (.aload_n 0, 1) := by decide +kernel
theorem dX4_readsSum_23 : decode cX4_readsSum 23 = .ok (.getfield 25, 3) := by decide +kernel
theorem dX4_readsSum_26 : decode cX4_readsSum 26 = .ok (.bipush 43, 2) := by decide +kernel
theorem dX4_readsSum_28 : decode cX4_readsSum 28 = .ok (.if_icmp .eq 12, 3) := by decide +kernel
theorem dX4_readsSum_31 : decode cX4_readsSum 31 = .ok (.aload_n 0, 1) := by decide +kernel
theorem dX4_readsSum_32 : decode cX4_readsSum 32 = .ok (.getfield 25, 3) := by decide +kernel
theorem dX4_readsSum_35 : decode cX4_readsSum 35 = .ok (.bipush 45, 2) := by decide +kernel
theorem dX4_readsSum_37 : decode cX4_readsSum 37 = .ok (.if_icmp .ne 33, 3) := by decide +kernel
theorem dX4_readsSum_40 : decode cX4_readsSum 40 = .ok (.aload_n 0, 1) := by decide +kernel
theorem dX4_readsSum_41 : decode cX4_readsSum 41 = .ok (.getfield 25, 3) := by decide +kernel
theorem dX4_readsSum_44 : decode cX4_readsSum 44 = .ok (.istore 5, 2) := by decide +kernel
theorem dX4_readsSum_46 : decode cX4_readsSum 46 = .ok (.aload_n 0, 1) := by decide +kernel
theorem dX4_readsSum_47 : decode cX4_readsSum 47 = .ok (.invokevirtual 22, 3) := by decide +kernel
theorem dX4_readsSum_50 : decode cX4_readsSum 50 = .ok (.aload_n 0, 1) := by decide +kernel
theorem dX4_readsSum_51 : decode cX4_readsSum 51 = .ok (.aload_n 1, 1) := by decide +kernel
theorem dX4_readsSum_52 : decode cX4_readsSum 52 = .ok (.iload_n 2, 1) := by decide +kernel
theorem dX4_readsSum_53 : decode cX4_readsSum 53 = .ok (.invokevirtual 53, 3) := by decide +kernel
theorem dX4_readsSum_56 : decode cX4_readsSum 56 = .ok (.istore_n 3, 1) := by decide +kernel
theorem dX4_readsSum_57 : decode cX4_readsSum 57 = .ok (.aload_n 1, 1) := by decide +kernel
theorem dX4_readsSum_58 : decode cX4_readsSum 58 = .ok (.iload 5, 2) := by decide +kernel
theorem dX4_readsSum_60 : decode cX4_readsSum 60 = .ok (.ineg, 1) := by decide +kernel
theorem dX4_readsSum_61 : decode cX4_readsSum 61 = .ok (.invokevirtual 44, 3) := by decide +kernel
theorem dX4_readsSum_64 : decode cX4_readsSum 64 = .ok (.iinc 4 1, 3) := by decide +kernel
theorem dX4_readsSum_67 : decode cX4_readsSum 67 = .ok (.goto (-57), 3) := by decide +kernel
theorem dX4_readsSum_70 : decode cX4_readsSum 70 = .ok (.iload_n 3, 1) := by decide +kernel
theorem dX4_readsSum_71 : decode cX4_readsSum 71 = .ok (.ireturn, 1) := by decide +kernel
theorem dX4_readsTerm_0 : decode cX4_readsTerm 0 = .ok (.aload_n 0, 1) := by decide +kernel
theorem dX4_readsTerm_1 : decode cX4_readsTerm 1 = .ok (.aload_n 1, 1) := by decide +kernel
theorem dX4_readsTerm_2 : decode cX4_readsTerm 2 = .ok (.iload_n 2, 1) := by decide +kernel
theorem dX4_readsTerm_3 : decode cX4_readsTerm 3 = .ok (.invokevirtual 56, 3) := by decide +kernel
theorem dX4_readsTerm_6 : decode cX4_readsTerm 6 = .ok (.istore_n 3, 1) := by decide +kernel
theorem dX4_readsTerm_7 : decode cX4_readsTerm 7 = .ok (.iconst 0, 1) := by decide +kernel
theorem dX4_readsTerm_8 : decode cX4_readsTerm 8 = .ok (.istore 4, 2) := by decide +kernel
theorem dX4_readsTerm_10 : decode cX4_readsTerm 10 = .ok (.iload 4, 2) := by decide +kernel
theorem dX4_readsTerm_12 : decode cX4_readsTerm 12 = .ok (.sipush 160, 3) := by decide +kernel
theorem dX4_readsTerm_15 : decode cX4_readsTerm 15 = .ok (.if_icmp .ge 39, 3) := by decide +kernel
theorem dX4_readsTerm_18 : decode cX4_readsTerm 18 = .ok (.iload_n 3, 1) := by decide +kernel
theorem dX4_readsTerm_19 : decode cX4_readsTerm 19 = .ok (.ifCond .eq 35, 3) := by decide +kernel
theorem dX4_readsTerm_22 : decode cX4_readsTerm 22 = .ok (.aload_n 0, 1) := by decide +kernel
theorem dX4_readsTerm_23 : decode cX4_readsTerm 23 = .ok (.getfield 25, 3) := by decide +kernel
theorem dX4_readsTerm_26 : decode cX4_readsTerm 26 = .ok (.bipush 42, 2) := by decide +kernel
theorem dX4_readsTerm_28 : decode cX4_readsTerm 28 = .ok (.if_icmp .ne 26, 3) := by decide +kernel
theorem dX4_readsTerm_31 : decode cX4_readsTerm 31 = .ok (.aload_n 0, 1) := by decide +kernel
theorem dX4_readsTerm_32 : decode cX4_readsTerm 32 = .ok (.invokevirtual 22, 3) := by decide +kernel
theorem dX4_readsTerm_35 : decode cX4_readsTerm 35 = .ok (.aload_n 0, 1) := by decide +kernel
theorem dX4_readsTerm_36 : decode cX4_readsTerm 36 = .ok (.aload_n 1, 1) := by decide +kernel
theorem dX4_readsTerm_37 : decode cX4_readsTerm 37 = .ok (.iload_n 2, 1) := by decide +kernel
theorem dX4_readsTerm_38 : decode cX4_readsTerm 38 = .ok (.invokevirtual 56, 3) := by decide +kernel
theorem dX4_readsTerm_41 : decode cX4_readsTerm 41 = .ok (.istore_n 3, 1) := by decide +kernel
theorem dX4_readsTerm_42 : decode cX4_readsTerm 42 = .ok (.aload_n 1, 1) := by decide +kernel
theorem dX4_readsTerm_43 : decode cX4_readsTerm 43 = .ok (.bipush (-42), 2) := by decide +kernel
theorem dX4_readsTerm_45 : decode cX4_readsTerm 45 = .ok (.invokevirtual 44, 3) := by decide +kernel
theorem dX4_readsTerm_48 : decode cX4_readsTerm 48 = .ok (.iinc 4 1, 3) := by decide +kernel
theorem dX4_readsTerm_51 : decode cX4_readsTerm 51 = .ok (.goto (-41), 3) := by decide +kernel
theorem dX4_readsTerm_54 : decode cX4_readsTerm 54 = .ok (.iload_n 3, 1) := by decide +kernel
theorem dX4_readsTerm_55 : decode cX4_readsTerm 55 = .ok (.ireturn, 1) := by decide +kernel
theorem dX4_readsOne_0 : decode cX4_readsOne 0 = .ok (.aload_n 0, 1) := by decide +kernel
theorem dX4_readsOne_1 : decode cX4_readsOne 1 = .ok (.getfield 25, 3) := by decide +kernel
theorem dX4_readsOne_4 : decode cX4_readsOne 4 = .ok (.iconst 2, 1) := by decide +kernel
theorem dX4_readsOne_5 : decode cX4_readsOne 5 = .ok (.if_icmp .eq 23, 3) := by decide +kernel
theorem dX4_readsOne_8 : decode cX4_readsOne 8 = .ok (.aload_n 0, 1) := by decide +kernel
theorem dX4_readsOne_9 : decode cX4_readsOne 9 = .ok (.getfield 25, 3) := by decide +kernel
theorem dX4_readsOne_12 : decode cX4_readsOne 12 = .ok (.sipush 306, 3) := by decide +kernel
theorem dX4_readsOne_15 : decode cX4_readsOne 15 = .ok (.if_icmp .lt 43, 3) := by decide +kernel
theorem dX4_readsOne_18 : decode cX4_readsOne 18 = .ok (.aload_n 0, 1) := by decide +kernel
theorem dX4_readsOne_19 : decode cX4_readsOne 19 = .ok (.getfield 25, 3) := by decide +kernel
theorem dX4_readsOne_22 : decode cX4_readsOne 22 = .ok (.sipush 312, 3) := by decide +kernel
theorem dX4_readsOne_25 : decode cX4_readsOne 25 = .ok (.if_icmp .ge 33, 3) := by decide +kernel
theorem dX4_readsOne_28 : decode cX4_readsOne 28 = .ok (.aload_n 1, 1) := by decide +kernel
theorem dX4_readsOne_29 : decode cX4_readsOne 29 = .ok (.aload_n 0, 1) := by decide +kernel
theorem dX4_readsOne_30 : decode cX4_readsOne 30 = .ok (.getfield 25, 3) := by decide +kernel
theorem dX4_readsOne_33 : decode cX4_readsOne 33 = .ok (.iconst 2, 1) := by decide +kernel
theorem dX4_readsOne_34 : decode cX4_readsOne 34 = .ok (.if_icmp .ne 10, 3) := by decide +kernel
theorem dX4_readsOne_37 : decode cX4_readsOne 37 = .ok (.aload_n 0, 1) := by decide +kernel
theorem dX4_readsOne_38 : decode cX4_readsOne 38 = .ok (.getfield 59, 3) := by decide +kernel
theorem dX4_readsOne_41 : decode cX4_readsOne 41 = .ok (.goto 8, 3) := by decide +kernel
theorem dX4_readsOne_44 : decode cX4_readsOne 44 = .ok (.aload_n 0, 1) := by decide +kernel
theorem dX4_readsOne_45 : decode cX4_readsOne 45 = .ok (.getfield 25, 3) := by decide +kernel
theorem dX4_readsOne_48 : decode cX4_readsOne 48 = .ok (.ineg, 1) := by decide +kernel
theorem dX4_readsOne_49 : decode cX4_readsOne 49 = .ok (.invokevirtual 44, 3) := by decide +kernel
theorem dX4_readsOne_52 : decode cX4_readsOne 52 = .ok (.aload_n 0, 1) := by decide +kernel
theorem dX4_readsOne_53 : decode cX4_readsOne 53 = .ok (.invokevirtual 22, 3) := by decide +kernel
theorem dX4_readsOne_56 : decode cX4_readsOne 56 = .ok (.iconst 1, 1) := by decide +kernel
theorem dX4_readsOne_57 : decode cX4_readsOne 57 = .ok (.ireturn, 1) := by decide +kernel
theorem dX4_readsOne_58 : decode cX4_readsOne 58 = .ok (.aload_n 0, 1) := by decide +kernel
theorem dX4_readsOne_59 : decode cX4_readsOne 59 = .ok (.getfield 25, 3) := by decide +kernel
theorem dX4_readsOne_62 : decode cX4_readsOne 62 = .ok (.bipush 45, 2) := by decide +kernel
theorem dX4_readsOne_64 : decode cX4_readsOne 64 = .ok (.if_icmp .eq 12, 3) := by decide +kernel
theorem dX4_readsOne_67 : decode cX4_readsOne 67 = .ok (.aload_n 0, 1) := by decide +kernel
theorem dX4_readsOne_68 : decode cX4_readsOne 68 = .ok (.getfield 25, 3) := by decide +kernel
theorem dX4_readsOne_71 : decode cX4_readsOne 71 = .ok (.bipush 40, 2) := by decide +kernel
theorem dX4_readsOne_73 : decode cX4_readsOne 73 = .ok (.if_icmp .ne 8, 3) := by decide +kernel
theorem dX4_readsOne_76 : decode cX4_readsOne 76 = .ok (.iload_n 2, 1) := by decide +kernel
theorem dX4_readsOne_77 : decode cX4_readsOne 77 = .ok (.iconst 5, 1) := by decide +kernel
theorem dX4_readsOne_78 : decode cX4_readsOne 78 = .ok (.if_icmp .lt 5, 3) := by decide +kernel
theorem dX4_readsOne_81 : decode cX4_readsOne 81 = .ok (.iconst 0, 1) := by decide +kernel
theorem dX4_readsOne_82 : decode cX4_readsOne 82 = .ok (.ireturn, 1) := by decide +kernel
theorem dX4_readsOne_83 : decode cX4_readsOne 83 = .ok (.aload_n 0, 1) := by decide +kernel
theorem dX4_readsOne_84 : decode cX4_readsOne 84 = .ok (.getfield 25, 3) := by decide +kernel
theorem dX4_readsOne_87 : decode cX4_readsOne 87 = .ok (.bipush 45, 2) := by decide +kernel
theorem dX4_readsOne_89 : decode cX4_readsOne 89 = .ok (.if_icmp .ne 25, 3) := by decide +kernel
theorem dX4_readsOne_92 : decode cX4_readsOne 92 = .ok (.aload_n 0, 1) := by decide +kernel
theorem dX4_readsOne_93 : decode cX4_readsOne 93 = .ok (.invokevirtual 22, 3) := by decide +kernel
theorem dX4_readsOne_96 : decode cX4_readsOne 96 = .ok (.aload_n 0, 1) := by decide +kernel
theorem dX4_readsOne_97 : decode cX4_readsOne 97 = .ok (.aload_n 1, 1) := by decide +kernel
theorem dX4_readsOne_98 : decode cX4_readsOne 98 = .ok (.iload_n 2, 1) := by decide +kernel
theorem dX4_readsOne_99 : decode cX4_readsOne 99 = .ok (.iconst 1, 1) := by decide +kernel
theorem dX4_readsOne_100 : decode cX4_readsOne 100 = .ok (.iadd, 1) := by decide +kernel
theorem dX4_readsOne_101 : decode cX4_readsOne 101 = .ok (.invokevirtual 56, 3) := by decide +kernel
theorem dX4_readsOne_104 : decode cX4_readsOne 104 = .ok (.istore_n 3, 1) := by decide +kernel
theorem dX4_readsOne_105 : decode cX4_readsOne 105 = .ok (.aload_n 1, 1) := by decide +kernel
theorem dX4_readsOne_106 : decode cX4_readsOne 106 = .ok (.sipush (-200), 3) := by decide +kernel
theorem dX4_readsOne_109 : decode cX4_readsOne 109 = .ok (.invokevirtual 44, 3) := by decide +kernel
theorem dX4_readsOne_112 : decode cX4_readsOne 112 = .ok (.iload_n 3, 1) := by decide +kernel
theorem dX4_readsOne_113 : decode cX4_readsOne 113 = .ok (.ireturn, 1) := by decide +kernel
theorem dX4_readsOne_114 : decode cX4_readsOne 114 = .ok (.aload_n 0, 1) := by decide +kernel
theorem dX4_readsOne_115 : decode cX4_readsOne 115 = .ok (.invokevirtual 22, 3) := by decide +kernel
theorem dX4_readsOne_118 : decode cX4_readsOne 118 = .ok (.aload_n 0, 1) := by decide +kernel
theorem dX4_readsOne_119 : decode cX4_readsOne 119 = .ok (.aload_n 1, 1) := by decide +kernel
theorem dX4_readsOne_120 : decode cX4_readsOne 120 = .ok (.iload_n 2, 1) := by decide +kernel
theorem dX4_readsOne_121 : decode cX4_readsOne 121 = .ok (.iconst 1, 1) := by decide +kernel
theorem dX4_readsOne_122 : decode cX4_readsOne 122 = .ok (.iadd, 1) := by decide +kernel
theorem dX4_readsOne_123 : decode cX4_readsOne 123 = .ok (.invokevirtual 31, 3) := by decide +kernel
theorem dX4_readsOne_126 : decode cX4_readsOne 126 = .ok (.ifCond .eq 12, 3) := by decide +kernel
theorem dX4_readsOne_129 : decode cX4_readsOne 129 = .ok (.aload_n 0, 1) := by decide +kernel
theorem dX4_readsOne_130 : decode cX4_readsOne 130 = .ok (.getfield 25, 3) := by decide +kernel
theorem dX4_readsOne_133 : decode cX4_readsOne 133 = .ok (.bipush 41, 2) := by decide +kernel
theorem dX4_readsOne_135 : decode cX4_readsOne 135 = .ok (.if_icmp .eq 5, 3) := by decide +kernel
theorem dX4_readsOne_138 : decode cX4_readsOne 138 = .ok (.iconst 0, 1) := by decide +kernel
theorem dX4_readsOne_139 : decode cX4_readsOne 139 = .ok (.ireturn, 1) := by decide +kernel
theorem dX4_readsOne_140 : decode cX4_readsOne 140 = .ok (.aload_n 0, 1) := by decide +kernel
theorem dX4_readsOne_141 : decode cX4_readsOne 141 = .ok (.invokevirtual 22, 3) := by decide +kernel
theorem dX4_readsOne_144 : decode cX4_readsOne 144 = .ok (.iconst 1, 1) := by decide +kernel
theorem dX4_readsOne_145 : decode cX4_readsOne 145 = .ok (.ireturn, 1) := by decide +kernel
theorem dX4_byteAt_0 : decode cX4_byteAt 0 = .ok (.iload_n 1, 1) := by decide +kernel
theorem dX4_byteAt_1 : decode cX4_byteAt 1 = .ok (.ifCond .lt 27, 3) := by decide +kernel
theorem dX4_byteAt_4 : decode cX4_byteAt 4 = .ok (.iload_n 1, 1) := by decide +kernel
theorem dX4_byteAt_5 : decode cX4_byteAt 5 = .ok (.aload_n 0, 1) := by decide +kernel
theorem dX4_byteAt_6 : decode cX4_byteAt 6 = .ok (.getfield 15, 3) := by decide +kernel
theorem dX4_byteAt_9 : decode cX4_byteAt 9 = .ok (.if_icmp .ge 19, 3) := by decide +kernel
theorem dX4_byteAt_12 : decode cX4_byteAt 12 = .ok (.iload_n 1, 1) := by decide +kernel
theorem dX4_byteAt_13 : decode cX4_byteAt 13 = .ok (.sipush 160, 3) := by decide +kernel
theorem dX4_byteAt_16 : decode cX4_byteAt 16 = .ok (.if_icmp .ge 12, 3) := by decide +kernel
theorem dX4_byteAt_19 : decode cX4_byteAt 19 = .ok (.aload_n 0, 1) := by decide +kernel
theorem dX4_byteAt_20 : decode cX4_byteAt 20 = .ok (.getfield 9, 3) := by decide +kernel
theorem dX4_byteAt_23 : decode cX4_byteAt 23 = .ok (.iload_n 1, 1) := by decide +kernel
theorem dX4_byteAt_24 : decode cX4_byteAt 24 = .ok (.iaload, 1) := by decide +kernel
theorem dX4_byteAt_25 : decode cX4_byteAt 25 = .ok (.goto 4, 3) := by decide +kernel
theorem dX4_byteAt_28 : decode cX4_byteAt 28 = .ok (.iconst (-1), 1) := by decide +kernel
theorem dX4_byteAt_29 : decode cX4_byteAt 29 = .ok (.ireturn, 1) := by decide +kernel
theorem dX4_goesOn_0 : decode cX4_goesOn 0 = .ok (.aload_n 0, 1) := by decide +kernel
theorem dX4_goesOn_1 : decode cX4_goesOn 1 = .ok (.aload_n 0, 1) := by decide +kernel
theorem dX4_goesOn_2 : decode cX4_goesOn 2 = .ok (.getfield 19, 3) := by decide +kernel
theorem dX4_goesOn_5 : decode cX4_goesOn 5 = .ok (.putfield 28, 3) := by decide +kernel
theorem dX4_goesOn_8 : decode cX4_goesOn 8 = .ok (.iconst 0, 1) := by decide +kernel
theorem dX4_goesOn_9 : decode cX4_goesOn 9 = .ok (.istore_n 1, 1) := by decide +kernel
theorem dX4_goesOn_10 : decode cX4_goesOn 10 = .ok (.iload_n 1, 1) := by decide +kernel
theorem dX4_goesOn_11 : decode cX4_goesOn 11 = .ok (.sipush 160, 3) := by decide +kernel
theorem dX4_goesOn_14 : decode cX4_goesOn 14 = .ok (.if_icmp .ge 45, 3) := by decide +kernel
theorem dX4_goesOn_17 : decode cX4_goesOn 17 = .ok (.aload_n 0, 1) := by decide +kernel
theorem dX4_goesOn_18 : decode cX4_goesOn 18 = .ok (.aload_n 0, 1) := by decide +kernel
theorem dX4_goesOn_19 : decode cX4_goesOn 19 = .ok (.getfield 28, 3) := by decide +kernel
theorem dX4_goesOn_22 : decode cX4_goesOn 22 = .ok (.invokevirtual 62, 3) := by decide +kernel
theorem dX4_goesOn_25 : decode cX4_goesOn 25 = .ok (.bipush 32, 2) := by decide +kernel
theorem dX4_goesOn_27 : decode cX4_goesOn 27 = .ok (.if_icmp .eq 16, 3) := by decide +kernel
theorem dX4_goesOn_30 : decode cX4_goesOn 30 = .ok (.aload_n 0, 1) := by decide +kernel
theorem dX4_goesOn_31 : decode cX4_goesOn 31 = .ok (.aload_n 0, 1) := by decide +kernel
theorem dX4_goesOn_32 : decode cX4_goesOn 32 = .ok (.getfield 28, 3) := by decide +kernel
theorem dX4_goesOn_35 : decode cX4_goesOn 35 = .ok (.invokevirtual 62, 3) := by decide +kernel
theorem dX4_goesOn_38 : decode cX4_goesOn 38 = .ok (.bipush 10, 2) := by decide +kernel
theorem dX4_goesOn_40 : decode cX4_goesOn 40 = .ok (.if_icmp .ne 19, 3) := by decide +kernel
theorem dX4_goesOn_43 : decode cX4_goesOn 43 = .ok (.aload_n 0, 1) := by decide +kernel
theorem dX4_goesOn_44 : decode cX4_goesOn 44 = .ok (.dup, 1) := by decide +kernel
theorem dX4_goesOn_45 : decode cX4_goesOn 45 = .ok (.getfield 28, 3) := by decide +kernel
theorem dX4_goesOn_48 : decode cX4_goesOn 48 = .ok (.iconst 1, 1) := by decide +kernel
theorem dX4_goesOn_49 : decode cX4_goesOn 49 = .ok (.iadd, 1) := by decide +kernel
theorem dX4_goesOn_50 : decode cX4_goesOn 50 = .ok (.putfield 28, 3) := by decide +kernel
theorem dX4_goesOn_53 : decode cX4_goesOn 53 = .ok (.iinc 1 1, 3) := by decide +kernel
theorem dX4_goesOn_56 : decode cX4_goesOn 56 = .ok (.goto (-46), 3) := by decide +kernel
theorem dX4_goesOn_59 : decode cX4_goesOn 59 = .ok (.aload_n 0, 1) := by decide +kernel
theorem dX4_goesOn_60 : decode cX4_goesOn 60 = .ok (.aload_n 0, 1) := by decide +kernel
theorem dX4_goesOn_61 : decode cX4_goesOn 61 = .ok (.getfield 28, 3) := by decide +kernel
theorem dX4_goesOn_64 : decode cX4_goesOn 64 = .ok (.invokevirtual 62, 3) := by decide +kernel
theorem dX4_goesOn_67 : decode cX4_goesOn 67 = .ok (.istore_n 1, 1) := by decide +kernel
theorem dX4_goesOn_68 : decode cX4_goesOn 68 = .ok (.aload_n 0, 1) := by decide +kernel
theorem dX4_goesOn_69 : decode cX4_goesOn 69 = .ok (.aload_n 0, 1) := by decide +kernel
theorem dX4_goesOn_70 : decode cX4_goesOn 70 = .ok (.getfield 28, 3) := by decide +kernel
theorem dX4_goesOn_73 : decode cX4_goesOn 73 = .ok (.iconst 1, 1) := by decide +kernel
theorem dX4_goesOn_74 : decode cX4_goesOn 74 = .ok (.iadd, 1) := by decide +kernel
theorem dX4_goesOn_75 : decode cX4_goesOn 75 = .ok (.putfield 19, 3) := by decide +kernel
theorem dX4_goesOn_78 : decode cX4_goesOn 78 = .ok (.iload_n 1, 1) := by decide +kernel
theorem dX4_goesOn_79 : decode cX4_goesOn 79 = .ok (.ifCond .ge 19, 3) := by decide +kernel
theorem dX4_goesOn_82 : decode cX4_goesOn 82 = .ok (.aload_n 0, 1) := by decide +kernel
theorem dX4_goesOn_83 : decode cX4_goesOn 83 = .ok (.iconst 0, 1) := by decide +kernel
theorem dX4_goesOn_84 : decode cX4_goesOn 84 = .ok (.putfield 25, 3) := by decide +kernel
theorem dX4_goesOn_87 : decode cX4_goesOn 87 = .ok (.aload_n 0, 1) := by decide +kernel
theorem dX4_goesOn_88 : decode cX4_goesOn 88 = .ok (.aload_n 0, 1) := by decide +kernel
theorem dX4_goesOn_89 : decode cX4_goesOn 89 = .ok (.getfield 28, 3) := by decide +kernel
theorem dX4_goesOn_92 : decode cX4_goesOn 92 = .ok (.putfield 19, 3) := by decide +kernel
theorem dX4_goesOn_95 : decode cX4_goesOn 95 = .ok (.goto 55, 3) := by decide +kernel
theorem dX4_goesOn_98 : decode cX4_goesOn 98 = .ok (.iload_n 1, 1) := by decide +kernel
theorem dX4_goesOn_99 : decode cX4_goesOn 99 = .ok (.invokestatic 66, 3) := by decide +kernel
theorem dX4_goesOn_102 : decode cX4_goesOn 102 = .ok (.ifCond .eq 14, 3) := by decide +kernel
theorem dX4_goesOn_105 : decode cX4_goesOn 105 = .ok (.aload_n 0, 1) := by decide +kernel
theorem dX4_goesOn_106 : decode cX4_goesOn 106 = .ok (.aload_n 0, 1) := by decide +kernel
theorem dX4_goesOn_107 : decode cX4_goesOn 107 = .ok (.invokevirtual 70, 3) := by decide +kernel
theorem dX4_goesOn_110 : decode cX4_goesOn 110 = .ok (.putfield 25, 3) := by decide +kernel
theorem dX4_goesOn_113 : decode cX4_goesOn 113 = .ok (.goto 37, 3) := by decide +kernel
theorem dX4_goesOn_116 : decode cX4_goesOn 116 = .ok (.iload_n 1, 1) := by decide +kernel
theorem dX4_goesOn_117 : decode cX4_goesOn 117 = .ok (.invokestatic 74, 3) := by decide +kernel
theorem dX4_goesOn_120 : decode cX4_goesOn 120 = .ok (.ifCond .eq 14, 3) := by decide +kernel
theorem dX4_goesOn_123 : decode cX4_goesOn 123 = .ok (.aload_n 0, 1) := by decide +kernel
theorem dX4_goesOn_124 : decode cX4_goesOn 124 = .ok (.aload_n 0, 1) := by decide +kernel
theorem dX4_goesOn_125 : decode cX4_goesOn 125 = .ok (.invokevirtual 77, 3) := by decide +kernel
theorem dX4_goesOn_128 : decode cX4_goesOn 128 = .ok (.putfield 25, 3) := by decide +kernel
theorem dX4_goesOn_131 : decode cX4_goesOn 131 = .ok (.goto 19, 3) := by decide +kernel
theorem dX4_goesOn_134 : decode cX4_goesOn 134 = .ok (.aload_n 0, 1) := by decide +kernel
theorem dX4_goesOn_135 : decode cX4_goesOn 135 = .ok (.iload_n 1, 1) := by decide +kernel
theorem dX4_goesOn_136 : decode cX4_goesOn 136 = .ok (.invokestatic 80, 3) := by decide +kernel
theorem dX4_goesOn_139 : decode cX4_goesOn 139 = .ok (.ifCond .eq 7, 3) := by decide +kernel
theorem dX4_goesOn_142 : decode cX4_goesOn 142 = .ok (.iload_n 1, 1) := by decide +kernel
theorem dX4_goesOn_143 : decode cX4_goesOn 143 = .ok (.goto 4, 3) := by decide +kernel
theorem dX4_goesOn_146 : decode cX4_goesOn 146 = .ok (.iconst 1, 1) := by decide +kernel
theorem dX4_goesOn_147 : decode cX4_goesOn 147 = .ok (.putfield 25, 3) := by decide +kernel
theorem dX4_goesOn_150 : decode cX4_goesOn 150 = .ok (.return_, 1) := by decide +kernel
theorem dX4_readsWord_0 : decode cX4_readsWord 0 = .ok (.iconst 0, 1) := by decide +kernel
theorem dX4_readsWord_1 : decode cX4_readsWord 1 = .ok (.istore_n 1, 1) := by decide +kernel
theorem dX4_readsWord_2 : decode cX4_readsWord 2 = .ok (.iload_n 1, 1) := by decide +kernel
theorem dX4_readsWord_3 : decode cX4_readsWord 3 = .ok (.sipush 160, 3) := by decide +kernel
theorem dX4_readsWord_6 : decode cX4_readsWord 6 = .ok (.if_icmp .ge 33, 3) := by decide +kernel
theorem dX4_readsWord_9 : decode cX4_readsWord 9 = .ok (.aload_n 0, 1) := by decide +kernel
theorem dX4_readsWord_10 : decode cX4_readsWord 10 = .ok (.aload_n 0, 1) := by decide +kernel
theorem dX4_readsWord_11 : decode cX4_readsWord 11 = .ok (.getfield 19, 3) := by decide +kernel
theorem dX4_readsWord_14 : decode cX4_readsWord 14 = .ok (.invokevirtual 62, 3) := by decide +kernel
theorem dX4_readsWord_17 : decode cX4_readsWord 17 = .ok (.invokestatic 66, 3) := by decide +kernel
theorem dX4_readsWord_20 : decode cX4_readsWord 20 = .ok (.ifCond .eq 19, 3) := by decide +kernel
theorem dX4_readsWord_23 : decode cX4_readsWord 23 = .ok (.aload_n 0, 1) := by decide +kernel
theorem dX4_readsWord_24 : decode cX4_readsWord 24 = .ok (.dup, 1) := by decide +kernel
theorem dX4_readsWord_25 : decode cX4_readsWord 25 = .ok (.getfield 19, 3) := by decide +kernel
theorem dX4_readsWord_28 : decode cX4_readsWord 28 = .ok (.iconst 1, 1) := by decide +kernel
theorem dX4_readsWord_29 : decode cX4_readsWord 29 = .ok (.iadd, 1) := by decide +kernel
theorem dX4_readsWord_30 : decode cX4_readsWord 30 = .ok (.putfield 19, 3) := by decide +kernel
theorem dX4_readsWord_33 : decode cX4_readsWord 33 = .ok (.iinc 1 1, 3) := by decide +kernel
theorem dX4_readsWord_36 : decode cX4_readsWord 36 = .ok (.goto (-34), 3) := by decide +kernel
theorem dX4_readsWord_39 : decode cX4_readsWord 39 = .ok (.iconst 0, 1) := by decide +kernel
theorem dX4_readsWord_40 : decode cX4_readsWord 40 = .ok (.istore_n 1, 1) := by decide +kernel
theorem dX4_readsWord_41 : decode cX4_readsWord 41 = .ok (.iload_n 1, 1) := by decide +kernel
theorem dX4_readsWord_42 : decode cX4_readsWord 42 = .ok (.bipush 12, 2) := by decide +kernel
theorem dX4_readsWord_44 : decode cX4_readsWord 44 = .ok (.if_icmp .ge 26, 3) := by decide +kernel
theorem dX4_readsWord_47 : decode cX4_readsWord 47 = .ok (.aload_n 0, 1) := by decide +kernel
theorem dX4_readsWord_48 : decode cX4_readsWord 48 = .ok (.iload_n 1, 1) := by decide +kernel
theorem dX4_readsWord_49 : decode cX4_readsWord 49 = .ok (.invokestatic 83, 3) := by decide +kernel
theorem dX4_readsWord_52 : decode cX4_readsWord 52 = .ok (.invokevirtual 87, 3) := by decide +kernel
theorem dX4_readsWord_55 : decode cX4_readsWord 55 = .ok (.ifCond .eq 9, 3) := by decide +kernel
theorem dX4_readsWord_58 : decode cX4_readsWord 58 = .ok (.sipush 300, 3) := by decide +kernel
theorem dX4_readsWord_61 : decode cX4_readsWord 61 = .ok (.iload_n 1, 1) := by decide +kernel
theorem dX4_readsWord_62 : decode cX4_readsWord 62 = .ok (.iadd, 1) := by decide +kernel
theorem dX4_readsWord_63 : decode cX4_readsWord 63 = .ok (.ireturn, 1) := by decide +kernel
theorem dX4_readsWord_64 : decode cX4_readsWord 64 = .ok (.iinc 1 1, 3) := by decide +kernel
theorem dX4_readsWord_67 : decode cX4_readsWord 67 = .ok (.goto (-26), 3) := by decide +kernel
theorem dX4_readsWord_70 : decode cX4_readsWord 70 = .ok (.iconst 1, 1) := by decide +kernel
theorem dX4_readsWord_71 : decode cX4_readsWord 71 = .ok (.ireturn, 1) := by decide +kernel
theorem dX4_readsNumber_0 : decode cX4_readsNumber 0 = .ok (.iconst 0, 1) := by decide +kernel
theorem dX4_readsNumber_1 : decode cX4_readsNumber 1 = .ok (.istore_n 1, 1) := by decide +kernel
theorem dX4_readsNumber_2 : decode cX4_readsNumber 2 = .ok (.iload_n 1, 1) := by decide +kernel
theorem dX4_readsNumber_3 : decode cX4_readsNumber 3 = .ok (.sipush 160, 3) := by decide +kernel
theorem dX4_readsNumber_6 : decode cX4_readsNumber 6 = .ok (.if_icmp .ge 33, 3) := by decide +kernel
theorem dX4_readsNumber_9 : decode cX4_readsNumber 9 = .ok (.aload_n 0, 1) := by decide +kernel
theorem dX4_readsNumber_10 : decode cX4_readsNumber 10 = .ok (.aload_n 0, 1) := by decide +kernel
theorem dX4_readsNumber_11 : decode cX4_readsNumber 11 = .ok (.getfield 19, 3) := by decide +kernel
theorem dX4_readsNumber_14 : decode cX4_readsNumber 14 = .ok (.invokevirtual 62, 3) := by decide +kernel
theorem dX4_readsNumber_17 : decode cX4_readsNumber 17 = .ok (.invokestatic 74, 3) := by decide +kernel
theorem dX4_readsNumber_20 : decode cX4_readsNumber 20 = .ok (.ifCond .eq 19, 3) := by decide +kernel
theorem dX4_readsNumber_23 : decode cX4_readsNumber 23 = .ok (.aload_n 0, 1) := by decide +kernel
theorem dX4_readsNumber_24 : decode cX4_readsNumber 24 = .ok (.dup, 1) := by decide +kernel
theorem dX4_readsNumber_25 : decode cX4_readsNumber 25 = .ok (.getfield 19, 3) := by decide +kernel
theorem dX4_readsNumber_28 : decode cX4_readsNumber 28 = .ok (.iconst 1, 1) := by decide +kernel
theorem dX4_readsNumber_29 : decode cX4_readsNumber 29 = .ok (.iadd, 1) := by decide +kernel
theorem dX4_readsNumber_30 : decode cX4_readsNumber 30 = .ok (.putfield 19, 3) := by decide +kernel
theorem dX4_readsNumber_33 : decode cX4_readsNumber 33 = .ok (.iinc 1 1, 3) := by decide +kernel
theorem dX4_readsNumber_36 : decode cX4_readsNumber 36 = .ok (.goto (-34), 3) := by decide +kernel
theorem dX4_readsNumber_39 : decode cX4_readsNumber 39 = .ok (.aload_n 0, 1) := by decide +kernel
theorem dX4_readsNumber_40 : decode cX4_readsNumber 40 = .ok (.getfield 19, 3) := by decide +kernel
theorem dX4_readsNumber_43 : decode cX4_readsNumber 43 = .ok (.aload_n 0, 1) := by decide +kernel
theorem dX4_readsNumber_44 : decode cX4_readsNumber 44 = .ok (.getfield 28, 3) := by decide +kernel
theorem dX4_readsNumber_47 : decode cX4_readsNumber 47 = .ok (.isub, 1) := by decide +kernel
theorem dX4_readsNumber_48 : decode cX4_readsNumber 48 = .ok (.iconst 4, 1) := by decide +kernel
theorem dX4_readsNumber_49 : decode cX4_readsNumber 49 = .ok (.if_icmp .le 5, 3) := by decide +kernel
theorem dX4_readsNumber_52 : decode cX4_readsNumber 52 = .ok (.iconst 1, 1) := by decide +kernel
theorem dX4_readsNumber_53 : decode cX4_readsNumber 53 = .ok (.ireturn, 1) := by decide +kernel
theorem dX4_readsNumber_54 : decode cX4_readsNumber 54 = .ok (.aload_n 0, 1) := by decide +kernel
theorem dX4_readsNumber_55 : decode cX4_readsNumber 55 = .ok (.iconst 0, 1) := by decide +kernel
theorem dX4_readsNumber_56 : decode cX4_readsNumber 56 = .ok (.putfield 59, 3) := by decide +kernel
theorem dX4_readsNumber_59 : decode cX4_readsNumber 59 = .ok (.aload_n 0, 1) := by decide +kernel
theorem dX4_readsNumber_60 : decode cX4_readsNumber 60 = .ok (.getfield 28, 3) := by decide +kernel
theorem dX4_readsNumber_63 : decode cX4_readsNumber 63 = .ok (.istore_n 1, 1) := by decide +kernel
theorem dX4_readsNumber_64 : decode cX4_readsNumber 64 = .ok (.iload_n 1, 1) := by decide +kernel
theorem dX4_readsNumber_65 : decode cX4_readsNumber 65 = .ok (.aload_n 0, 1) := by decide +kernel
theorem dX4_readsNumber_66 : decode cX4_readsNumber 66 = .ok (.getfield 19, 3) := by decide +kernel
theorem dX4_readsNumber_69 : decode cX4_readsNumber 69 = .ok (.if_icmp .ge 29, 3) := by decide +kernel
theorem dX4_readsNumber_72 : decode cX4_readsNumber 72 = .ok (.aload_n 0, 1) := by decide +kernel
theorem dX4_readsNumber_73 : decode cX4_readsNumber 73 = .ok (.aload_n 0, 1) := by decide +kernel
theorem dX4_readsNumber_74 : decode cX4_readsNumber 74 = .ok (.getfield 59, 3) := by decide +kernel
theorem dX4_readsNumber_77 : decode cX4_readsNumber 77 = .ok (.bipush 10, 2) := by decide +kernel
theorem dX4_readsNumber_79 : decode cX4_readsNumber 79 = .ok (.imul, 1) := by decide +kernel
theorem dX4_readsNumber_80 : decode cX4_readsNumber 80 = .ok (.aload_n 0, 1) := by decide +kernel
theorem dX4_readsNumber_81 : decode cX4_readsNumber 81 = .ok (.iload_n 1, 1) := by decide +kernel
theorem dX4_readsNumber_82 : decode cX4_readsNumber 82 = .ok (.invokevirtual 62, 3) := by decide +kernel
theorem dX4_readsNumber_85 : decode cX4_readsNumber 85 = .ok (.iadd, 1) := by decide +kernel
theorem dX4_readsNumber_86 : decode cX4_readsNumber 86 = .ok (.bipush 48, 2) := by decide +kernel
theorem dX4_readsNumber_88 : decode cX4_readsNumber 88 = .ok (.isub, 1) := by decide +kernel
theorem dX4_readsNumber_89 : decode cX4_readsNumber 89 = .ok (.putfield 59, 3) := by decide +kernel
theorem dX4_readsNumber_92 : decode cX4_readsNumber 92 = .ok (.iinc 1 1, 3) := by decide +kernel
theorem dX4_readsNumber_95 : decode cX4_readsNumber 95 = .ok (.goto (-31), 3) := by decide +kernel
theorem dX4_readsNumber_98 : decode cX4_readsNumber 98 = .ok (.iconst 2, 1) := by decide +kernel
theorem dX4_readsNumber_99 : decode cX4_readsNumber 99 = .ok (.ireturn, 1) := by decide +kernel
theorem dX4_stands_0 : decode cX4_stands 0 = .ok (.aload_n 1, 1) := by decide +kernel
theorem dX4_stands_1 : decode cX4_stands 1 = .ok (.invokevirtual 91, 3) := by decide +kernel
theorem dX4_stands_4 : decode cX4_stands 4 = .ok (.aload_n 0, 1) := by decide +kernel
theorem dX4_stands_5 : decode cX4_stands 5 = .ok (.getfield 19, 3) := by decide +kernel
theorem dX4_stands_8 : decode cX4_stands 8 = .ok (.aload_n 0, 1) := by decide +kernel
theorem dX4_stands_9 : decode cX4_stands 9 = .ok (.getfield 28, 3) := by decide +kernel
theorem dX4_stands_12 : decode cX4_stands 12 = .ok (.isub, 1) := by decide +kernel
theorem dX4_stands_13 : decode cX4_stands 13 = .ok (.if_icmp .eq 5, 3) := by decide +kernel
theorem dX4_stands_16 : decode cX4_stands 16 = .ok (.iconst 0, 1) := by decide +kernel
theorem dX4_stands_17 : decode cX4_stands 17 = .ok (.ireturn, 1) := by decide +kernel
theorem dX4_stands_18 : decode cX4_stands 18 = .ok (.iconst 0, 1) := by decide +kernel
theorem dX4_stands_19 : decode cX4_stands 19 = .ok (.istore_n 2, 1) := by decide +kernel
theorem dX4_stands_20 : decode cX4_stands 20 = .ok (.iload_n 2, 1) := by decide +kernel
theorem dX4_stands_21 : decode cX4_stands 21 = .ok (.aload_n 1, 1) := by decide +kernel
theorem dX4_stands_22 : decode cX4_stands 22 = .ok (.invokevirtual 91, 3) := by decide +kernel
theorem dX4_stands_25 : decode cX4_stands 25 = .ok (.if_icmp .ge 29, 3) := by decide +kernel
theorem dX4_stands_28 : decode cX4_stands 28 = .ok (.aload_n 1, 1) := by decide +kernel
theorem dX4_stands_29 : decode cX4_stands 29 = .ok (.iload_n 2, 1) := by decide +kernel
theorem dX4_stands_30 : decode cX4_stands 30 = .ok (.invokevirtual 96, 3) := by decide +kernel
theorem dX4_stands_33 : decode cX4_stands 33 = .ok (.aload_n 0, 1) := by decide +kernel
theorem dX4_stands_34 : decode cX4_stands 34 = .ok (.aload_n 0, 1) := by decide +kernel
theorem dX4_stands_35 : decode cX4_stands 35 = .ok (.getfield 28, 3) := by decide +kernel
theorem dX4_stands_38 : decode cX4_stands 38 = .ok (.iload_n 2, 1) := by decide +kernel
theorem dX4_stands_39 : decode cX4_stands 39 = .ok (.iadd, 1) := by decide +kernel
theorem dX4_stands_40 : decode cX4_stands 40 = .ok (.invokevirtual 62, 3) := by decide +kernel
theorem dX4_stands_43 : decode cX4_stands 43 = .ok (.if_icmp .eq 5, 3) := by decide +kernel
theorem dX4_stands_46 : decode cX4_stands 46 = .ok (.iconst 0, 1) := by decide +kernel
theorem dX4_stands_47 : decode cX4_stands 47 = .ok (.ireturn, 1) := by decide +kernel
theorem dX4_stands_48 : decode cX4_stands 48 = .ok (.iinc 2 1, 3) := by decide +kernel
theorem dX4_stands_51 : decode cX4_stands 51 = .ok (.goto (-31), 3) := by decide +kernel
theorem dX4_stands_54 : decode cX4_stands 54 = .ok (.iconst 1, 1) := by decide +kernel
theorem dX4_stands_55 : decode cX4_stands 55 = .ok (.ireturn, 1) := by decide +kernel
theorem dX4_isLetter_0 : decode cX4_isLetter 0 = .ok (.iload_n 0, 1) := by decide +kernel
theorem dX4_isLetter_1 : decode cX4_isLetter 1 = .ok (.bipush 97, 2) := by decide +kernel
theorem dX4_isLetter_3 : decode cX4_isLetter 3 = .ok (.if_icmp .lt 13, 3) := by decide +kernel
theorem dX4_isLetter_6 : decode cX4_isLetter 6 = .ok (.iload_n 0, 1) := by decide +kernel
theorem dX4_isLetter_7 : decode cX4_isLetter 7 = .ok (.bipush 122, 2) := by decide +kernel
theorem dX4_isLetter_9 : decode cX4_isLetter 9 = .ok (.if_icmp .gt 7, 3) := by decide +kernel
theorem dX4_isLetter_12 : decode cX4_isLetter 12 = .ok (.iconst 1, 1) := by decide +kernel
theorem dX4_isLetter_13 : decode cX4_isLetter 13 = .ok (.goto 4, 3) := by decide +kernel
theorem dX4_isLetter_16 : decode cX4_isLetter 16 = .ok (.iconst 0, 1) := by decide +kernel
theorem dX4_isLetter_17 : decode cX4_isLetter 17 = .ok (.ireturn, 1) := by decide +kernel
theorem dX4_isDigit_0 : decode cX4_isDigit 0 = .ok (.iload_n 0, 1) := by decide +kernel
theorem dX4_isDigit_1 : decode cX4_isDigit 1 = .ok (.bipush 48, 2) := by decide +kernel
theorem dX4_isDigit_3 : decode cX4_isDigit 3 = .ok (.if_icmp .lt 13, 3) := by decide +kernel
theorem dX4_isDigit_6 : decode cX4_isDigit 6 = .ok (.iload_n 0, 1) := by decide +kernel
theorem dX4_isDigit_7 : decode cX4_isDigit 7 = .ok (.bipush 57, 2) := by decide +kernel
theorem dX4_isDigit_9 : decode cX4_isDigit 9 = .ok (.if_icmp .gt 7, 3) := by decide +kernel
theorem dX4_isDigit_12 : decode cX4_isDigit 12 = .ok (.iconst 1, 1) := by decide +kernel
theorem dX4_isDigit_13 : decode cX4_isDigit 13 = .ok (.goto 4, 3) := by decide +kernel
theorem dX4_isDigit_16 : decode cX4_isDigit 16 = .ok (.iconst 0, 1) := by decide +kernel
theorem dX4_isDigit_17 : decode cX4_isDigit 17 = .ok (.ireturn, 1) := by decide +kernel
theorem dX4_isSign_0 : decode cX4_isSign 0 = .ok (.iload_n 0, 1) := by decide +kernel
theorem dX4_isSign_1 : decode cX4_isSign 1 = .ok (.bipush 40, 2) := by decide +kernel
theorem dX4_isSign_3 : decode cX4_isSign 3 = .ok (.if_icmp .eq 45, 3) := by decide +kernel
theorem dX4_isSign_6 : decode cX4_isSign 6 = .ok (.iload_n 0, 1) := by decide +kernel
theorem dX4_isSign_7 : decode cX4_isSign 7 = .ok (.bipush 41, 2) := by decide +kernel
theorem dX4_isSign_9 : decode cX4_isSign 9 = .ok (.if_icmp .eq 39, 3) := by decide +kernel
theorem dX4_isSign_12 : decode cX4_isSign 12 = .ok (.iload_n 0, 1) := by decide +kernel
theorem dX4_isSign_13 : decode cX4_isSign 13 = .ok (.bipush 59, 2) := by decide +kernel
theorem dX4_isSign_15 : decode cX4_isSign 15 = .ok (.if_icmp .eq 33, 3) := by decide +kernel
theorem dX4_isSign_18 : decode cX4_isSign 18 = .ok (.iload_n 0, 1) := by decide +kernel
theorem dX4_isSign_19 : decode cX4_isSign 19 = .ok (.bipush 43, 2) := by decide +kernel
theorem dX4_isSign_21 : decode cX4_isSign 21 = .ok (.if_icmp .eq 27, 3) := by decide +kernel
theorem dX4_isSign_24 : decode cX4_isSign 24 = .ok (.iload_n 0, 1) := by decide +kernel
theorem dX4_isSign_25 : decode cX4_isSign 25 = .ok (.bipush 45, 2) := by decide +kernel
theorem dX4_isSign_27 : decode cX4_isSign 27 = .ok (.if_icmp .eq 21, 3) := by decide +kernel
theorem dX4_isSign_30 : decode cX4_isSign 30 = .ok (.iload_n 0, 1) := by decide +kernel
theorem dX4_isSign_31 : decode cX4_isSign 31 = .ok (.bipush 42, 2) := by decide +kernel
theorem dX4_isSign_33 : decode cX4_isSign 33 = .ok (.if_icmp .eq 15, 3) := by decide +kernel
theorem dX4_isSign_36 : decode cX4_isSign 36 = .ok (.iload_n 0, 1) := by decide +kernel
theorem dX4_isSign_37 : decode cX4_isSign 37 = .ok (.bipush 60, 2) := by decide +kernel
theorem dX4_isSign_39 : decode cX4_isSign 39 = .ok (.if_icmp .eq 9, 3) := by decide +kernel
theorem dX4_isSign_42 : decode cX4_isSign 42 = .ok (.iload_n 0, 1) := by decide +kernel
theorem dX4_isSign_43 : decode cX4_isSign 43 = .ok (.bipush 61, 2) := by decide +kernel
theorem dX4_isSign_45 : decode cX4_isSign 45 = .ok (.if_icmp .ne 7, 3) := by decide +kernel
theorem dX4_isSign_48 : decode cX4_isSign 48 = .ok (.iconst 1, 1) := by decide +kernel
theorem dX4_isSign_49 : decode cX4_isSign 49 = .ok (.goto 4, 3) := by decide +kernel
theorem dX4_isSign_52 : decode cX4_isSign 52 = .ok (.iconst 0, 1) := by decide +kernel
theorem dX4_isSign_53 : decode cX4_isSign 53 = .ok (.ireturn, 1) := by decide +kernel
theorem dX4_wordOf_0 : decode cX4_wordOf 0 = .ok (.iload_n 0, 1) := by decide +kernel
theorem dX4_wordOf_1 : decode cX4_wordOf 1 = .ok (.tableswitch 92 0 10 #[59, 62, 65, 68, 71, 74, 77, 80, 83, 86, 89], 59) := by decide +kernel
theorem dX4_wordOf_60 : decode cX4_wordOf 60 = .ok (.ldc 100, 2) := by decide +kernel
theorem dX4_wordOf_62 : decode cX4_wordOf 62 = .ok (.areturn, 1) := by decide +kernel
theorem dX4_wordOf_63 : decode cX4_wordOf 63 = .ok (.ldc 102, 2) := by decide +kernel
theorem dX4_wordOf_65 : decode cX4_wordOf 65 = .ok (.areturn, 1) := by decide +kernel
theorem dX4_wordOf_66 : decode cX4_wordOf 66 = .ok (.ldc 104, 2) := by decide +kernel
theorem dX4_wordOf_68 : decode cX4_wordOf 68 = .ok (.areturn, 1) := by decide +kernel
theorem dX4_wordOf_69 : decode cX4_wordOf 69 = .ok (.ldc 106, 2) := by decide +kernel
theorem dX4_wordOf_71 : decode cX4_wordOf 71 = .ok (.areturn, 1) := by decide +kernel
theorem dX4_wordOf_72 : decode cX4_wordOf 72 = .ok (.ldc 108, 2) := by decide +kernel
theorem dX4_wordOf_74 : decode cX4_wordOf 74 = .ok (.areturn, 1) := by decide +kernel
theorem dX4_wordOf_75 : decode cX4_wordOf 75 = .ok (.ldc 110, 2) := by decide +kernel
theorem dX4_wordOf_77 : decode cX4_wordOf 77 = .ok (.areturn, 1) := by decide +kernel
theorem dX4_wordOf_78 : decode cX4_wordOf 78 = .ok (.ldc 112, 2) := by decide +kernel
theorem dX4_wordOf_80 : decode cX4_wordOf 80 = .ok (.areturn, 1) := by decide +kernel
theorem dX4_wordOf_81 : decode cX4_wordOf 81 = .ok (.ldc 114, 2) := by decide +kernel
theorem dX4_wordOf_83 : decode cX4_wordOf 83 = .ok (.areturn, 1) := by decide +kernel
theorem dX4_wordOf_84 : decode cX4_wordOf 84 = .ok (.ldc 116, 2) := by decide +kernel
theorem dX4_wordOf_86 : decode cX4_wordOf 86 = .ok (.areturn, 1) := by decide +kernel
theorem dX4_wordOf_87 : decode cX4_wordOf 87 = .ok (.ldc 118, 2) := by decide +kernel
theorem dX4_wordOf_89 : decode cX4_wordOf 89 = .ok (.areturn, 1) := by decide +kernel
theorem dX4_wordOf_90 : decode cX4_wordOf 90 = .ok (.ldc 120, 2) := by decide +kernel
theorem dX4_wordOf_92 : decode cX4_wordOf 92 = .ok (.areturn, 1) := by decide +kernel
theorem dX4_wordOf_93 : decode cX4_wordOf 93 = .ok (.ldc 122, 2) := by decide +kernel
theorem dX4_wordOf_95 : decode cX4_wordOf 95 = .ok (.areturn, 1) := by decide +kernel
theorem dX5_init_0 : decode cX5_init 0 = .ok (.aload_n 0, 1) := by decide +kernel
theorem dX5_init_1 : decode cX5_init 1 = .ok (.invokespecial 3, 3) := by decide +kernel
theorem dX5_init_4 : decode cX5_init 4 = .ok (.aload_n 0, 1) := by decide +kernel
theorem dX5_init_5 : decode cX5_init 5 = .ok (.iconst 1, 1) := by decide +kernel
theorem dX5_init_6 : decode cX5_init 6 = .ok (.putfield 9, 3) := by decide +kernel
theorem dX5_init_9 : decode cX5_init 9 = .ok (.aload_n 0, 1) := by decide +kernel
theorem dX5_init_10 : decode cX5_init 10 = .ok (.sipush 960, 3) := by decide +kernel
theorem dX5_init_13 : decode cX5_init 13 = .ok (.newarray .int, 2) := by decide +kernel
theorem dX5_init_15 : decode cX5_init 15 = .ok (.putfield 15, 3) := by decide +kernel
theorem dX5_init_18 : decode cX5_init 18 = .ok (.aload_n 0, 1) := by decide +kernel
theorem dX5_init_19 : decode cX5_init 19 = .ok (.bipush 18, 2) := by decide +kernel
theorem dX5_init_21 : decode cX5_init 21 = .ok (.newarray .int, 2) := by decide +kernel
theorem dX5_init_23 : decode cX5_init 23 = .ok (.putfield 19, 3) := by decide +kernel
theorem dX5_init_26 : decode cX5_init 26 = .ok (.aload_n 0, 1) := by decide +kernel
theorem dX5_init_27 : decode cX5_init 27 = .ok (.bipush 6, 2) := by decide +kernel
theorem dX5_init_29 : decode cX5_init 29 = .ok (.newarray .int, 2) := by decide +kernel
theorem dX5_init_31 : decode cX5_init 31 = .ok (.putfield 22, 3) := by decide +kernel
theorem dX5_init_34 : decode cX5_init 34 = .ok (.aload_n 0, 1) := by decide +kernel
theorem dX5_init_35 : decode cX5_init 35 = .ok (.sipush 160, 3) := by decide +kernel
theorem dX5_init_38 : decode cX5_init 38 = .ok (.newarray .int, 2) := by decide +kernel
theorem dX5_init_40 : decode cX5_init 40 = .ok (.putfield 25, 3) := by decide +kernel
theorem dX5_init_43 : decode cX5_init 43 = .ok (.aload_n 0, 1) := by decide +kernel
theorem dX5_init_44 : decode cX5_init 44 = .ok (.getfield 15, 3) := by decide +kernel
theorem dX5_init_47 : decode cX5_init 47 = .ok (.iconst 0, 1) := by decide +kernel
theorem dX5_init_48 : decode cX5_init 48 = .ok (.bipush 10, 2) := by decide +kernel
theorem dX5_init_50 : decode cX5_init 50 = .ok (.iastore, 1) := by decide +kernel
theorem dX5_init_51 : decode cX5_init 51 = .ok (.aload_n 0, 1) := by decide +kernel
theorem dX5_init_52 : decode cX5_init 52 = .ok (.getfield 15, 3) := by decide +kernel
theorem dX5_init_55 : decode cX5_init 55 = .ok (.iconst 1, 1) := by decide +kernel
theorem dX5_init_56 : decode cX5_init 56 = .ok (.iconst 1, 1) := by decide +kernel
theorem dX5_init_57 : decode cX5_init 57 = .ok (.iastore, 1) := by decide +kernel
theorem dX5_init_58 : decode cX5_init 58 = .ok (.aload_n 0, 1) := by decide +kernel
theorem dX5_init_59 : decode cX5_init 59 = .ok (.getfield 15, 3) := by decide +kernel
theorem dX5_init_62 : decode cX5_init 62 = .ok (.iconst 2, 1) := by decide +kernel
theorem dX5_init_63 : decode cX5_init 63 = .ok (.bipush 50, 2) := by decide +kernel
theorem dX5_init_65 : decode cX5_init 65 = .ok (.iastore, 1) := by decide +kernel
theorem dX5_init_66 : decode cX5_init 66 = .ok (.aload_n 0, 1) := by decide +kernel
theorem dX5_init_67 : decode cX5_init 67 = .ok (.getfield 19, 3) := by decide +kernel
theorem dX5_init_70 : decode cX5_init 70 = .ok (.iconst 0, 1) := by decide +kernel
theorem dX5_init_71 : decode cX5_init 71 = .ok (.iconst 1, 1) := by decide +kernel
theorem dX5_init_72 : decode cX5_init 72 = .ok (.iastore, 1) := by decide +kernel
theorem dX5_init_73 : decode cX5_init 73 = .ok (.aload_n 0, 1) := by decide +kernel
theorem dX5_init_74 : decode cX5_init 74 = .ok (.getfield 19, 3) := by decide +kernel
theorem dX5_init_77 : decode cX5_init 77 = .ok (.iconst 1, 1) := by decide +kernel
theorem dX5_init_78 : decode cX5_init 78 = .ok (.iconst 2, 1) := by decide +kernel
theorem dX5_init_79 : decode cX5_init 79 = .ok (.iastore, 1) := by decide +kernel
theorem dX5_init_80 : decode cX5_init 80 = .ok (.aload_n 0, 1) := by decide +kernel
theorem dX5_init_81 : decode cX5_init 81 = .ok (.getfield 19, 3) := by decide +kernel
theorem dX5_init_84 : decode cX5_init 84 = .ok (.iconst 2, 1) := by decide +kernel
theorem dX5_init_85 : decode cX5_init 85 = .ok (.iconst 3, 1) := by decide +kernel
theorem dX5_init_86 : decode cX5_init 86 = .ok (.iastore, 1) := by decide +kernel
theorem dX5_init_87 : decode cX5_init 87 = .ok (.return_, 1) := by decide +kernel
theorem dX5_beginsText_0 : decode cX5_beginsText 0 = .ok (.aload_n 0, 1) := by decide +kernel
theorem dX5_beginsText_1 : decode cX5_beginsText 1 = .ok (.iconst 0, 1) := by decide +kernel
theorem dX5_beginsText_2 : decode cX5_beginsText 2 = .ok (.putfield 28, 3) := by decide +kernel
theorem dX5_beginsText_5 : decode cX5_beginsText 5 = .ok (.return_, 1) := by decide +kernel
theorem dX5_adds_0 : decode cX5_adds 0 = .ok (.aload_n 0, 1) := by decide +kernel
theorem dX5_adds_1 : decode cX5_adds 1 = .ok (.getfield 9, 3) := by decide +kernel
theorem dX5_adds_4 : decode cX5_adds 4 = .ok (.ifCond .lt 58, 3) := by decide +kernel
theorem dX5_adds_7 : decode cX5_adds 7 = .ok (.aload_n 0, 1) := by decide +kernel
theorem dX5_adds_8 : decode cX5_adds 8 = .ok (.getfield 9, 3) := by decide +kernel
theorem dX5_adds_11 : decode cX5_adds 11 = .ok (.bipush 6, 2) := by decide +kernel
theorem dX5_adds_13 : decode cX5_adds 13 = .ok (.if_icmp .ge 49, 3) := by decide +kernel
theorem dX5_adds_16 : decode cX5_adds 16 = .ok (.aload_n 0, 1) := by decide +kernel
theorem dX5_adds_17 : decode cX5_adds 17 = .ok (.getfield 28, 3) := by decide +kernel
theorem dX5_adds_20 : decode cX5_adds 20 = .ok (.ifCond .lt 42, 3) := by decide +kernel
theorem dX5_adds_23 : decode cX5_adds 23 = .ok (.aload_n 0, 1) := by decide +kernel
theorem dX5_adds_24 : decode cX5_adds 24 = .ok (.getfield 28, 3) := by decide +kernel
theorem dX5_adds_27 : decode cX5_adds 27 = .ok (.sipush 160, 3) := by decide +kernel
theorem dX5_adds_30 : decode cX5_adds 30 = .ok (.if_icmp .ge 32, 3) := by decide +kernel
theorem dX5_adds_33 : decode cX5_adds 33 = .ok (.aload_n 0, 1) := by decide +kernel
theorem dX5_adds_34 : decode cX5_adds 34 = .ok (.getfield 15, 3) := by decide +kernel
theorem dX5_adds_37 : decode cX5_adds 37 = .ok (.aload_n 0, 1) := by decide +kernel
theorem dX5_adds_38 : decode cX5_adds 38 = .ok (.getfield 9, 3) := by decide +kernel
theorem dX5_adds_41 : decode cX5_adds 41 = .ok (.sipush 160, 3) := by decide +kernel
theorem dX5_adds_44 : decode cX5_adds 44 = .ok (.imul, 1) := by decide +kernel
theorem dX5_adds_45 : decode cX5_adds 45 = .ok (.aload_n 0, 1) := by decide +kernel
theorem dX5_adds_46 : decode cX5_adds 46 = .ok (.getfield 28, 3) := by decide +kernel
theorem dX5_adds_49 : decode cX5_adds 49 = .ok (.iadd, 1) := by decide +kernel
theorem dX5_adds_50 : decode cX5_adds 50 = .ok (.iload_n 1, 1) := by decide +kernel
theorem dX5_adds_51 : decode cX5_adds 51 = .ok (.iastore, 1) := by decide +kernel
theorem dX5_adds_52 : decode cX5_adds 52 = .ok (.aload_n 0, 1) := by decide +kernel
theorem dX5_adds_53 : decode cX5_adds 53 = .ok (.dup, 1) := by decide +kernel
theorem dX5_adds_54 : decode cX5_adds 54 = .ok (.getfield 28, 3) := by decide +kernel
theorem dX5_adds_57 : decode cX5_adds 57 = .ok (.iconst 1, 1) := by decide +kernel
theorem dX5_adds_58 : decode cX5_adds 58 = .ok (.iadd, 1) := by decide +kernel
theorem dX5_adds_59 : decode cX5_adds 59 = .ok (.putfield 28, 3) := by decide +kernel
theorem dX5_adds_62 : decode cX5_adds 62 = .ok (.return_, 1) := by decide +kernel
theorem dX5_endsPart_0 : decode cX5_endsPart 0 = .ok (.aload_n 0, 1) := by decide +kernel
theorem dX5_endsPart_1 : decode cX5_endsPart 1 = .ok (.getfield 9, 3) := by decide +kernel
theorem dX5_endsPart_4 : decode cX5_endsPart 4 = .ok (.ifCond .lt 38, 3) := by decide +kernel
theorem dX5_endsPart_7 : decode cX5_endsPart 7 = .ok (.aload_n 0, 1) := by decide +kernel
theorem dX5_endsPart_8 : decode cX5_endsPart 8 = .ok (.getfield 9, 3) := by decide +kernel
theorem dX5_endsPart_11 : decode cX5_endsPart 11 = .ok (.bipush 6, 2) := by decide +kernel
theorem dX5_endsPart_13 : decode cX5_endsPart 13 = .ok (.if_icmp .ge 29, 3) := by decide +kernel
theorem dX5_endsPart_16 : decode cX5_endsPart 16 = .ok (.iload_n 1, 1) := by decide +kernel
theorem dX5_endsPart_17 : decode cX5_endsPart 17 = .ok (.ifCond .lt 25, 3) := by decide +kernel
theorem dX5_endsPart_20 : decode cX5_endsPart 20 = .ok (.iload_n 1, 1) := by decide +kernel
theorem dX5_endsPart_21 : decode cX5_endsPart 21 = .ok (.iconst 3, 1) := by decide +kernel
theorem dX5_endsPart_22 : decode cX5_endsPart 22 = .ok (.if_icmp .ge 20, 3) := by decide +kernel
theorem dX5_endsPart_25 : decode cX5_endsPart 25 = .ok (.aload_n 0, 1) := by decide +kernel
theorem dX5_endsPart_26 : decode cX5_endsPart 26 = .ok (.getfield 19, 3) := by decide +kernel
theorem dX5_endsPart_29 : decode cX5_endsPart 29 = .ok (.aload_n 0, 1) := by decide +kernel
theorem dX5_endsPart_30 : decode cX5_endsPart 30 = .ok (.getfield 9, 3) := by decide +kernel
theorem dX5_endsPart_33 : decode cX5_endsPart 33 = .ok (.iconst 3, 1) := by decide +kernel
theorem dX5_endsPart_34 : decode cX5_endsPart 34 = .ok (.imul, 1) := by decide +kernel
theorem dX5_endsPart_35 : decode cX5_endsPart 35 = .ok (.iload_n 1, 1) := by decide +kernel
theorem dX5_endsPart_36 : decode cX5_endsPart 36 = .ok (.iadd, 1) := by decide +kernel
theorem dX5_endsPart_37 : decode cX5_endsPart 37 = .ok (.aload_n 0, 1) := by decide +kernel
theorem dX5_endsPart_38 : decode cX5_endsPart 38 = .ok (.getfield 28, 3) := by decide +kernel
theorem dX5_endsPart_41 : decode cX5_endsPart 41 = .ok (.iastore, 1) := by decide +kernel
theorem dX5_endsPart_42 : decode cX5_endsPart 42 = .ok (.return_, 1) := by decide +kernel
theorem dX5_keepsText_0 : decode cX5_keepsText 0 = .ok (.aload_n 0, 1) := by decide +kernel
theorem dX5_keepsText_1 : decode cX5_keepsText 1 = .ok (.dup, 1) := by decide +kernel
theorem dX5_keepsText_2 : decode cX5_keepsText 2 = .ok (.getfield 9, 3) := by decide +kernel
theorem dX5_keepsText_5 : decode cX5_keepsText 5 = .ok (.iconst 1, 1) := by decide +kernel
theorem dX5_keepsText_6 : decode cX5_keepsText 6 = .ok (.iadd, 1) := by decide +kernel
theorem dX5_keepsText_7 : decode cX5_keepsText 7 = .ok (.putfield 9, 3) := by decide +kernel
theorem dX5_keepsText_10 : decode cX5_keepsText 10 = .ok (.aload_n 0, 1) := by decide +kernel
theorem dX5_keepsText_11 : decode cX5_keepsText 11 = .ok (.getfield 9, 3) := by decide +kernel
theorem dX5_keepsText_14 : decode cX5_keepsText 14 = .ok (.iconst 1, 1) := by decide +kernel
theorem dX5_keepsText_15 : decode cX5_keepsText 15 = .ok (.isub, 1) := by decide +kernel
theorem dX5_keepsText_16 : decode cX5_keepsText 16 = .ok (.ireturn, 1) := by decide +kernel
theorem dX5_tellsLinen_0 : decode cX5_tellsLinen 0 = .ok (.aload_n 0, 1) := by decide +kernel
theorem dX5_tellsLinen_1 : decode cX5_tellsLinen 1 = .ok (.getfield 22, 3) := by decide +kernel
theorem dX5_tellsLinen_4 : decode cX5_tellsLinen 4 = .ok (.iconst 0, 1) := by decide +kernel
theorem dX5_tellsLinen_5 : decode cX5_tellsLinen 5 = .ok (.iload_n 1, 1) := by decide +kernel
theorem dX5_tellsLinen_6 : decode cX5_tellsLinen 6 = .ok (.iastore, 1) := by decide +kernel
theorem dX5_tellsLinen_7 : decode cX5_tellsLinen 7 = .ok (.aload_n 0, 1) := by decide +kernel
theorem dX5_tellsLinen_8 : decode cX5_tellsLinen 8 = .ok (.getfield 22, 3) := by decide +kernel
theorem dX5_tellsLinen_11 : decode cX5_tellsLinen 11 = .ok (.iconst 1, 1) := by decide +kernel
theorem dX5_tellsLinen_12 : decode cX5_tellsLinen 12 = .ok (.iload_n 2, 1) := by decide +kernel
theorem dX5_tellsLinen_13 : decode cX5_tellsLinen 13 = .ok (.iastore, 1) := by decide +kernel
theorem dX5_tellsLinen_14 : decode cX5_tellsLinen 14 = .ok (.aload_n 0, 1) := by decide +kernel
theorem dX5_tellsLinen_15 : decode cX5_tellsLinen 15 = .ok (.getfield 22, 3) := by decide +kernel
theorem dX5_tellsLinen_18 : decode cX5_tellsLinen 18 = .ok (.iconst 2, 1) := by decide +kernel
theorem dX5_tellsLinen_19 : decode cX5_tellsLinen 19 = .ok (.iload_n 3, 1) := by decide +kernel
theorem dX5_tellsLinen_20 : decode cX5_tellsLinen 20 = .ok (.iastore, 1) := by decide +kernel
theorem dX5_tellsLinen_21 : decode cX5_tellsLinen 21 = .ok (.aload_n 0, 1) := by decide +kernel
theorem dX5_tellsLinen_22 : decode cX5_tellsLinen 22 = .ok (.getfield 22, 3) := by decide +kernel
theorem dX5_tellsLinen_25 : decode cX5_tellsLinen 25 = .ok (.iconst 3, 1) := by decide +kernel
theorem dX5_tellsLinen_26 : decode cX5_tellsLinen 26 = .ok (.iload 4, 2) := by decide +kernel
theorem dX5_tellsLinen_28 : decode cX5_tellsLinen 28 = .ok (.iastore, 1) := by decide +kernel
theorem dX5_tellsLinen_29 : decode cX5_tellsLinen 29 = .ok (.return_, 1) := by decide +kernel
theorem dX5_tellsWeek_0 : decode cX5_tellsWeek 0 = .ok (.aload_n 0, 1) := by decide +kernel
theorem dX5_tellsWeek_1 : decode cX5_tellsWeek 1 = .ok (.getfield 22, 3) := by decide +kernel
theorem dX5_tellsWeek_4 : decode cX5_tellsWeek 4 = .ok (.iconst 4, 1) := by decide +kernel
theorem dX5_tellsWeek_5 : decode cX5_tellsWeek 5 = .ok (.iload_n 1, 1) := by decide +kernel
theorem dX5_tellsWeek_6 : decode cX5_tellsWeek 6 = .ok (.iastore, 1) := by decide +kernel
theorem dX5_tellsWeek_7 : decode cX5_tellsWeek 7 = .ok (.aload_n 0, 1) := by decide +kernel
theorem dX5_tellsWeek_8 : decode cX5_tellsWeek 8 = .ok (.getfield 22, 3) := by decide +kernel
theorem dX5_tellsWeek_11 : decode cX5_tellsWeek 11 = .ok (.iconst 5, 1) := by decide +kernel
theorem dX5_tellsWeek_12 : decode cX5_tellsWeek 12 = .ok (.iload_n 2, 1) := by decide +kernel
theorem dX5_tellsWeek_13 : decode cX5_tellsWeek 13 = .ok (.iastore, 1) := by decide +kernel
theorem dX5_tellsWeek_14 : decode cX5_tellsWeek 14 = .ok (.return_, 1) := by decide +kernel
theorem dX5_says_0 : decode cX5_says 0 = .ok (.iload_n 1, 1) := by decide +kernel
theorem dX5_says_1 : decode cX5_says 1 = .ok (.ifCond .lt 18, 3) := by decide +kernel
theorem dX5_says_4 : decode cX5_says 4 = .ok (.iload_n 1, 1) := by decide +kernel
theorem dX5_says_5 : decode cX5_says 5 = .ok (.bipush 6, 2) := by decide +kernel
theorem dX5_says_7 : decode cX5_says 7 = .ok (.if_icmp .ge 12, 3) := by decide +kernel
theorem dX5_says_10 : decode cX5_says 10 = .ok (.iload_n 2, 1) := by decide +kernel
theorem dX5_says_11 : decode cX5_says 11 = .ok (.ifCond .lt 8, 3) := by decide +kernel
theorem dX5_says_14 : decode cX5_says 14 = .ok (.iload_n 2, 1) := by decide +kernel
theorem dX5_says_15 : decode cX5_says 15 = .ok (.iconst 3, 1) := by decide +kernel
theorem dX5_says_16 : decode cX5_says 16 = .ok (.if_icmp .lt 5, 3) := by decide +kernel
theorem dX5_says_19 : decode cX5_says 19 = .ok (.iconst 0, 1) := by decide +kernel
theorem dX5_says_20 : decode cX5_says 20 = .ok (.ireturn, 1) := by decide +kernel
theorem dX5_says_21 : decode cX5_says 21 = .ok (.iconst 0, 1) := by decide +kernel
theorem dX5_says_22 : decode cX5_says 22 = .ok (.istore_n 3, 1) := by decide +kernel
theorem dX5_says_23 : decode cX5_says 23 = .ok (.iload_n 2, 1) := by decide +kernel
theorem dX5_says_24 : decode cX5_says 24 = .ok (.ifCond .ne 7, 3) := by decide +kernel
theorem dX5_says_27 : decode cX5_says 27 = .ok (.iconst 0, 1) := by decide +kernel
theorem dX5_says_28 : decode cX5_says 28 = .ok (.goto 19, 3) := by decide +kernel
theorem dX5_says_31 : decode cX5_says 31 = .ok (.aload_n 0, 1) := by decide +kernel
theorem dX5_says_32 : decode cX5_says 32 = .ok (.getfield 19, 3) := by decide +kernel
theorem dX5_says_35 : decode cX5_says 35 = .ok (.iload_n 1, 1) := by decide +kernel
theorem dX5_says_36 : decode cX5_says 36 = .ok (.iconst 3, 1) := by decide +kernel
theorem dX5_says_37 : decode cX5_says 37 = .ok (.imul, 1) := by decide +kernel
theorem dX5_says_38 : decode cX5_says 38 = .ok (.iload_n 2, 1) := by decide +kernel
theorem dX5_says_39 : decode cX5_says 39 = .ok (.iadd, 1) := by decide +kernel
theorem dX5_says_40 : decode cX5_says 40 = .ok (.iconst 1, 1) := by decide +kernel
theorem dX5_says_41 : decode cX5_says 41 = .ok (.isub, 1) := by decide +kernel
theorem dX5_says_42 : decode cX5_says 42 = .ok (.iaload, 1) := by decide +kernel
theorem dX5_says_43 : decode cX5_says 43 = .ok (.iconst 0, 1) := by decide +kernel
theorem dX5_says_44 : decode cX5_says 44 = .ok (.invokestatic 31, 3) := by decide +kernel
theorem dX5_says_47 : decode cX5_says 47 = .ok (.istore 4, 2) := by decide +kernel
theorem dX5_says_49 : decode cX5_says 49 = .ok (.aload_n 0, 1) := by decide +kernel
theorem dX5_says_50 : decode cX5_says 50 = .ok (.getfield 19, 3) := by decide +kernel
theorem dX5_says_53 : decode cX5_says 53 = .ok (.iload_n 1, 1) := by decide +kernel
theorem dX5_says_54 : decode cX5_says 54 = .ok (.iconst 3, 1) := by decide +kernel
theorem dX5_says_55 : decode cX5_says 55 = .ok (.imul, 1) := by decide +kernel
theorem dX5_says_56 : decode cX5_says 56 = .ok (.iload_n 2, 1) := by decide +kernel
theorem dX5_says_57 : decode cX5_says 57 = .ok (.iadd, 1) := by decide +kernel
theorem dX5_says_58 : decode cX5_says 58 = .ok (.iaload, 1) := by decide +kernel
theorem dX5_says_59 : decode cX5_says 59 = .ok (.sipush 160, 3) := by decide +kernel
theorem dX5_says_62 : decode cX5_says 62 = .ok (.invokestatic 37, 3) := by decide +kernel
theorem dX5_says_65 : decode cX5_says 65 = .ok (.istore 5, 2) := by decide +kernel
theorem dX5_says_67 : decode cX5_says 67 = .ok (.iload 4, 2) := by decide +kernel
theorem dX5_says_69 : decode cX5_says 69 = .ok (.istore 6, 2) := by decide +kernel
theorem dX5_says_71 : decode cX5_says 71 = .ok (.iload 6, 2) := by decide +kernel
theorem dX5_says_73 : decode cX5_says 73 = .ok (.iload 5, 2) := by decide +kernel
theorem dX5_says_75 : decode cX5_says 75 = .ok (.if_icmp .ge 190, 3) := by decide +kernel
theorem dX5_says_78 : decode cX5_says 78 = .ok (.aload_n 0, 1) := by decide +kernel
theorem dX5_says_79 : decode cX5_says 79 = .ok (.getfield 15, 3) := by decide +kernel
theorem dX5_says_82 : decode cX5_says 82 = .ok (.iload_n 1, 1) := by decide +kernel
theorem dX5_says_83 : decode cX5_says 83 = .ok (.sipush 160, 3) := by decide +kernel
theorem dX5_says_86 : decode cX5_says 86 = .ok (.imul, 1) := by decide +kernel
theorem dX5_says_87 : decode cX5_says 87 = .ok (.iload 6, 2) := by decide +kernel
theorem dX5_says_89 : decode cX5_says 89 = .ok (.iadd, 1) := by decide +kernel
theorem dX5_says_90 : decode cX5_says 90 = .ok (.iaload, 1) := by decide +kernel
theorem dX5_says_91 : decode cX5_says 91 = .ok (.istore 7, 2) := by decide +kernel
theorem dX5_says_93 : decode cX5_says 93 = .ok (.iload 7, 2) := by decide +kernel
theorem dX5_says_95 : decode cX5_says 95 = .ok (.ineg, 1) := by decide +kernel
theorem dX5_says_96 : decode cX5_says 96 = .ok (.sipush 306, 3) := by decide +kernel
theorem dX5_says_99 : decode cX5_says 99 = .ok (.isub, 1) := by decide +kernel
theorem dX5_says_100 : decode cX5_says 100 = .ok (.istore 8, 2) := by decide +kernel
theorem dX5_says_102 : decode cX5_says 102 = .ok (.iload 7, 2) := by decide +kernel
theorem dX5_says_104 : decode cX5_says 104 = .ok (.ifCond .ge 15, 3) := by decide +kernel
theorem dX5_says_107 : decode cX5_says 107 = .ok (.iload 8, 2) := by decide +kernel
theorem dX5_says_109 : decode cX5_says 109 = .ok (.ifCond .lt 46, 3) := by decide +kernel
theorem dX5_says_112 : decode cX5_says 112 = .ok (.iload 8, 2) := by decide +kernel
theorem dX5_says_114 : decode cX5_says 114 = .ok (.bipush 6, 2) := by decide +kernel
theorem dX5_says_116 : decode cX5_says 116 = .ok (.if_icmp .ge 39, 3) := by decide +kernel
theorem dX5_says_119 : decode cX5_says 119 = .ok (.iload_n 3, 1) := by decide +kernel
theorem dX5_says_120 : decode cX5_says 120 = .ok (.sipush 160, 3) := by decide +kernel
theorem dX5_says_123 : decode cX5_says 123 = .ok (.if_icmp .ge 136, 3) := by decide +kernel
theorem dX5_says_126 : decode cX5_says 126 = .ok (.aload_n 0, 1) := by decide +kernel
theorem dX5_says_127 : decode cX5_says 127 = .ok (.getfield 25, 3) := by decide +kernel
theorem dX5_says_130 : decode cX5_says 130 = .ok (.iload_n 3, 1) := by decide +kernel
theorem dX5_says_131 : decode cX5_says 131 = .ok (.iload 7, 2) := by decide +kernel
theorem dX5_says_133 : decode cX5_says 133 = .ok (.ifCond .lt 8, 3) := by decide +kernel
theorem dX5_says_136 : decode cX5_says 136 = .ok (.iload 7, 2) := by decide +kernel
theorem dX5_says_138 : decode cX5_says 138 = .ok (.goto 10, 3) := by decide +kernel
theorem dX5_says_141 : decode cX5_says 141 = .ok (.aload_n 0, 1) := by decide +kernel
theorem dX5_says_142 : decode cX5_says 142 = .ok (.getfield 22, 3) := by decide +kernel
theorem dX5_says_145 : decode cX5_says 145 = .ok (.iload 8, 2) := by decide +kernel
theorem dX5_says_147 : decode cX5_says 147 = .ok (.iaload, 1) := by decide +kernel
theorem dX5_says_148 : decode cX5_says 148 = .ok (.iastore, 1) := by decide +kernel
theorem dX5_says_149 : decode cX5_says 149 = .ok (.iinc 3 1, 3) := by decide +kernel
theorem dX5_says_152 : decode cX5_says 152 = .ok (.goto 107, 3) := by decide +kernel
theorem dX5_says_155 : decode cX5_says 155 = .ok (.iload 7, 2) := by decide +kernel
theorem dX5_says_157 : decode cX5_says 157 = .ok (.sipush (-200), 3) := by decide +kernel
theorem dX5_says_160 : decode cX5_says 160 = .ok (.if_icmp .eq 11, 3) := by decide +kernel
theorem dX5_says_163 : decode cX5_says 163 = .ok (.iload 7, 2) := by decide +kernel
theorem dX5_says_165 : decode cX5_says 165 = .ok (.sipush (-305), 3) := by decide +kernel
theorem dX5_says_168 : decode cX5_says 168 = .ok (.if_icmp .ne 53, 3) := by decide +kernel
theorem dX5_says_171 : decode cX5_says 171 = .ok (.iload_n 3, 1) := by decide +kernel
theorem dX5_says_172 : decode cX5_says 172 = .ok (.iconst 1, 1) := by decide +kernel
theorem dX5_says_173 : decode cX5_says 173 = .ok (.if_icmp .lt 86, 3) := by decide +kernel
theorem dX5_says_176 : decode cX5_says 176 = .ok (.aload_n 0, 1) := by decide +kernel
theorem dX5_says_177 : decode cX5_says 177 = .ok (.getfield 25, 3) := by decide +kernel
theorem dX5_says_180 : decode cX5_says 180 = .ok (.iload_n 3, 1) := by decide +kernel
theorem dX5_says_181 : decode cX5_says 181 = .ok (.iconst 1, 1) := by decide +kernel
theorem dX5_says_182 : decode cX5_says 182 = .ok (.isub, 1) := by decide +kernel
theorem dX5_says_183 : decode cX5_says 183 = .ok (.iaload, 1) := by decide +kernel
theorem dX5_says_184 : decode cX5_says 184 = .ok (.istore 9, 2) := by decide +kernel
theorem dX5_says_186 : decode cX5_says 186 = .ok (.aload_n 0, 1) := by decide +kernel
theorem dX5_says_187 : decode cX5_says 187 = .ok (.getfield 25, 3) := by decide +kernel
theorem dX5_says_190 : decode cX5_says 190 = .ok (.iload_n 3, 1) := by decide +kernel
theorem dX5_says_191 : decode cX5_says 191 = .ok (.iconst 1, 1) := by decide +kernel
theorem dX5_says_192 : decode cX5_says 192 = .ok (.isub, 1) := by decide +kernel
theorem dX5_says_193 : decode cX5_says 193 = .ok (.iload 7, 2) := by decide +kernel
theorem dX5_says_195 : decode cX5_says 195 = .ok (.sipush (-200), 3) := by decide +kernel
theorem dX5_says_198 : decode cX5_says 198 = .ok (.if_icmp .ne 9, 3) := by decide +kernel
theorem dX5_says_201 : decode cX5_says 201 = .ok (.iload 9, 2) := by decide +kernel
theorem dX5_says_203 : decode cX5_says 203 = .ok (.ineg, 1) := by decide +kernel
theorem dX5_says_204 : decode cX5_says 204 = .ok (.goto 13, 3) := by decide +kernel
theorem dX5_says_207 : decode cX5_says 207 = .ok (.iload 9, 2) := by decide +kernel
theorem dX5_says_209 : decode cX5_says 209 = .ok (.ifCond .ne 7, 3) := by decide +kernel
theorem dX5_says_212 : decode cX5_says 212 = .ok (.iconst 1, 1) := by decide +kernel
theorem dX5_says_213 : decode cX5_says 213 = .ok (.goto 4, 3) := by decide +kernel
theorem dX5_says_216 : decode cX5_says 216 = .ok (.iconst 0, 1) := by decide +kernel
theorem dX5_says_217 : decode cX5_says 217 = .ok (.iastore, 1) := by decide +kernel
theorem dX5_says_218 : decode cX5_says 218 = .ok (.goto 41, 3) := by decide +kernel
theorem dX5_says_221 : decode cX5_says 221 = .ok (.iload_n 3, 1) := by decide +kernel
theorem dX5_says_222 : decode cX5_says 222 = .ok (.iconst 2, 1) := by decide +kernel
theorem dX5_says_223 : decode cX5_says 223 = .ok (.if_icmp .lt 36, 3) := by decide +kernel
theorem dX5_says_226 : decode cX5_says 226 = .ok (.aload_n 0, 1) := by decide +kernel
theorem dX5_says_227 : decode cX5_says 227 = .ok (.getfield 25, 3) := by decide +kernel
theorem dX5_says_230 : decode cX5_says 230 = .ok (.iload_n 3, 1) := by decide +kernel
theorem dX5_says_231 : decode cX5_says 231 = .ok (.iconst 2, 1) := by decide +kernel
theorem dX5_says_232 : decode cX5_says 232 = .ok (.isub, 1) := by decide +kernel
theorem dX5_says_233 : decode cX5_says 233 = .ok (.iload 7, 2) := by decide +kernel
theorem dX5_says_235 : decode cX5_says 235 = .ok (.ineg, 1) := by decide +kernel
theorem dX5_says_236 : decode cX5_says 236 = .ok (.aload_n 0, 1) := by decide +kernel
theorem dX5_says_237 : decode cX5_says 237 = .ok (.getfield 25, 3) := by decide +kernel
theorem dX5_says_240 : decode cX5_says 240 = .ok (.iload_n 3, 1) := by decide +kernel
theorem dX5_says_241 : decode cX5_says 241 = .ok (.iconst 2, 1) := by decide +kernel
theorem dX5_says_242 : decode cX5_says 242 = .ok (.isub, 1) := by decide +kernel
theorem dX5_says_243 : decode cX5_says 243 = .ok (.iaload, 1) := by decide +kernel
theorem dX5_says_244 : decode cX5_says 244 = .ok (.aload_n 0, 1) := by decide +kernel
theorem dX5_says_245 : decode cX5_says 245 = .ok (.getfield 25, 3) := by decide +kernel
theorem dX5_says_248 : decode cX5_says 248 = .ok (.iload_n 3, 1) := by decide +kernel
theorem dX5_says_249 : decode cX5_says 249 = .ok (.iconst 1, 1) := by decide +kernel
theorem dX5_says_250 : decode cX5_says 250 = .ok (.isub, 1) := by decide +kernel
theorem dX5_says_251 : decode cX5_says 251 = .ok (.iaload, 1) := by decide +kernel
theorem dX5_says_252 : decode cX5_says 252 = .ok (.invokestatic 40, 3) := by decide +kernel
theorem dX5_says_255 : decode cX5_says 255 = .ok (.iastore, 1) := by decide +kernel
theorem dX5_says_256 : decode cX5_says 256 = .ok (.iinc 3 (-1), 3) := by decide +kernel
theorem dX5_says_259 : decode cX5_says 259 = .ok (.iinc 6 1, 3) := by decide +kernel
theorem dX5_says_262 : decode cX5_says 262 = .ok (.goto (-191), 3) := by decide +kernel
theorem dX5_says_265 : decode cX5_says 265 = .ok (.iconst 0, 1) := by decide +kernel
theorem dX5_says_266 : decode cX5_says 266 = .ok (.bipush 99, 2) := by decide +kernel
theorem dX5_says_268 : decode cX5_says 268 = .ok (.aload_n 0, 1) := by decide +kernel
theorem dX5_says_269 : decode cX5_says 269 = .ok (.getfield 25, 3) := by decide +kernel
theorem dX5_says_272 : decode cX5_says 272 = .ok (.iconst 0, 1) := by decide +kernel
theorem dX5_says_273 : decode cX5_says 273 = .ok (.iaload, 1) := by decide +kernel
theorem dX5_says_274 : decode cX5_says 274 = .ok (.invokestatic 37, 3) := by decide +kernel
theorem dX5_says_277 : decode cX5_says 277 = .ok (.invokestatic 31, 3) := by decide +kernel
theorem dX5_says_280 : decode cX5_says 280 = .ok (.ireturn, 1) := by decide +kernel
theorem dX5_joins_0 : decode cX5_joins 0 = .ok (.iload_n 0, 1) := by decide +kernel
theorem dX5_joins_1 : decode cX5_joins 1 = .ok (.lookupswitch 107 #[(42, 67), (43, 59), (45, 63), (60, 71), (61, 82), (304, 93)], 59) := by decide +kernel
theorem dX5_joins_60 : decode cX5_joins 60 = .ok (.iload_n 1, 1) := by decide +kernel
theorem dX5_joins_61 : decode cX5_joins 61 = .ok (.iload_n 2, 1) := by decide +kernel
theorem dX5_joins_62 : decode cX5_joins 62 = .ok (.iadd, 1) := by decide +kernel
theorem dX5_joins_63 : decode cX5_joins 63 = .ok (.ireturn, 1) := by decide +kernel
theorem dX5_joins_64 : decode cX5_joins 64 = .ok (.iload_n 1, 1) := by decide +kernel
theorem dX5_joins_65 : decode cX5_joins 65 = .ok (.iload_n 2, 1) := by decide +kernel
theorem dX5_joins_66 : decode cX5_joins 66 = .ok (.isub, 1) := by decide +kernel
theorem dX5_joins_67 : decode cX5_joins 67 = .ok (.ireturn, 1) := by decide +kernel
theorem dX5_joins_68 : decode cX5_joins 68 = .ok (.iload_n 1, 1) := by decide +kernel
theorem dX5_joins_69 : decode cX5_joins 69 = .ok (.iload_n 2, 1) := by decide +kernel
theorem dX5_joins_70 : decode cX5_joins 70 = .ok (.imul, 1) := by decide +kernel
theorem dX5_joins_71 : decode cX5_joins 71 = .ok (.ireturn, 1) := by decide +kernel
theorem dX5_joins_72 : decode cX5_joins 72 = .ok (.iload_n 1, 1) := by decide +kernel
theorem dX5_joins_73 : decode cX5_joins 73 = .ok (.iload_n 2, 1) := by decide +kernel
theorem dX5_joins_74 : decode cX5_joins 74 = .ok (.if_icmp .ge 7, 3) := by decide +kernel
theorem dX5_joins_77 : decode cX5_joins 77 = .ok (.iconst 1, 1) := by decide +kernel
theorem dX5_joins_78 : decode cX5_joins 78 = .ok (.goto 4, 3) := by decide +kernel
theorem dX5_joins_81 : decode cX5_joins 81 = .ok (.iconst 0, 1) := by decide +kernel
theorem dX5_joins_82 : decode cX5_joins 82 = .ok (.ireturn, 1) := by decide +kernel
theorem dX5_joins_83 : decode cX5_joins 83 = .ok (.iload_n 1, 1) := by decide +kernel
theorem dX5_joins_84 : decode cX5_joins 84 = .ok (.iload_n 2, 1) := by decide +kernel
theorem dX5_joins_85 : decode cX5_joins 85 = .ok (.if_icmp .ne 7, 3) := by decide +kernel
theorem dX5_joins_88 : decode cX5_joins 88 = .ok (.iconst 1, 1) := by decide +kernel
theorem dX5_joins_89 : decode cX5_joins 89 = .ok (.goto 4, 3) := by decide +kernel
theorem dX5_joins_92 : decode cX5_joins 92 = .ok (.iconst 0, 1) := by decide +kernel
theorem dX5_joins_93 : decode cX5_joins 93 = .ok (.ireturn, 1) := by decide +kernel
theorem dX5_joins_94 : decode cX5_joins 94 = .ok (.iload_n 1, 1) := by decide +kernel
theorem dX5_joins_95 : decode cX5_joins 95 = .ok (.ifCond .eq 11, 3) := by decide +kernel
theorem dX5_joins_98 : decode cX5_joins 98 = .ok (.iload_n 2, 1) := by decide +kernel
theorem dX5_joins_99 : decode cX5_joins 99 = .ok (.ifCond .eq 7, 3) := by decide +kernel
theorem dX5_joins_102 : decode cX5_joins 102 = .ok (.iconst 1, 1) := by decide +kernel
theorem dX5_joins_103 : decode cX5_joins 103 = .ok (.goto 4, 3) := by decide +kernel
theorem dX5_joins_106 : decode cX5_joins 106 = .ok (.iconst 0, 1) := by decide +kernel
theorem dX5_joins_107 : decode cX5_joins 107 = .ok (.ireturn, 1) := by decide +kernel
theorem dX5_joins_108 : decode cX5_joins 108 = .ok (.iload_n 1, 1) := by decide +kernel
theorem dX5_joins_109 : decode cX5_joins 109 = .ok (.ifCond .ne 7, 3) := by decide +kernel
theorem dX5_joins_112 : decode cX5_joins 112 = .ok (.iload_n 2, 1) := by decide +kernel
theorem dX5_joins_113 : decode cX5_joins 113 = .ok (.ifCond .eq 7, 3) := by decide +kernel
theorem dX5_joins_116 : decode cX5_joins 116 = .ok (.iconst 1, 1) := by decide +kernel
theorem dX5_joins_117 : decode cX5_joins 117 = .ok (.goto 4, 3) := by decide +kernel
theorem dX5_joins_120 : decode cX5_joins 120 = .ok (.iconst 0, 1) := by decide +kernel
theorem dX5_joins_121 : decode cX5_joins 121 = .ok (.ireturn, 1) := by decide +kernel
theorem dX6_init_0 : decode cX6_init 0 = .ok (.aload_n 0, 1) := by decide +kernel
theorem dX6_init_1 : decode cX6_init 1 = .ok (.invokespecial 1, 3) := by decide +kernel
theorem dX6_init_4 : decode cX6_init 4 = .ok (.aload_n 0, 1) := by decide +kernel
theorem dX6_init_5 : decode cX6_init 5 = .ok (.new 7, 3) := by decide +kernel
theorem dX6_init_8 : decode cX6_init 8 = .ok (.dup, 1) := by decide +kernel
theorem dX6_init_9 : decode cX6_init 9 = .ok (.invokespecial 9, 3) := by decide +kernel
theorem dX6_init_12 : decode cX6_init 12 = .ok (.putfield 10, 3) := by decide +kernel
theorem dX6_init_15 : decode cX6_init 15 = .ok (.aload_n 0, 1) := by decide +kernel
theorem dX6_init_16 : decode cX6_init 16 = .ok (.new 16, 3) := by decide +kernel
theorem dX6_init_19 : decode cX6_init 19 = .ok (.dup, 1) := by decide +kernel
theorem dX6_init_20 : decode cX6_init 20 = .ok (.invokespecial 18, 3) := by decide +kernel
theorem dX6_init_23 : decode cX6_init 23 = .ok (.putfield 19, 3) := by decide +kernel
theorem dX6_init_26 : decode cX6_init 26 = .ok (.aload_n 0, 1) := by decide +kernel
theorem dX6_init_27 : decode cX6_init 27 = .ok (.new 23, 3) := by decide +kernel
theorem dX6_init_30 : decode cX6_init 30 = .ok (.dup, 1) := by decide +kernel
theorem dX6_init_31 : decode cX6_init 31 = .ok (.aload_n 0, 1) := by decide +kernel
theorem dX6_init_32 : decode cX6_init 32 = .ok (.getfield 10, 3) := by decide +kernel
theorem dX6_init_35 : decode cX6_init 35 = .ok (.invokespecial 25, 3) := by decide +kernel
theorem dX6_init_38 : decode cX6_init 38 = .ok (.putfield 28, 3) := by decide +kernel
theorem dX6_init_41 : decode cX6_init 41 = .ok (.aload_n 0, 1) := by decide +kernel
theorem dX6_init_42 : decode cX6_init 42 = .ok (.new 23, 3) := by decide +kernel
theorem dX6_init_45 : decode cX6_init 45 = .ok (.dup, 1) := by decide +kernel
theorem dX6_init_46 : decode cX6_init 46 = .ok (.aload_n 0, 1) := by decide +kernel
theorem dX6_init_47 : decode cX6_init 47 = .ok (.getfield 10, 3) := by decide +kernel
theorem dX6_init_50 : decode cX6_init 50 = .ok (.invokespecial 25, 3) := by decide +kernel
theorem dX6_init_53 : decode cX6_init 53 = .ok (.putfield 32, 3) := by decide +kernel
theorem dX6_init_56 : decode cX6_init 56 = .ok (.aload_n 0, 1) := by decide +kernel
theorem dX6_init_57 : decode cX6_init 57 = .ok (.new 23, 3) := by decide +kernel
theorem dX6_init_60 : decode cX6_init 60 = .ok (.dup, 1) := by decide +kernel
theorem dX6_init_61 : decode cX6_init 61 = .ok (.aload_n 0, 1) := by decide +kernel
theorem dX6_init_62 : decode cX6_init 62 = .ok (.getfield 10, 3) := by decide +kernel
theorem dX6_init_65 : decode cX6_init 65 = .ok (.invokespecial 25, 3) := by decide +kernel
theorem dX6_init_68 : decode cX6_init 68 = .ok (.putfield 35, 3) := by decide +kernel
theorem dX6_init_71 : decode cX6_init 71 = .ok (.aload_n 0, 1) := by decide +kernel
theorem dX6_init_72 : decode cX6_init 72 = .ok (.new 23, 3) := by decide +kernel
theorem dX6_init_75 : decode cX6_init 75 = .ok (.dup, 1) := by decide +kernel
theorem dX6_init_76 : decode cX6_init 76 = .ok (.aload_n 0, 1) := by decide +kernel
theorem dX6_init_77 : decode cX6_init 77 = .ok (.getfield 10, 3) := by decide +kernel
theorem dX6_init_80 : decode cX6_init 80 = .ok (.invokespecial 25, 3) := by decide +kernel
theorem dX6_init_83 : decode cX6_init 83 = .ok (.putfield 38, 3) := by decide +kernel
theorem dX6_init_86 : decode cX6_init 86 = .ok (.aload_n 0, 1) := by decide +kernel
theorem dX6_init_87 : decode cX6_init 87 = .ok (.new 41, 3) := by decide +kernel
theorem dX6_init_90 : decode cX6_init 90 = .ok (.dup, 1) := by decide +kernel
theorem dX6_init_91 : decode cX6_init 91 = .ok (.invokespecial 43, 3) := by decide +kernel
theorem dX6_init_94 : decode cX6_init 94 = .ok (.putfield 44, 3) := by decide +kernel
theorem dX6_init_97 : decode cX6_init 97 = .ok (.aload_n 0, 1) := by decide +kernel
theorem dX6_init_98 : decode cX6_init 98 = .ok (.iconst 0, 1) := by decide +kernel
theorem dX6_init_99 : decode cX6_init 99 = .ok (.putfield 48, 3) := by decide +kernel
theorem dX6_init_102 : decode cX6_init 102 = .ok (.return_, 1) := by decide +kernel
theorem dX6_count_0 : decode cX6_count 0 = .ok (.iload_n 1, 1) := by decide +kernel
theorem dX6_count_1 : decode cX6_count 1 = .ok (.tableswitch 149 0 9 #[55, 66, 77, 87, 97, 107, 117, 125, 133, 141], 55) := by decide +kernel
theorem dX6_count_56 : decode cX6_count 56 = .ok (.aload_n 0, 1) := by decide +kernel
theorem dX6_count_57 : decode cX6_count 57 = .ok (.getfield 28, 3) := by decide +kernel
theorem dX6_count_60 : decode cX6_count 60 = .ok (.getfield 52, 3) := by decide +kernel
theorem dX6_count_63 : decode cX6_count 63 = .ok (.getfield 56, 3) := by decide +kernel
theorem dX6_count_66 : decode cX6_count 66 = .ok (.ireturn, 1) := by decide +kernel
theorem dX6_count_67 : decode cX6_count 67 = .ok (.aload_n 0, 1) := by decide +kernel
theorem dX6_count_68 : decode cX6_count 68 = .ok (.getfield 28, 3) := by decide +kernel
theorem dX6_count_71 : decode cX6_count 71 = .ok (.getfield 62, 3) := by decide +kernel
theorem dX6_count_74 : decode cX6_count 74 = .ok (.getfield 66, 3) := by decide +kernel
theorem dX6_count_77 : decode cX6_count 77 = .ok (.ireturn, 1) := by decide +kernel
theorem dX6_count_78 : decode cX6_count 78 = .ok (.aload_n 0, 1) := by decide +kernel
theorem dX6_count_79 : decode cX6_count 79 = .ok (.getfield 28, 3) := by decide +kernel
theorem dX6_count_82 : decode cX6_count 82 = .ok (.getfield 71, 3) := by decide +kernel
theorem dX6_count_85 : decode cX6_count 85 = .ok (.iconst 0, 1) := by decide +kernel
theorem dX6_count_86 : decode cX6_count 86 = .ok (.iaload, 1) := by decide +kernel
theorem dX6_count_87 : decode cX6_count 87 = .ok (.ireturn, 1) := by decide +kernel
theorem dX6_count_88 : decode cX6_count 88 = .ok (.aload_n 0, 1) := by decide +kernel
theorem dX6_count_89 : decode cX6_count 89 = .ok (.getfield 28, 3) := by decide +kernel
theorem dX6_count_92 : decode cX6_count 92 = .ok (.getfield 71, 3) := by decide +kernel
theorem dX6_count_95 : decode cX6_count 95 = .ok (.iconst 1, 1) := by decide +kernel
theorem dX6_count_96 : decode cX6_count 96 = .ok (.iaload, 1) := by decide +kernel
theorem dX6_count_97 : decode cX6_count 97 = .ok (.ireturn, 1) := by decide +kernel
theorem dX6_count_98 : decode cX6_count 98 = .ok (.aload_n 0, 1) := by decide +kernel
theorem dX6_count_99 : decode cX6_count 99 = .ok (.getfield 28, 3) := by decide +kernel
theorem dX6_count_102 : decode cX6_count 102 = .ok (.getfield 71, 3) := by decide +kernel
theorem dX6_count_105 : decode cX6_count 105 = .ok (.iconst 2, 1) := by decide +kernel
theorem dX6_count_106 : decode cX6_count 106 = .ok (.iaload, 1) := by decide +kernel
theorem dX6_count_107 : decode cX6_count 107 = .ok (.ireturn, 1) := by decide +kernel
theorem dX6_count_108 : decode cX6_count 108 = .ok (.aload_n 0, 1) := by decide +kernel
theorem dX6_count_109 : decode cX6_count 109 = .ok (.getfield 28, 3) := by decide +kernel
theorem dX6_count_112 : decode cX6_count 112 = .ok (.getfield 71, 3) := by decide +kernel
theorem dX6_count_115 : decode cX6_count 115 = .ok (.iconst 3, 1) := by decide +kernel
theorem dX6_count_116 : decode cX6_count 116 = .ok (.iaload, 1) := by decide +kernel
theorem dX6_count_117 : decode cX6_count 117 = .ok (.ireturn, 1) := by decide +kernel
theorem dX6_count_118 : decode cX6_count 118 = .ok (.aload_n 0, 1) := by decide +kernel
theorem dX6_count_119 : decode cX6_count 119 = .ok (.getfield 28, 3) := by decide +kernel
theorem dX6_count_122 : decode cX6_count 122 = .ok (.getfield 75, 3) := by decide +kernel
theorem dX6_count_125 : decode cX6_count 125 = .ok (.ireturn, 1) := by decide +kernel
theorem dX6_count_126 : decode cX6_count 126 = .ok (.aload_n 0, 1) := by decide +kernel
theorem dX6_count_127 : decode cX6_count 127 = .ok (.getfield 10, 3) := by decide +kernel
theorem dX6_count_130 : decode cX6_count 130 = .ok (.getfield 78, 3) := by decide +kernel
theorem dX6_count_133 : decode cX6_count 133 = .ok (.ireturn, 1) := by decide +kernel
theorem dX6_count_134 : decode cX6_count 134 = .ok (.aload_n 0, 1) := by decide +kernel
theorem dX6_count_135 : decode cX6_count 135 = .ok (.getfield 28, 3) := by decide +kernel
theorem dX6_count_138 : decode cX6_count 138 = .ok (.getfield 79, 3) := by decide +kernel
theorem dX6_count_141 : decode cX6_count 141 = .ok (.ireturn, 1) := by decide +kernel
theorem dX6_count_142 : decode cX6_count 142 = .ok (.aload_n 0, 1) := by decide +kernel
theorem dX6_count_143 : decode cX6_count 143 = .ok (.getfield 19, 3) := by decide +kernel
theorem dX6_count_146 : decode cX6_count 146 = .ok (.getfield 82, 3) := by decide +kernel
theorem dX6_count_149 : decode cX6_count 149 = .ok (.ireturn, 1) := by decide +kernel
theorem dX6_count_150 : decode cX6_count 150 = .ok (.bipush (-2), 2) := by decide +kernel
theorem dX6_count_152 : decode cX6_count 152 = .ok (.ireturn, 1) := by decide +kernel
theorem dX6_set_0 : decode cX6_set 0 = .ok (.iload_n 1, 1) := by decide +kernel
theorem dX6_set_1 : decode cX6_set 1 = .ok (.ifCond .lt 8, 3) := by decide +kernel
theorem dX6_set_4 : decode cX6_set 4 = .ok (.iload_n 1, 1) := by decide +kernel
theorem dX6_set_5 : decode cX6_set 5 = .ok (.iconst 4, 1) := by decide +kernel
theorem dX6_set_6 : decode cX6_set 6 = .ok (.if_icmp .lt 6, 3) := by decide +kernel
theorem dX6_set_9 : decode cX6_set 9 = .ok (.bipush (-5), 2) := by decide +kernel
theorem dX6_set_11 : decode cX6_set 11 = .ok (.ireturn, 1) := by decide +kernel
theorem dX6_set_12 : decode cX6_set 12 = .ok (.iload_n 2, 1) := by decide +kernel
theorem dX6_set_13 : decode cX6_set 13 = .ok (.ifCond .lt 12, 3) := by decide +kernel
theorem dX6_set_16 : decode cX6_set 16 = .ok (.iload_n 2, 1) := by decide +kernel
theorem dX6_set_17 : decode cX6_set 17 = .ok (.getstatic 83, 3) := by decide +kernel
theorem dX6_set_20 : decode cX6_set 20 = .ok (.iload_n 1, 1) := by decide +kernel
theorem dX6_set_21 : decode cX6_set 21 = .ok (.iaload, 1) := by decide +kernel
theorem dX6_set_22 : decode cX6_set 22 = .ok (.if_icmp .le 6, 3) := by decide +kernel
theorem dX6_set_25 : decode cX6_set 25 = .ok (.bipush (-7), 2) := by decide +kernel
theorem dX6_set_27 : decode cX6_set 27 = .ok (.ireturn, 1) := by decide +kernel
theorem dX6_set_28 : decode cX6_set 28 = .ok (.aload_n 0, 1) := by decide +kernel
theorem dX6_set_29 : decode cX6_set 29 = .ok (.getfield 28, 3) := by decide +kernel
theorem dX6_set_32 : decode cX6_set 32 = .ok (.getfield 71, 3) := by decide +kernel
theorem dX6_set_35 : decode cX6_set 35 = .ok (.iload_n 1, 1) := by decide +kernel
theorem dX6_set_36 : decode cX6_set 36 = .ok (.iaload, 1) := by decide +kernel
theorem dX6_set_37 : decode cX6_set 37 = .ok (.istore_n 3, 1) := by decide +kernel
theorem dX6_set_38 : decode cX6_set 38 = .ok (.aload_n 0, 1) := by decide +kernel
theorem dX6_set_39 : decode cX6_set 39 = .ok (.getfield 28, 3) := by decide +kernel
theorem dX6_set_42 : decode cX6_set 42 = .ok (.getfield 71, 3) := by decide +kernel
theorem dX6_set_45 : decode cX6_set 45 = .ok (.iload_n 1, 1) := by decide +kernel
theorem dX6_set_46 : decode cX6_set 46 = .ok (.iload_n 2, 1) := by decide +kernel
theorem dX6_set_47 : decode cX6_set 47 = .ok (.iastore, 1) := by decide +kernel
theorem dX6_set_48 : decode cX6_set 48 = .ok (.iload_n 3, 1) := by decide +kernel
theorem dX6_set_49 : decode cX6_set 49 = .ok (.ireturn, 1) := by decide +kernel
theorem dX6_feed_0 : decode cX6_feed 0 = .ok (.iload_n 1, 1) := by decide +kernel
theorem dX6_feed_1 : decode cX6_feed 1 = .ok (.iconst 1, 1) := by decide +kernel
theorem dX6_feed_2 : decode cX6_feed 2 = .ok (.if_icmp .lt 46, 3) := by decide +kernel
theorem dX6_feed_5 : decode cX6_feed 5 = .ok (.iload_n 1, 1) := by decide +kernel
theorem dX6_feed_6 : decode cX6_feed 6 = .ok (.iconst 5, 1) := by decide +kernel
theorem dX6_feed_7 : decode cX6_feed 7 = .ok (.if_icmp .gt 41, 3) := by decide +kernel
theorem dX6_feed_10 : decode cX6_feed 10 = .ok (.iload_n 2, 1) := by decide +kernel
theorem dX6_feed_11 : decode cX6_feed 11 = .ok (.invokestatic 86, 3) := by decide +kernel
theorem dX6_feed_14 : decode cX6_feed 14 = .ok (.ifCond .eq 34, 3) := by decide +kernel
theorem dX6_feed_17 : decode cX6_feed 17 = .ok (.iload_n 3, 1) := by decide +kernel
theorem dX6_feed_18 : decode cX6_feed 18 = .ok (.invokestatic 86, 3) := by decide +kernel
theorem dX6_feed_21 : decode cX6_feed 21 = .ok (.ifCond .eq 27, 3) := by decide +kernel
theorem dX6_feed_24 : decode cX6_feed 24 = .ok (.iload 4, 2) := by decide +kernel
theorem dX6_feed_26 : decode cX6_feed 26 = .ok (.invokestatic 86, 3) := by decide +kernel
theorem dX6_feed_29 : decode cX6_feed 29 = .ok (.ifCond .eq 19, 3) := by decide +kernel
theorem dX6_feed_32 : decode cX6_feed 32 = .ok (.iload 5, 2) := by decide +kernel
theorem dX6_feed_34 : decode cX6_feed 34 = .ok (.invokestatic 86, 3) := by decide +kernel
theorem dX6_feed_37 : decode cX6_feed 37 = .ok (.ifCond .eq 11, 3) := by decide +kernel
theorem dX6_feed_40 : decode cX6_feed 40 = .ok (.iload 6, 2) := by decide +kernel
theorem dX6_feed_42 : decode cX6_feed 42 = .ok (.invokestatic 86, 3) := by decide +kernel
theorem dX6_feed_45 : decode cX6_feed 45 = .ok (.ifCond .ne 6, 3) := by decide +kernel
theorem dX6_feed_48 : decode cX6_feed 48 = .ok (.bipush (-2), 2) := by decide +kernel
theorem dX6_feed_50 : decode cX6_feed 50 = .ok (.ireturn, 1) := by decide +kernel
theorem dX6_feed_51 : decode cX6_feed 51 = .ok (.iload_n 1, 1) := by decide +kernel
theorem dX6_feed_52 : decode cX6_feed 52 = .ok (.sipush 160, 3) := by decide +kernel
theorem dX6_feed_55 : decode cX6_feed 55 = .ok (.aload_n 0, 1) := by decide +kernel
theorem dX6_feed_56 : decode cX6_feed 56 = .ok (.getfield 19, 3) := by decide +kernel
theorem dX6_feed_59 : decode cX6_feed 59 = .ok (.getfield 82, 3) := by decide +kernel
theorem dX6_feed_62 : decode cX6_feed 62 = .ok (.isub, 1) := by decide +kernel
theorem dX6_feed_63 : decode cX6_feed 63 = .ok (.if_icmp .le 6, 3) := by decide +kernel
theorem dX6_feed_66 : decode cX6_feed 66 = .ok (.bipush (-4), 2) := by decide +kernel
theorem dX6_feed_68 : decode cX6_feed 68 = .ok (.ireturn, 1) := by decide +kernel
theorem dX6_feed_69 : decode cX6_feed 69 = .ok (.aload_n 0, 1) := by decide +kernel
theorem dX6_feed_70 : decode cX6_feed 70 = .ok (.getfield 19, 3) := by decide +kernel
theorem dX6_feed_73 : decode cX6_feed 73 = .ok (.iload_n 2, 1) := by decide +kernel
theorem dX6_feed_74 : decode cX6_feed 74 = .ok (.invokevirtual 90, 3) := by decide +kernel
theorem dX6_feed_77 : decode cX6_feed 77 = .ok (.iload_n 1, 1) := by decide +kernel
theorem dX6_feed_78 : decode cX6_feed 78 = .ok (.iconst 1, 1) := by decide +kernel
theorem dX6_feed_79 : decode cX6_feed 79 = .ok (.if_icmp .le 11, 3) := by decide +kernel
theorem dX6_feed_82 : decode cX6_feed 82 = .ok (.aload_n 0, 1) := by decide +kernel
theorem dX6_feed_83 : decode cX6_feed 83 = .ok (.getfield 19, 3) := by decide +kernel
theorem dX6_feed_86 : decode cX6_feed 86 = .ok (.iload_n 3, 1) := by decide +kernel
theorem dX6_feed_87 : decode cX6_feed 87 = .ok (.invokevirtual 90, 3) := by decide +kernel
theorem dX6_feed_90 : decode cX6_feed 90 = .ok (.iload_n 1, 1) := by decide +kernel
theorem dX6_feed_91 : decode cX6_feed 91 = .ok (.iconst 2, 1) := by decide +kernel
theorem dX6_feed_92 : decode cX6_feed 92 = .ok (.if_icmp .le 12, 3) := by decide +kernel
theorem dX6_feed_95 : decode cX6_feed 95 = .ok (.aload_n 0, 1) := by decide +kernel
theorem dX6_feed_96 : decode cX6_feed 96 = .ok (.getfield 19, 3) := by decide +kernel
theorem dX6_feed_99 : decode cX6_feed 99 = .ok (.iload 4, 2) := by decide +kernel
theorem dX6_feed_101 : decode cX6_feed 101 = .ok (.invokevirtual 90, 3) := by decide +kernel
theorem dX6_feed_104 : decode cX6_feed 104 = .ok (.iload_n 1, 1) := by decide +kernel
theorem dX6_feed_105 : decode cX6_feed 105 = .ok (.iconst 3, 1) := by decide +kernel
theorem dX6_feed_106 : decode cX6_feed 106 = .ok (.if_icmp .le 12, 3) := by decide +kernel
theorem dX6_feed_109 : decode cX6_feed 109 = .ok (.aload_n 0, 1) := by decide +kernel
theorem dX6_feed_110 : decode cX6_feed 110 = .ok (.getfield 19, 3) := by decide +kernel
theorem dX6_feed_113 : decode cX6_feed 113 = .ok (.iload 5, 2) := by decide +kernel
theorem dX6_feed_115 : decode cX6_feed 115 = .ok (.invokevirtual 90, 3) := by decide +kernel
theorem dX6_feed_118 : decode cX6_feed 118 = .ok (.iload_n 1, 1) := by decide +kernel
theorem dX6_feed_119 : decode cX6_feed 119 = .ok (.iconst 4, 1) := by decide +kernel
theorem dX6_feed_120 : decode cX6_feed 120 = .ok (.if_icmp .le 12, 3) := by decide +kernel
theorem dX6_feed_123 : decode cX6_feed 123 = .ok (.aload_n 0, 1) := by decide +kernel
theorem dX6_feed_124 : decode cX6_feed 124 = .ok (.getfield 19, 3) := by decide +kernel
theorem dX6_feed_127 : decode cX6_feed 127 = .ok (.iload 6, 2) := by decide +kernel
theorem dX6_feed_129 : decode cX6_feed 129 = .ok (.invokevirtual 90, 3) := by decide +kernel
theorem dX6_feed_132 : decode cX6_feed 132 = .ok (.aload_n 0, 1) := by decide +kernel
theorem dX6_feed_133 : decode cX6_feed 133 = .ok (.getfield 19, 3) := by decide +kernel
theorem dX6_feed_136 : decode cX6_feed 136 = .ok (.getfield 82, 3) := by decide +kernel
theorem dX6_feed_139 : decode cX6_feed 139 = .ok (.ireturn, 1) := by decide +kernel
theorem dX6_text_0 : decode cX6_text 0 = .ok (.aload_n 0, 1) := by decide +kernel
theorem dX6_text_1 : decode cX6_text 1 = .ok (.getfield 10, 3) := by decide +kernel
theorem dX6_text_4 : decode cX6_text 4 = .ok (.getfield 78, 3) := by decide +kernel
theorem dX6_text_7 : decode cX6_text 7 = .ok (.bipush 6, 2) := by decide +kernel
theorem dX6_text_9 : decode cX6_text 9 = .ok (.if_icmp .lt 6, 3) := by decide +kernel
theorem dX6_text_12 : decode cX6_text 12 = .ok (.bipush (-4), 2) := by decide +kernel
theorem dX6_text_14 : decode cX6_text 14 = .ok (.ireturn, 1) := by decide +kernel
theorem dX6_text_15 : decode cX6_text 15 = .ok (.aload_n 0, 1) := by decide +kernel
theorem dX6_text_16 : decode cX6_text 16 = .ok (.getfield 10, 3) := by decide +kernel
theorem dX6_text_19 : decode cX6_text 19 = .ok (.invokevirtual 94, 3) := by decide +kernel
theorem dX6_text_22 : decode cX6_text 22 = .ok (.aload_n 0, 1) := by decide +kernel
theorem dX6_text_23 : decode cX6_text 23 = .ok (.getfield 19, 3) := by decide +kernel
theorem dX6_text_26 : decode cX6_text 26 = .ok (.aload_n 0, 1) := by decide +kernel
theorem dX6_text_27 : decode cX6_text 27 = .ok (.getfield 10, 3) := by decide +kernel
theorem dX6_text_30 : decode cX6_text 30 = .ok (.invokevirtual 97, 3) := by decide +kernel
theorem dX6_text_33 : decode cX6_text 33 = .ok (.istore_n 1, 1) := by decide +kernel
theorem dX6_text_34 : decode cX6_text 34 = .ok (.aload_n 0, 1) := by decide +kernel
theorem dX6_text_35 : decode cX6_text 35 = .ok (.getfield 19, 3) := by decide +kernel
theorem dX6_text_38 : decode cX6_text 38 = .ok (.iconst 0, 1) := by decide +kernel
theorem dX6_text_39 : decode cX6_text 39 = .ok (.putfield 82, 3) := by decide +kernel
theorem dX6_text_42 : decode cX6_text 42 = .ok (.iload_n 1, 1) := by decide +kernel
theorem dX6_text_43 : decode cX6_text 43 = .ok (.iconst (-1), 1) := by decide +kernel
theorem dX6_text_44 : decode cX6_text 44 = .ok (.if_icmp .ne 13, 3) := by decide +kernel
theorem dX6_text_47 : decode cX6_text 47 = .ok (.aload_n 0, 1) := by decide +kernel
theorem dX6_text_48 : decode cX6_text 48 = .ok (.getfield 10, 3) := by decide +kernel
theorem dX6_text_51 : decode cX6_text 51 = .ok (.invokevirtual 101, 3) := by decide +kernel
theorem dX6_text_54 : decode cX6_text 54 = .ok (.goto 7, 3) := by decide +kernel
theorem dX6_text_57 : decode cX6_text 57 = .ok (.bipush (-100), 2) := by decide +kernel
theorem dX6_text_59 : decode cX6_text 59 = .ok (.iload_n 1, 1) := by decide +kernel
theorem dX6_text_60 : decode cX6_text 60 = .ok (.isub, 1) := by decide +kernel
theorem dX6_text_61 : decode cX6_text 61 = .ok (.ireturn, 1) := by decide +kernel
theorem dX6_force_0 : decode cX6_force 0 = .ok (.iload_n 1, 1) := by decide +kernel
theorem dX6_force_1 : decode cX6_force 1 = .ok (.ifCond .lt 14, 3) := by decide +kernel
theorem dX6_force_4 : decode cX6_force 4 = .ok (.iload_n 1, 1) := by decide +kernel
theorem dX6_force_5 : decode cX6_force 5 = .ok (.aload_n 0, 1) := by decide +kernel
theorem dX6_force_6 : decode cX6_force 6 = .ok (.getfield 10, 3) := by decide +kernel
theorem dX6_force_9 : decode cX6_force 9 = .ok (.getfield 78, 3) := by decide +kernel
theorem dX6_force_12 : decode cX6_force 12 = .ok (.if_icmp .lt 6, 3) := by decide +kernel
theorem dX6_force_15 : decode cX6_force 15 = .ok (.bipush (-2), 2) := by decide +kernel
theorem dX6_force_17 : decode cX6_force 17 = .ok (.ireturn, 1) := by decide +kernel
theorem dX6_force_18 : decode cX6_force 18 = .ok (.aload_n 0, 1) := by decide +kernel
theorem dX6_force_19 : decode cX6_force 19 = .ok (.getfield 28, 3) := by decide +kernel
theorem dX6_force_22 : decode cX6_force 22 = .ok (.getfield 79, 3) := by decide +kernel
theorem dX6_force_25 : decode cX6_force 25 = .ok (.istore_n 2, 1) := by decide +kernel
theorem dX6_force_26 : decode cX6_force 26 = .ok (.aload_n 0, 1) := by decide +kernel
theorem dX6_force_27 : decode cX6_force 27 = .ok (.getfield 28, 3) := by decide +kernel
theorem dX6_force_30 : decode cX6_force 30 = .ok (.iload_n 1, 1) := by decide +kernel
theorem dX6_force_31 : decode cX6_force 31 = .ok (.putfield 79, 3) := by decide +kernel
theorem dX6_force_34 : decode cX6_force 34 = .ok (.iload_n 2, 1) := by decide +kernel
theorem dX6_force_35 : decode cX6_force 35 = .ok (.ireturn, 1) := by decide +kernel
theorem dX6_asks_0 : decode cX6_asks 0 = .ok (.iload_n 1, 1) := by decide +kernel
theorem dX6_asks_1 : decode cX6_asks 1 = .ok (.ifCond .lt 30, 3) := by decide +kernel
theorem dX6_asks_4 : decode cX6_asks 4 = .ok (.iload_n 1, 1) := by decide +kernel
theorem dX6_asks_5 : decode cX6_asks 5 = .ok (.iconst 3, 1) := by decide +kernel
theorem dX6_asks_6 : decode cX6_asks 6 = .ok (.if_icmp .ge 25, 3) := by decide +kernel
theorem dX6_asks_9 : decode cX6_asks 9 = .ok (.iload_n 2, 1) := by decide +kernel
theorem dX6_asks_10 : decode cX6_asks 10 = .ok (.ifCond .lt 21, 3) := by decide +kernel
theorem dX6_asks_13 : decode cX6_asks 13 = .ok (.iload_n 2, 1) := by decide +kernel
theorem dX6_asks_14 : decode cX6_asks 14 = .ok (.sipush 999, 3) := by decide +kernel
theorem dX6_asks_17 : decode cX6_asks 17 = .ok (.if_icmp .gt 14, 3) := by decide +kernel
theorem dX6_asks_20 : decode cX6_asks 20 = .ok (.iload_n 3, 1) := by decide +kernel
theorem dX6_asks_21 : decode cX6_asks 21 = .ok (.ifCond .lt 10, 3) := by decide +kernel
theorem dX6_asks_24 : decode cX6_asks 24 = .ok (.iload_n 3, 1) := by decide +kernel
theorem dX6_asks_25 : decode cX6_asks 25 = .ok (.sipush 999, 3) := by decide +kernel
theorem dX6_asks_28 : decode cX6_asks 28 = .ok (.if_icmp .le 6, 3) := by decide +kernel
theorem dX6_asks_31 : decode cX6_asks 31 = .ok (.bipush (-2), 2) := by decide +kernel
theorem dX6_asks_33 : decode cX6_asks 33 = .ok (.ireturn, 1) := by decide +kernel
theorem dX6_asks_34 : decode cX6_asks 34 = .ok (.iload 4, 2) := by decide +kernel
theorem dX6_asks_36 : decode cX6_asks 36 = .ok (.ifCond .lt 22, 3) := by decide +kernel
theorem dX6_asks_39 : decode cX6_asks 39 = .ok (.iload 4, 2) := by decide +kernel
theorem dX6_asks_41 : decode cX6_asks 41 = .ok (.bipush 10, 2) := by decide +kernel
theorem dX6_asks_43 : decode cX6_asks 43 = .ok (.idiv, 1) := by decide +kernel
theorem dX6_asks_44 : decode cX6_asks 44 = .ok (.bipush 10, 2) := by decide +kernel
theorem dX6_asks_46 : decode cX6_asks 46 = .ok (.if_icmp .ge 12, 3) := by decide +kernel
theorem dX6_asks_49 : decode cX6_asks 49 = .ok (.iload 4, 2) := by decide +kernel
theorem dX6_asks_51 : decode cX6_asks 51 = .ok (.bipush 10, 2) := by decide +kernel
theorem dX6_asks_53 : decode cX6_asks 53 = .ok (.irem, 1) := by decide +kernel
theorem dX6_asks_54 : decode cX6_asks 54 = .ok (.iconst 1, 1) := by decide +kernel
theorem dX6_asks_55 : decode cX6_asks 55 = .ok (.if_icmp .le 6, 3) := by decide +kernel
theorem dX6_asks_58 : decode cX6_asks 58 = .ok (.bipush (-2), 2) := by decide +kernel
theorem dX6_asks_60 : decode cX6_asks 60 = .ok (.ireturn, 1) := by decide +kernel
theorem dX6_asks_61 : decode cX6_asks 61 = .ok (.aload_n 0, 1) := by decide +kernel
theorem dX6_asks_62 : decode cX6_asks 62 = .ok (.getfield 10, 3) := by decide +kernel
theorem dX6_asks_65 : decode cX6_asks 65 = .ok (.iload_n 2, 1) := by decide +kernel
theorem dX6_asks_66 : decode cX6_asks 66 = .ok (.iload_n 3, 1) := by decide +kernel
theorem dX6_asks_67 : decode cX6_asks 67 = .ok (.iload 4, 2) := by decide +kernel
theorem dX6_asks_69 : decode cX6_asks 69 = .ok (.bipush 10, 2) := by decide +kernel
theorem dX6_asks_71 : decode cX6_asks 71 = .ok (.idiv, 1) := by decide +kernel
theorem dX6_asks_72 : decode cX6_asks 72 = .ok (.iload 4, 2) := by decide +kernel
theorem dX6_asks_74 : decode cX6_asks 74 = .ok (.bipush 10, 2) := by decide +kernel
theorem dX6_asks_76 : decode cX6_asks 76 = .ok (.irem, 1) := by decide +kernel
theorem dX6_asks_77 : decode cX6_asks 77 = .ok (.invokevirtual 105, 3) := by decide +kernel
theorem dX6_asks_80 : decode cX6_asks 80 = .ok (.aload_n 0, 1) := by decide +kernel
theorem dX6_asks_81 : decode cX6_asks 81 = .ok (.getfield 10, 3) := by decide +kernel
theorem dX6_asks_84 : decode cX6_asks 84 = .ok (.aload_n 0, 1) := by decide +kernel
theorem dX6_asks_85 : decode cX6_asks 85 = .ok (.getfield 28, 3) := by decide +kernel
theorem dX6_asks_88 : decode cX6_asks 88 = .ok (.getfield 75, 3) := by decide +kernel
theorem dX6_asks_91 : decode cX6_asks 91 = .ok (.aload_n 0, 1) := by decide +kernel
theorem dX6_asks_92 : decode cX6_asks 92 = .ok (.getfield 28, 3) := by decide +kernel
theorem dX6_asks_95 : decode cX6_asks 95 = .ok (.getfield 71, 3) := by decide +kernel
theorem dX6_asks_98 : decode cX6_asks 98 = .ok (.iconst 0, 1) := by decide +kernel
theorem dX6_asks_99 : decode cX6_asks 99 = .ok (.iaload, 1) := by decide +kernel
theorem dX6_asks_100 : decode cX6_asks 100 = .ok (.invokevirtual 109, 3) := by decide +kernel
theorem dX6_asks_103 : decode cX6_asks 103 = .ok (.aload_n 0, 1) := by decide +kernel
theorem dX6_asks_104 : decode cX6_asks 104 = .ok (.getfield 10, 3) := by decide +kernel
theorem dX6_asks_107 : decode cX6_asks 107 = .ok (.aload_n 0, 1) := by decide +kernel
theorem dX6_asks_108 : decode cX6_asks 108 = .ok (.getfield 28, 3) := by decide +kernel
theorem dX6_asks_111 : decode cX6_asks 111 = .ok (.getfield 79, 3) := by decide +kernel
theorem dX6_asks_114 : decode cX6_asks 114 = .ok (.iload_n 1, 1) := by decide +kernel
theorem dX6_asks_115 : decode cX6_asks 115 = .ok (.invokevirtual 113, 3) := by decide +kernel
theorem dX6_asks_118 : decode cX6_asks 118 = .ok (.ireturn, 1) := by decide +kernel
theorem dX6_buy_0 : decode cX6_buy 0 = .ok (.iload_n 1, 1) := by decide +kernel
theorem dX6_buy_1 : decode cX6_buy 1 = .ok (.ifCond .lt 23, 3) := by decide +kernel
theorem dX6_buy_4 : decode cX6_buy 4 = .ok (.iload_n 1, 1) := by decide +kernel
theorem dX6_buy_5 : decode cX6_buy 5 = .ok (.bipush 10, 2) := by decide +kernel
theorem dX6_buy_7 : decode cX6_buy 7 = .ok (.idiv, 1) := by decide +kernel
theorem dX6_buy_8 : decode cX6_buy 8 = .ok (.bipush 6, 2) := by decide +kernel
theorem dX6_buy_10 : decode cX6_buy 10 = .ok (.if_icmp .ge 14, 3) := by decide +kernel
theorem dX6_buy_13 : decode cX6_buy 13 = .ok (.iload_n 2, 1) := by decide +kernel
theorem dX6_buy_14 : decode cX6_buy 14 = .ok (.ifCond .lt 10, 3) := by decide +kernel
theorem dX6_buy_17 : decode cX6_buy 17 = .ok (.iload_n 2, 1) := by decide +kernel
theorem dX6_buy_18 : decode cX6_buy 18 = .ok (.sipush 999, 3) := by decide +kernel
theorem dX6_buy_21 : decode cX6_buy 21 = .ok (.if_icmp .le 6, 3) := by decide +kernel
theorem dX6_buy_24 : decode cX6_buy 24 = .ok (.bipush (-2), 2) := by decide +kernel
theorem dX6_buy_26 : decode cX6_buy 26 = .ok (.ireturn, 1) := by decide +kernel
theorem dX6_buy_27 : decode cX6_buy 27 = .ok (.aload_n 0, 1) := by decide +kernel
theorem dX6_buy_28 : decode cX6_buy 28 = .ok (.getfield 28, 3) := by decide +kernel
theorem dX6_buy_31 : decode cX6_buy 31 = .ok (.getfield 52, 3) := by decide +kernel
theorem dX6_buy_34 : decode cX6_buy 34 = .ok (.getfield 56, 3) := by decide +kernel
theorem dX6_buy_37 : decode cX6_buy 37 = .ok (.bipush 8, 2) := by decide +kernel
theorem dX6_buy_39 : decode cX6_buy 39 = .ok (.if_icmp .lt 6, 3) := by decide +kernel
theorem dX6_buy_42 : decode cX6_buy 42 = .ok (.bipush (-4), 2) := by decide +kernel
theorem dX6_buy_44 : decode cX6_buy 44 = .ok (.ireturn, 1) := by decide +kernel
theorem dX6_buy_45 : decode cX6_buy 45 = .ok (.aload_n 0, 1) := by decide +kernel
theorem dX6_buy_46 : decode cX6_buy 46 = .ok (.getfield 28, 3) := by decide +kernel
theorem dX6_buy_49 : decode cX6_buy 49 = .ok (.getfield 52, 3) := by decide +kernel
theorem dX6_buy_52 : decode cX6_buy 52 = .ok (.iload_n 1, 1) := by decide +kernel
theorem dX6_buy_53 : decode cX6_buy 53 = .ok (.bipush 10, 2) := by decide +kernel
theorem dX6_buy_55 : decode cX6_buy 55 = .ok (.idiv, 1) := by decide +kernel
theorem dX6_buy_56 : decode cX6_buy 56 = .ok (.iload_n 1, 1) := by decide +kernel
theorem dX6_buy_57 : decode cX6_buy 57 = .ok (.bipush 10, 2) := by decide +kernel
theorem dX6_buy_59 : decode cX6_buy 59 = .ok (.irem, 1) := by decide +kernel
theorem dX6_buy_60 : decode cX6_buy 60 = .ok (.iload_n 2, 1) := by decide +kernel
theorem dX6_buy_61 : decode cX6_buy 61 = .ok (.invokevirtual 117, 3) := by decide +kernel
theorem dX6_buy_64 : decode cX6_buy 64 = .ok (.istore_n 3, 1) := by decide +kernel
theorem dX6_buy_65 : decode cX6_buy 65 = .ok (.aload_n 0, 1) := by decide +kernel
theorem dX6_buy_66 : decode cX6_buy 66 = .ok (.getfield 28, 3) := by decide +kernel
theorem dX6_buy_69 : decode cX6_buy 69 = .ok (.iload_n 3, 1) := by decide +kernel
theorem dX6_buy_70 : decode cX6_buy 70 = .ok (.invokevirtual 120, 3) := by decide +kernel
theorem dX6_buy_73 : decode cX6_buy 73 = .ok (.iload_n 3, 1) := by decide +kernel
theorem dX6_buy_74 : decode cX6_buy 74 = .ok (.ireturn, 1) := by decide +kernel
theorem dX6_told_0 : decode cX6_told 0 = .ok (.aload_n 0, 1) := by decide +kernel
theorem dX6_told_1 : decode cX6_told 1 = .ok (.iload_n 1, 1) := by decide +kernel
theorem dX6_told_2 : decode cX6_told 2 = .ok (.invokevirtual 123, 3) := by decide +kernel
theorem dX6_told_5 : decode cX6_told 5 = .ok (.ifCond .ne 6, 3) := by decide +kernel
theorem dX6_told_8 : decode cX6_told 8 = .ok (.bipush (-5), 2) := by decide +kernel
theorem dX6_told_10 : decode cX6_told 10 = .ok (.ireturn, 1) := by decide +kernel
theorem dX6_told_11 : decode cX6_told 11 = .ok (.iload_n 2, 1) := by decide +kernel
theorem dX6_told_12 : decode cX6_told 12 = .ok (.ifCond .lt 9, 3) := by decide +kernel
theorem dX6_told_15 : decode cX6_told 15 = .ok (.iload_n 2, 1) := by decide +kernel
theorem dX6_told_16 : decode cX6_told 16 = .ok (.bipush 7, 2) := by decide +kernel
theorem dX6_told_18 : decode cX6_told 18 = .ok (.if_icmp .le 6, 3) := by decide +kernel
theorem dX6_told_21 : decode cX6_told 21 = .ok (.bipush (-7), 2) := by decide +kernel
theorem dX6_told_23 : decode cX6_told 23 = .ok (.ireturn, 1) := by decide +kernel
theorem dX6_told_24 : decode cX6_told 24 = .ok (.iload_n 2, 1) := by decide +kernel
theorem dX6_told_25 : decode cX6_told 25 = .ok (.bipush 7, 2) := by decide +kernel
theorem dX6_told_27 : decode cX6_told 27 = .ok (.if_icmp .ne 17, 3) := by decide +kernel
theorem dX6_told_30 : decode cX6_told 30 = .ok (.aload_n 0, 1) := by decide +kernel
theorem dX6_told_31 : decode cX6_told 31 = .ok (.getfield 28, 3) := by decide +kernel
theorem dX6_told_34 : decode cX6_told 34 = .ok (.getfield 52, 3) := by decide +kernel
theorem dX6_told_37 : decode cX6_told 37 = .ok (.iload_n 1, 1) := by decide +kernel
theorem dX6_told_38 : decode cX6_told 38 = .ok (.invokevirtual 126, 3) := by decide +kernel
theorem dX6_told_41 : decode cX6_told 41 = .ok (.goto 15, 3) := by decide +kernel
theorem dX6_told_44 : decode cX6_told 44 = .ok (.aload_n 0, 1) := by decide +kernel
theorem dX6_told_45 : decode cX6_told 45 = .ok (.getfield 28, 3) := by decide +kernel
theorem dX6_told_48 : decode cX6_told 48 = .ok (.getfield 52, 3) := by decide +kernel
theorem dX6_told_51 : decode cX6_told 51 = .ok (.iload_n 1, 1) := by decide +kernel
theorem dX6_told_52 : decode cX6_told 52 = .ok (.iload_n 2, 1) := by decide +kernel
theorem dX6_told_53 : decode cX6_told 53 = .ok (.invokevirtual 130, 3) := by decide +kernel
theorem dX6_told_56 : decode cX6_told 56 = .ok (.ireturn, 1) := by decide +kernel
theorem dX6_put_0 : decode cX6_put 0 = .ok (.aload_n 0, 1) := by decide +kernel
theorem dX6_put_1 : decode cX6_put 1 = .ok (.iload_n 1, 1) := by decide +kernel
theorem dX6_put_2 : decode cX6_put 2 = .ok (.invokevirtual 123, 3) := by decide +kernel
theorem dX6_put_5 : decode cX6_put 5 = .ok (.ifCond .ne 6, 3) := by decide +kernel
theorem dX6_put_8 : decode cX6_put 8 = .ok (.bipush (-5), 2) := by decide +kernel
theorem dX6_put_10 : decode cX6_put 10 = .ok (.ireturn, 1) := by decide +kernel
theorem dX6_put_11 : decode cX6_put 11 = .ok (.iload_n 2, 1) := by decide +kernel
theorem dX6_put_12 : decode cX6_put 12 = .ok (.ifCond .lt 29, 3) := by decide +kernel
theorem dX6_put_15 : decode cX6_put 15 = .ok (.iload_n 2, 1) := by decide +kernel
theorem dX6_put_16 : decode cX6_put 16 = .ok (.iconst 2, 1) := by decide +kernel
theorem dX6_put_17 : decode cX6_put 17 = .ok (.if_icmp .gt 24, 3) := by decide +kernel
theorem dX6_put_20 : decode cX6_put 20 = .ok (.iload_n 3, 1) := by decide +kernel
theorem dX6_put_21 : decode cX6_put 21 = .ok (.ifCond .lt 20, 3) := by decide +kernel
theorem dX6_put_24 : decode cX6_put 24 = .ok (.iload_n 3, 1) := by decide +kernel
theorem dX6_put_25 : decode cX6_put 25 = .ok (.iload_n 2, 1) := by decide +kernel
theorem dX6_put_26 : decode cX6_put 26 = .ok (.iconst 1, 1) := by decide +kernel
theorem dX6_put_27 : decode cX6_put 27 = .ok (.if_icmp .ne 8, 3) := by decide +kernel
theorem dX6_put_30 : decode cX6_put 30 = .ok (.bipush 99, 2) := by decide +kernel
theorem dX6_put_32 : decode cX6_put 32 = .ok (.goto 6, 3) := by decide +kernel
theorem dX6_put_35 : decode cX6_put 35 = .ok (.sipush 999, 3) := by decide +kernel
theorem dX6_put_38 : decode cX6_put 38 = .ok (.if_icmp .le 6, 3) := by decide +kernel
theorem dX6_put_41 : decode cX6_put 41 = .ok (.bipush (-7), 2) := by decide +kernel
theorem dX6_put_43 : decode cX6_put 43 = .ok (.ireturn, 1) := by decide +kernel
theorem dX6_put_44 : decode cX6_put 44 = .ok (.aload_n 0, 1) := by decide +kernel
theorem dX6_put_45 : decode cX6_put 45 = .ok (.getfield 28, 3) := by decide +kernel
theorem dX6_put_48 : decode cX6_put 48 = .ok (.getfield 52, 3) := by decide +kernel
theorem dX6_put_51 : decode cX6_put 51 = .ok (.iload_n 1, 1) := by decide +kernel
theorem dX6_put_52 : decode cX6_put 52 = .ok (.iconst 2, 1) := by decide +kernel
theorem dX6_put_53 : decode cX6_put 53 = .ok (.iload_n 2, 1) := by decide +kernel
theorem dX6_put_54 : decode cX6_put 54 = .ok (.iadd, 1) := by decide +kernel
theorem dX6_put_55 : decode cX6_put 55 = .ok (.invokevirtual 130, 3) := by decide +kernel
theorem dX6_put_58 : decode cX6_put 58 = .ok (.istore 4, 2) := by decide +kernel
theorem dX6_put_60 : decode cX6_put 60 = .ok (.aload_n 0, 1) := by decide +kernel
theorem dX6_put_61 : decode cX6_put 61 = .ok (.getfield 28, 3) := by decide +kernel
theorem dX6_put_64 : decode cX6_put 64 = .ok (.getfield 52, 3) := by decide +kernel
theorem dX6_put_67 : decode cX6_put 67 = .ok (.iload_n 1, 1) := by decide +kernel
theorem dX6_put_68 : decode cX6_put 68 = .ok (.iconst 2, 1) := by decide +kernel
theorem dX6_put_69 : decode cX6_put 69 = .ok (.iload_n 2, 1) := by decide +kernel
theorem dX6_put_70 : decode cX6_put 70 = .ok (.iadd, 1) := by decide +kernel
theorem dX6_put_71 : decode cX6_put 71 = .ok (.iload_n 3, 1) := by decide +kernel
theorem dX6_put_72 : decode cX6_put 72 = .ok (.invokevirtual 133, 3) := by decide +kernel
theorem dX6_put_75 : decode cX6_put 75 = .ok (.iload 4, 2) := by decide +kernel
theorem dX6_put_77 : decode cX6_put 77 = .ok (.ireturn, 1) := by decide +kernel
theorem dX6_lies_0 : decode cX6_lies 0 = .ok (.aload_n 0, 1) := by decide +kernel
theorem dX6_lies_1 : decode cX6_lies 1 = .ok (.getfield 28, 3) := by decide +kernel
theorem dX6_lies_4 : decode cX6_lies 4 = .ok (.getfield 62, 3) := by decide +kernel
theorem dX6_lies_7 : decode cX6_lies 7 = .ok (.iload_n 1, 1) := by decide +kernel
theorem dX6_lies_8 : decode cX6_lies 8 = .ok (.invokevirtual 137, 3) := by decide +kernel
theorem dX6_lies_11 : decode cX6_lies 11 = .ok (.ifCond .eq 17, 3) := by decide +kernel
theorem dX6_lies_14 : decode cX6_lies 14 = .ok (.aload_n 0, 1) := by decide +kernel
theorem dX6_lies_15 : decode cX6_lies 15 = .ok (.getfield 28, 3) := by decide +kernel
theorem dX6_lies_18 : decode cX6_lies 18 = .ok (.getfield 62, 3) := by decide +kernel
theorem dX6_lies_21 : decode cX6_lies 21 = .ok (.iload_n 1, 1) := by decide +kernel
theorem dX6_lies_22 : decode cX6_lies 22 = .ok (.invokevirtual 140, 3) := by decide +kernel
theorem dX6_lies_25 : decode cX6_lies 25 = .ok (.goto 5, 3) := by decide +kernel
theorem dX6_lies_28 : decode cX6_lies 28 = .ok (.bipush (-6), 2) := by decide +kernel
theorem dX6_lies_30 : decode cX6_lies 30 = .ok (.ireturn, 1) := by decide +kernel
theorem dX6_turn_0 : decode cX6_turn 0 = .ok (.aload_n 0, 1) := by decide +kernel
theorem dX6_turn_1 : decode cX6_turn 1 = .ok (.iload_n 1, 1) := by decide +kernel
theorem dX6_turn_2 : decode cX6_turn 2 = .ok (.invokevirtual 123, 3) := by decide +kernel
theorem dX6_turn_5 : decode cX6_turn 5 = .ok (.ifCond .ne 6, 3) := by decide +kernel
theorem dX6_turn_8 : decode cX6_turn 8 = .ok (.bipush (-5), 2) := by decide +kernel
theorem dX6_turn_10 : decode cX6_turn 10 = .ok (.ireturn, 1) := by decide +kernel
theorem dX6_turn_11 : decode cX6_turn 11 = .ok (.aload_n 0, 1) := by decide +kernel
theorem dX6_turn_12 : decode cX6_turn 12 = .ok (.getfield 28, 3) := by decide +kernel
theorem dX6_turn_15 : decode cX6_turn 15 = .ok (.iload_n 1, 1) := by decide +kernel
theorem dX6_turn_16 : decode cX6_turn 16 = .ok (.invokevirtual 143, 3) := by decide +kernel
theorem dX6_turn_19 : decode cX6_turn 19 = .ok (.ifCond .ne 6, 3) := by decide +kernel
theorem dX6_turn_22 : decode cX6_turn 22 = .ok (.bipush (-3), 2) := by decide +kernel
theorem dX6_turn_24 : decode cX6_turn 24 = .ok (.ireturn, 1) := by decide +kernel
theorem dX6_turn_25 : decode cX6_turn 25 = .ok (.aload_n 0, 1) := by decide +kernel
theorem dX6_turn_26 : decode cX6_turn 26 = .ok (.getfield 28, 3) := by decide +kernel
theorem dX6_turn_29 : decode cX6_turn 29 = .ok (.iload_n 1, 1) := by decide +kernel
theorem dX6_turn_30 : decode cX6_turn 30 = .ok (.invokevirtual 146, 3) := by decide +kernel
theorem dX6_turn_33 : decode cX6_turn 33 = .ok (.aload_n 0, 1) := by decide +kernel
theorem dX6_turn_34 : decode cX6_turn 34 = .ok (.getfield 28, 3) := by decide +kernel
theorem dX6_turn_37 : decode cX6_turn 37 = .ok (.getfield 52, 3) := by decide +kernel
theorem dX6_turn_40 : decode cX6_turn 40 = .ok (.iload_n 1, 1) := by decide +kernel
theorem dX6_turn_41 : decode cX6_turn 41 = .ok (.iconst 2, 1) := by decide +kernel
theorem dX6_turn_42 : decode cX6_turn 42 = .ok (.invokevirtual 130, 3) := by decide +kernel
theorem dX6_turn_45 : decode cX6_turn 45 = .ok (.ireturn, 1) := by decide +kernel
theorem dX6_next_0 : decode cX6_next 0 = .ok (.aload_n 0, 1) := by decide +kernel
theorem dX6_next_1 : decode cX6_next 1 = .ok (.getfield 28, 3) := by decide +kernel
theorem dX6_next_4 : decode cX6_next 4 = .ok (.getfield 62, 3) := by decide +kernel
theorem dX6_next_7 : decode cX6_next 7 = .ok (.aload_n 0, 1) := by decide +kernel
theorem dX6_next_8 : decode cX6_next 8 = .ok (.getfield 28, 3) := by decide +kernel
theorem dX6_next_11 : decode cX6_next 11 = .ok (.aload_n 0, 1) := by decide +kernel
theorem dX6_next_12 : decode cX6_next 12 = .ok (.getfield 28, 3) := by decide +kernel
theorem dX6_next_15 : decode cX6_next 15 = .ok (.getfield 71, 3) := by decide +kernel
theorem dX6_next_18 : decode cX6_next 18 = .ok (.iconst 2, 1) := by decide +kernel
theorem dX6_next_19 : decode cX6_next 19 = .ok (.iaload, 1) := by decide +kernel
theorem dX6_next_20 : decode cX6_next 20 = .ok (.invokevirtual 149, 3) := by decide +kernel
theorem dX6_next_23 : decode cX6_next 23 = .ok (.invokevirtual 140, 3) := by decide +kernel
theorem dX6_next_26 : decode cX6_next 26 = .ok (.ireturn, 1) := by decide +kernel
theorem dX6_pileUp_0 : decode cX6_pileUp 0 = .ok (.iload_n 1, 1) := by decide +kernel
theorem dX6_pileUp_1 : decode cX6_pileUp 1 = .ok (.ifCond .lt 8, 3) := by decide +kernel
theorem dX6_pileUp_4 : decode cX6_pileUp 4 = .ok (.iload_n 1, 1) := by decide +kernel
theorem dX6_pileUp_5 : decode cX6_pileUp 5 = .ok (.iconst 3, 1) := by decide +kernel
theorem dX6_pileUp_6 : decode cX6_pileUp 6 = .ok (.if_icmp .le 6, 3) := by decide +kernel
theorem dX6_pileUp_9 : decode cX6_pileUp 9 = .ok (.bipush (-2), 2) := by decide +kernel
theorem dX6_pileUp_11 : decode cX6_pileUp 11 = .ok (.ireturn, 1) := by decide +kernel
theorem dX6_pileUp_12 : decode cX6_pileUp 12 = .ok (.iload_n 1, 1) := by decide +kernel
theorem dX6_pileUp_13 : decode cX6_pileUp 13 = .ok (.iconst 3, 1) := by decide +kernel
theorem dX6_pileUp_14 : decode cX6_pileUp 14 = .ok (.if_icmp .ne 16, 3) := by decide +kernel
theorem dX6_pileUp_17 : decode cX6_pileUp 17 = .ok (.aload_n 0, 1) := by decide +kernel
theorem dX6_pileUp_18 : decode cX6_pileUp 18 = .ok (.getfield 28, 3) := by decide +kernel
theorem dX6_pileUp_21 : decode cX6_pileUp 21 = .ok (.getfield 62, 3) := by decide +kernel
theorem dX6_pileUp_24 : decode cX6_pileUp 24 = .ok (.invokevirtual 152, 3) := by decide +kernel
theorem dX6_pileUp_27 : decode cX6_pileUp 27 = .ok (.goto 11, 3) := by decide +kernel
theorem dX6_pileUp_30 : decode cX6_pileUp 30 = .ok (.aload_n 0, 1) := by decide +kernel
theorem dX6_pileUp_31 : decode cX6_pileUp 31 = .ok (.getfield 28, 3) := by decide +kernel
theorem dX6_pileUp_34 : decode cX6_pileUp 34 = .ok (.iload_n 1, 1) := by decide +kernel
theorem dX6_pileUp_35 : decode cX6_pileUp 35 = .ok (.invokevirtual 155, 3) := by decide +kernel
theorem dX6_pileUp_38 : decode cX6_pileUp 38 = .ok (.aload_n 0, 1) := by decide +kernel
theorem dX6_pileUp_39 : decode cX6_pileUp 39 = .ok (.getfield 28, 3) := by decide +kernel
theorem dX6_pileUp_42 : decode cX6_pileUp 42 = .ok (.getfield 62, 3) := by decide +kernel
theorem dX6_pileUp_45 : decode cX6_pileUp 45 = .ok (.iconst 0, 1) := by decide +kernel
theorem dX6_pileUp_46 : decode cX6_pileUp 46 = .ok (.invokevirtual 140, 3) := by decide +kernel
theorem dX6_pileUp_49 : decode cX6_pileUp 49 = .ok (.ireturn, 1) := by decide +kernel
theorem dX6_live_0 : decode cX6_live 0 = .ok (.aload_n 0, 1) := by decide +kernel
theorem dX6_live_1 : decode cX6_live 1 = .ok (.getfield 28, 3) := by decide +kernel
theorem dX6_live_4 : decode cX6_live 4 = .ok (.getfield 75, 3) := by decide +kernel
theorem dX6_live_7 : decode cX6_live 7 = .ok (.sipush 999, 3) := by decide +kernel
theorem dX6_live_10 : decode cX6_live 10 = .ok (.if_icmp .lt 6, 3) := by decide +kernel
theorem dX6_live_13 : decode cX6_live 13 = .ok (.bipush (-4), 2) := by decide +kernel
theorem dX6_live_15 : decode cX6_live 15 = .ok (.ireturn, 1) := by decide +kernel
theorem dX6_live_16 : decode cX6_live 16 = .ok (.aload_n 0, 1) := by decide +kernel
theorem dX6_live_17 : decode cX6_live 17 = .ok (.getfield 28, 3) := by decide +kernel
theorem dX6_live_20 : decode cX6_live 20 = .ok (.aload_n 0, 1) := by decide +kernel
theorem dX6_live_21 : decode cX6_live 21 = .ok (.getfield 28, 3) := by decide +kernel
theorem dX6_live_24 : decode cX6_live 24 = .ok (.getfield 71, 3) := by decide +kernel
theorem dX6_live_27 : decode cX6_live 27 = .ok (.iconst 0, 1) := by decide +kernel
theorem dX6_live_28 : decode cX6_live 28 = .ok (.iaload, 1) := by decide +kernel
theorem dX6_live_29 : decode cX6_live 29 = .ok (.aload_n 0, 1) := by decide +kernel
theorem dX6_live_30 : decode cX6_live 30 = .ok (.getfield 28, 3) := by decide +kernel
theorem dX6_live_33 : decode cX6_live 33 = .ok (.getfield 71, 3) := by decide +kernel
theorem dX6_live_36 : decode cX6_live 36 = .ok (.iconst 2, 1) := by decide +kernel
theorem dX6_live_37 : decode cX6_live 37 = .ok (.iaload, 1) := by decide +kernel
theorem dX6_live_38 : decode cX6_live 38 = .ok (.invokevirtual 158, 3) := by decide +kernel
theorem dX6_live_41 : decode cX6_live 41 = .ok (.ireturn, 1) := by decide +kernel
theorem dX6_run_0 : decode cX6_run 0 = .ok (.iload_n 1, 1) := by decide +kernel
theorem dX6_run_1 : decode cX6_run 1 = .ok (.invokestatic 161, 3) := by decide +kernel
theorem dX6_run_4 : decode cX6_run 4 = .ok (.ifCond .eq 12, 3) := by decide +kernel
theorem dX6_run_7 : decode cX6_run 7 = .ok (.iload_n 2, 1) := by decide +kernel
theorem dX6_run_8 : decode cX6_run 8 = .ok (.ifCond .lt 8, 3) := by decide +kernel
theorem dX6_run_11 : decode cX6_run 11 = .ok (.iload_n 2, 1) := by decide +kernel
theorem dX6_run_12 : decode cX6_run 12 = .ok (.iconst 4, 1) := by decide +kernel
theorem dX6_run_13 : decode cX6_run 13 = .ok (.if_icmp .le 6, 3) := by decide +kernel
theorem dX6_run_16 : decode cX6_run 16 = .ok (.bipush (-2), 2) := by decide +kernel
theorem dX6_run_18 : decode cX6_run 18 = .ok (.ireturn, 1) := by decide +kernel
theorem dX6_run_19 : decode cX6_run 19 = .ok (.aload_n 0, 1) := by decide +kernel
theorem dX6_run_20 : decode cX6_run 20 = .ok (.iload_n 1, 1) := by decide +kernel
theorem dX6_run_21 : decode cX6_run 21 = .ok (.invokevirtual 164, 3) := by decide +kernel
theorem dX6_run_24 : decode cX6_run 24 = .ok (.iload_n 2, 1) := by decide +kernel
theorem dX6_run_25 : decode cX6_run 25 = .ok (.tableswitch 66 0 3 #[31, 42, 50, 58], 31) := by decide +kernel
theorem dX6_run_56 : decode cX6_run 56 = .ok (.aload_n 0, 1) := by decide +kernel
theorem dX6_run_57 : decode cX6_run 57 = .ok (.getfield 35, 3) := by decide +kernel
theorem dX6_run_60 : decode cX6_run 60 = .ok (.getfield 52, 3) := by decide +kernel
theorem dX6_run_63 : decode cX6_run 63 = .ok (.invokevirtual 167, 3) := by decide +kernel
theorem dX6_run_66 : decode cX6_run 66 = .ok (.ireturn, 1) := by decide +kernel
theorem dX6_run_67 : decode cX6_run 67 = .ok (.aload_n 0, 1) := by decide +kernel
theorem dX6_run_68 : decode cX6_run 68 = .ok (.getfield 35, 3) := by decide +kernel
theorem dX6_run_71 : decode cX6_run 71 = .ok (.getfield 170, 3) := by decide +kernel
theorem dX6_run_74 : decode cX6_run 74 = .ok (.ireturn, 1) := by decide +kernel
theorem dX6_run_75 : decode cX6_run 75 = .ok (.aload_n 0, 1) := by decide +kernel
theorem dX6_run_76 : decode cX6_run 76 = .ok (.getfield 35, 3) := by decide +kernel
theorem dX6_run_79 : decode cX6_run 79 = .ok (.getfield 173, 3) := by decide +kernel
theorem dX6_run_82 : decode cX6_run 82 = .ok (.ireturn, 1) := by decide +kernel
theorem dX6_run_83 : decode cX6_run 83 = .ok (.aload_n 0, 1) := by decide +kernel
theorem dX6_run_84 : decode cX6_run 84 = .ok (.getfield 35, 3) := by decide +kernel
theorem dX6_run_87 : decode cX6_run 87 = .ok (.getfield 176, 3) := by decide +kernel
theorem dX6_run_90 : decode cX6_run 90 = .ok (.ireturn, 1) := by decide +kernel
theorem dX6_run_91 : decode cX6_run 91 = .ok (.aload_n 0, 1) := by decide +kernel
theorem dX6_run_92 : decode cX6_run 92 = .ok (.getfield 35, 3) := by decide +kernel
theorem dX6_run_95 : decode cX6_run 95 = .ok (.getfield 52, 3) := by decide +kernel
theorem dX6_run_98 : decode cX6_run 98 = .ok (.invokevirtual 179, 3) := by decide +kernel
theorem dX6_run_101 : decode cX6_run 101 = .ok (.ireturn, 1) := by decide +kernel
theorem dX6_then_0 : decode cX6_then 0 = .ok (.aload_n 0, 1) := by decide +kernel
theorem dX6_then_1 : decode cX6_then 1 = .ok (.iload_n 1, 1) := by decide +kernel
theorem dX6_then_2 : decode cX6_then 2 = .ok (.invokevirtual 123, 3) := by decide +kernel
theorem dX6_then_5 : decode cX6_then 5 = .ok (.ifCond .ne 6, 3) := by decide +kernel
theorem dX6_then_8 : decode cX6_then 8 = .ok (.bipush (-5), 2) := by decide +kernel
theorem dX6_then_10 : decode cX6_then 10 = .ok (.ireturn, 1) := by decide +kernel
theorem dX6_then_11 : decode cX6_then 11 = .ok (.iload_n 2, 1) := by decide +kernel
theorem dX6_then_12 : decode cX6_then 12 = .ok (.invokestatic 161, 3) := by decide +kernel
theorem dX6_then_15 : decode cX6_then 15 = .ok (.ifCond .eq 12, 3) := by decide +kernel
theorem dX6_then_18 : decode cX6_then 18 = .ok (.iload_n 3, 1) := by decide +kernel
theorem dX6_then_19 : decode cX6_then 19 = .ok (.ifCond .lt 8, 3) := by decide +kernel
theorem dX6_then_22 : decode cX6_then 22 = .ok (.iload_n 3, 1) := by decide +kernel
theorem dX6_then_23 : decode cX6_then 23 = .ok (.iconst 1, 1) := by decide +kernel
theorem dX6_then_24 : decode cX6_then 24 = .ok (.if_icmp .le 6, 3) := by decide +kernel
theorem dX6_then_27 : decode cX6_then 27 = .ok (.bipush (-7), 2) := by decide +kernel
theorem dX6_then_29 : decode cX6_then 29 = .ok (.ireturn, 1) := by decide +kernel
theorem dX6_then_30 : decode cX6_then 30 = .ok (.aload_n 0, 1) := by decide +kernel
theorem dX6_then_31 : decode cX6_then 31 = .ok (.iload_n 2, 1) := by decide +kernel
theorem dX6_then_32 : decode cX6_then 32 = .ok (.invokevirtual 164, 3) := by decide +kernel
theorem dX6_then_35 : decode cX6_then 35 = .ok (.aload_n 0, 1) := by decide +kernel
theorem dX6_then_36 : decode cX6_then 36 = .ok (.getfield 35, 3) := by decide +kernel
theorem dX6_then_39 : decode cX6_then 39 = .ok (.getfield 52, 3) := by decide +kernel
theorem dX6_then_42 : decode cX6_then 42 = .ok (.iload_n 1, 1) := by decide +kernel
theorem dX6_then_43 : decode cX6_then 43 = .ok (.iconst 2, 1) := by decide +kernel
theorem dX6_then_44 : decode cX6_then 44 = .ok (.iload_n 3, 1) := by decide +kernel
theorem dX6_then_45 : decode cX6_then 45 = .ok (.iadd, 1) := by decide +kernel
theorem dX6_then_46 : decode cX6_then 46 = .ok (.invokevirtual 130, 3) := by decide +kernel
theorem dX6_then_49 : decode cX6_then 49 = .ok (.ireturn, 1) := by decide +kernel
theorem dX6_cost_0 : decode cX6_cost 0 = .ok (.iload_n 1, 1) := by decide +kernel
theorem dX6_cost_1 : decode cX6_cost 1 = .ok (.invokestatic 161, 3) := by decide +kernel
theorem dX6_cost_4 : decode cX6_cost 4 = .ok (.ifCond .ne 6, 3) := by decide +kernel
theorem dX6_cost_7 : decode cX6_cost 7 = .ok (.bipush (-2), 2) := by decide +kernel
theorem dX6_cost_9 : decode cX6_cost 9 = .ok (.ireturn, 1) := by decide +kernel
theorem dX6_cost_10 : decode cX6_cost 10 = .ok (.aload_n 0, 1) := by decide +kernel
theorem dX6_cost_11 : decode cX6_cost 11 = .ok (.iload_n 1, 1) := by decide +kernel
theorem dX6_cost_12 : decode cX6_cost 12 = .ok (.invokevirtual 164, 3) := by decide +kernel
theorem dX6_cost_15 : decode cX6_cost 15 = .ok (.aload_n 0, 1) := by decide +kernel
theorem dX6_cost_16 : decode cX6_cost 16 = .ok (.getfield 10, 3) := by decide +kernel
theorem dX6_cost_19 : decode cX6_cost 19 = .ok (.iconst 0, 1) := by decide +kernel
theorem dX6_cost_20 : decode cX6_cost 20 = .ok (.iconst 0, 1) := by decide +kernel
theorem dX6_cost_21 : decode cX6_cost 21 = .ok (.iconst 0, 1) := by decide +kernel
theorem dX6_cost_22 : decode cX6_cost 22 = .ok (.iconst 0, 1) := by decide +kernel
theorem dX6_cost_23 : decode cX6_cost 23 = .ok (.invokevirtual 105, 3) := by decide +kernel
theorem dX6_cost_26 : decode cX6_cost 26 = .ok (.aload_n 0, 1) := by decide +kernel
theorem dX6_cost_27 : decode cX6_cost 27 = .ok (.getfield 10, 3) := by decide +kernel
theorem dX6_cost_30 : decode cX6_cost 30 = .ok (.aload_n 0, 1) := by decide +kernel
theorem dX6_cost_31 : decode cX6_cost 31 = .ok (.getfield 28, 3) := by decide +kernel
theorem dX6_cost_34 : decode cX6_cost 34 = .ok (.getfield 75, 3) := by decide +kernel
theorem dX6_cost_37 : decode cX6_cost 37 = .ok (.aload_n 0, 1) := by decide +kernel
theorem dX6_cost_38 : decode cX6_cost 38 = .ok (.getfield 28, 3) := by decide +kernel
theorem dX6_cost_41 : decode cX6_cost 41 = .ok (.getfield 71, 3) := by decide +kernel
theorem dX6_cost_44 : decode cX6_cost 44 = .ok (.iconst 0, 1) := by decide +kernel
theorem dX6_cost_45 : decode cX6_cost 45 = .ok (.iaload, 1) := by decide +kernel
theorem dX6_cost_46 : decode cX6_cost 46 = .ok (.invokevirtual 109, 3) := by decide +kernel
theorem dX6_cost_49 : decode cX6_cost 49 = .ok (.aload_n 0, 1) := by decide +kernel
theorem dX6_cost_50 : decode cX6_cost 50 = .ok (.getfield 35, 3) := by decide +kernel
theorem dX6_cost_53 : decode cX6_cost 53 = .ok (.getfield 173, 3) := by decide +kernel
theorem dX6_cost_56 : decode cX6_cost 56 = .ok (.aload_n 0, 1) := by decide +kernel
theorem dX6_cost_57 : decode cX6_cost 57 = .ok (.getfield 10, 3) := by decide +kernel
theorem dX6_cost_60 : decode cX6_cost 60 = .ok (.aload_n 0, 1) := by decide +kernel
theorem dX6_cost_61 : decode cX6_cost 61 = .ok (.getfield 28, 3) := by decide +kernel
theorem dX6_cost_64 : decode cX6_cost 64 = .ok (.getfield 79, 3) := by decide +kernel
theorem dX6_cost_67 : decode cX6_cost 67 = .ok (.iconst 2, 1) := by decide +kernel
theorem dX6_cost_68 : decode cX6_cost 68 = .ok (.invokevirtual 113, 3) := by decide +kernel
theorem dX6_cost_71 : decode cX6_cost 71 = .ok (.imul, 1) := by decide +kernel
theorem dX6_cost_72 : decode cX6_cost 72 = .ok (.ireturn, 1) := by decide +kernel
theorem dX6_rules_0 : decode cX6_rules 0 = .ok (.iload_n 1, 1) := by decide +kernel
theorem dX6_rules_1 : decode cX6_rules 1 = .ok (.invokestatic 161, 3) := by decide +kernel
theorem dX6_rules_4 : decode cX6_rules 4 = .ok (.ifCond .eq 12, 3) := by decide +kernel
theorem dX6_rules_7 : decode cX6_rules 7 = .ok (.iload_n 2, 1) := by decide +kernel
theorem dX6_rules_8 : decode cX6_rules 8 = .ok (.ifCond .lt 8, 3) := by decide +kernel
theorem dX6_rules_11 : decode cX6_rules 11 = .ok (.iload_n 2, 1) := by decide +kernel
theorem dX6_rules_12 : decode cX6_rules 12 = .ok (.iconst 1, 1) := by decide +kernel
theorem dX6_rules_13 : decode cX6_rules 13 = .ok (.if_icmp .le 6, 3) := by decide +kernel
theorem dX6_rules_16 : decode cX6_rules 16 = .ok (.bipush (-2), 2) := by decide +kernel
theorem dX6_rules_18 : decode cX6_rules 18 = .ok (.ireturn, 1) := by decide +kernel
theorem dX6_rules_19 : decode cX6_rules 19 = .ok (.iconst (-1), 1) := by decide +kernel
theorem dX6_rules_20 : decode cX6_rules 20 = .ok (.istore_n 3, 1) := by decide +kernel
theorem dX6_rules_21 : decode cX6_rules 21 = .ok (.iconst 0, 1) := by decide +kernel
theorem dX6_rules_22 : decode cX6_rules 22 = .ok (.istore 4, 2) := by decide +kernel
theorem dX6_rules_24 : decode cX6_rules 24 = .ok (.iconst 0, 1) := by decide +kernel
theorem dX6_rules_25 : decode cX6_rules 25 = .ok (.istore 5, 2) := by decide +kernel
theorem dX6_rules_27 : decode cX6_rules 27 = .ok (.iload 5, 2) := by decide +kernel
theorem dX6_rules_29 : decode cX6_rules 29 = .ok (.bipush 12, 2) := by decide +kernel
theorem dX6_rules_31 : decode cX6_rules 31 = .ok (.if_icmp .ge 57, 3) := by decide +kernel
theorem dX6_rules_34 : decode cX6_rules 34 = .ok (.aload_n 0, 1) := by decide +kernel
theorem dX6_rules_35 : decode cX6_rules 35 = .ok (.iload 5, 2) := by decide +kernel
theorem dX6_rules_37 : decode cX6_rules 37 = .ok (.iload_n 1, 1) := by decide +kernel
theorem dX6_rules_38 : decode cX6_rules 38 = .ok (.invokevirtual 182, 3) := by decide +kernel
theorem dX6_rules_41 : decode cX6_rules 41 = .ok (.iload_n 2, 1) := by decide +kernel
theorem dX6_rules_42 : decode cX6_rules 42 = .ok (.ifCond .ne 11, 3) := by decide +kernel
theorem dX6_rules_45 : decode cX6_rules 45 = .ok (.aload_n 0, 1) := by decide +kernel
theorem dX6_rules_46 : decode cX6_rules 46 = .ok (.iload_n 1, 1) := by decide +kernel
theorem dX6_rules_47 : decode cX6_rules 47 = .ok (.invokevirtual 185, 3) := by decide +kernel
theorem dX6_rules_50 : decode cX6_rules 50 = .ok (.goto 11, 3) := by decide +kernel
theorem dX6_rules_53 : decode cX6_rules 53 = .ok (.aload_n 0, 1) := by decide +kernel
theorem dX6_rules_54 : decode cX6_rules 54 = .ok (.getfield 35, 3) := by decide +kernel
theorem dX6_rules_57 : decode cX6_rules 57 = .ok (.getfield 173, 3) := by decide +kernel
theorem dX6_rules_60 : decode cX6_rules 60 = .ok (.ineg, 1) := by decide +kernel
theorem dX6_rules_61 : decode cX6_rules 61 = .ok (.istore 6, 2) := by decide +kernel
theorem dX6_rules_63 : decode cX6_rules 63 = .ok (.iload_n 3, 1) := by decide +kernel
theorem dX6_rules_64 : decode cX6_rules 64 = .ok (.iconst (-1), 1) := by decide +kernel
theorem dX6_rules_65 : decode cX6_rules 65 = .ok (.if_icmp .eq 10, 3) := by decide +kernel
theorem dX6_rules_68 : decode cX6_rules 68 = .ok (.iload 6, 2) := by decide +kernel
theorem dX6_rules_70 : decode cX6_rules 70 = .ok (.iload 4, 2) := by decide +kernel
theorem dX6_rules_72 : decode cX6_rules 72 = .ok (.if_icmp .le 10, 3) := by decide +kernel
theorem dX6_rules_75 : decode cX6_rules 75 = .ok (.iload 5, 2) := by decide +kernel
theorem dX6_rules_77 : decode cX6_rules 77 = .ok (.istore_n 3, 1) := by decide +kernel
theorem dX6_rules_78 : decode cX6_rules 78 = .ok (.iload 6, 2) := by decide +kernel
theorem dX6_rules_80 : decode cX6_rules 80 = .ok (.istore 4, 2) := by decide +kernel
theorem dX6_rules_82 : decode cX6_rules 82 = .ok (.iinc 5 1, 3) := by decide +kernel
theorem dX6_rules_85 : decode cX6_rules 85 = .ok (.goto (-58), 3) := by decide +kernel
theorem dX6_rules_88 : decode cX6_rules 88 = .ok (.iload_n 3, 1) := by decide +kernel
theorem dX6_rules_89 : decode cX6_rules 89 = .ok (.iconst 3, 1) := by decide +kernel
theorem dX6_rules_90 : decode cX6_rules 90 = .ok (.idiv, 1) := by decide +kernel
theorem dX6_rules_91 : decode cX6_rules 91 = .ok (.bipush 10, 2) := by decide +kernel
theorem dX6_rules_93 : decode cX6_rules 93 = .ok (.imul, 1) := by decide +kernel
theorem dX6_rules_94 : decode cX6_rules 94 = .ok (.iload_n 3, 1) := by decide +kernel
theorem dX6_rules_95 : decode cX6_rules 95 = .ok (.iconst 3, 1) := by decide +kernel
theorem dX6_rules_96 : decode cX6_rules 96 = .ok (.irem, 1) := by decide +kernel
theorem dX6_rules_97 : decode cX6_rules 97 = .ok (.iadd, 1) := by decide +kernel
theorem dX6_rules_98 : decode cX6_rules 98 = .ok (.ireturn, 1) := by decide +kernel
theorem dX6_which_0 : decode cX6_which 0 = .ok (.iload_n 1, 1) := by decide +kernel
theorem dX6_which_1 : decode cX6_which 1 = .ok (.invokestatic 161, 3) := by decide +kernel
theorem dX6_which_4 : decode cX6_which 4 = .ok (.ifCond .ne 6, 3) := by decide +kernel
theorem dX6_which_7 : decode cX6_which 7 = .ok (.bipush (-2), 2) := by decide +kernel
theorem dX6_which_9 : decode cX6_which 9 = .ok (.ireturn, 1) := by decide +kernel
theorem dX6_which_10 : decode cX6_which 10 = .ok (.aload_n 0, 1) := by decide +kernel
theorem dX6_which_11 : decode cX6_which 11 = .ok (.iload_n 1, 1) := by decide +kernel
theorem dX6_which_12 : decode cX6_which 12 = .ok (.invokevirtual 164, 3) := by decide +kernel
theorem dX6_which_15 : decode cX6_which 15 = .ok (.aload_n 0, 1) := by decide +kernel
theorem dX6_which_16 : decode cX6_which 16 = .ok (.getfield 35, 3) := by decide +kernel
theorem dX6_which_19 : decode cX6_which 19 = .ok (.getfield 52, 3) := by decide +kernel
theorem dX6_which_22 : decode cX6_which 22 = .ok (.invokevirtual 167, 3) := by decide +kernel
theorem dX6_which_25 : decode cX6_which 25 = .ok (.istore_n 2, 1) := by decide +kernel
theorem dX6_which_26 : decode cX6_which 26 = .ok (.iconst (-1), 1) := by decide +kernel
theorem dX6_which_27 : decode cX6_which 27 = .ok (.istore_n 3, 1) := by decide +kernel
theorem dX6_which_28 : decode cX6_which 28 = .ok (.iconst 0, 1) := by decide +kernel
theorem dX6_which_29 : decode cX6_which 29 = .ok (.istore 4, 2) := by decide +kernel
theorem dX6_which_31 : decode cX6_which 31 = .ok (.iload 4, 2) := by decide +kernel
theorem dX6_which_33 : decode cX6_which 33 = .ok (.aload_n 0, 1) := by decide +kernel
theorem dX6_which_34 : decode cX6_which 34 = .ok (.getfield 28, 3) := by decide +kernel
theorem dX6_which_37 : decode cX6_which 37 = .ok (.getfield 52, 3) := by decide +kernel
theorem dX6_which_40 : decode cX6_which 40 = .ok (.getfield 56, 3) := by decide +kernel
theorem dX6_which_43 : decode cX6_which 43 = .ok (.if_icmp .ge 77, 3) := by decide +kernel
theorem dX6_which_46 : decode cX6_which 46 = .ok (.aload_n 0, 1) := by decide +kernel
theorem dX6_which_47 : decode cX6_which 47 = .ok (.getfield 28, 3) := by decide +kernel
theorem dX6_which_50 : decode cX6_which 50 = .ok (.iload 4, 2) := by decide +kernel
theorem dX6_which_52 : decode cX6_which 52 = .ok (.invokevirtual 143, 3) := by decide +kernel
theorem dX6_which_55 : decode cX6_which 55 = .ok (.ifCond .eq 59, 3) := by decide +kernel
theorem dX6_which_58 : decode cX6_which 58 = .ok (.aload_n 0, 1) := by decide +kernel
theorem dX6_which_59 : decode cX6_which 59 = .ok (.getfield 35, 3) := by decide +kernel
theorem dX6_which_62 : decode cX6_which 62 = .ok (.aload_n 0, 1) := by decide +kernel
theorem dX6_which_63 : decode cX6_which 63 = .ok (.getfield 28, 3) := by decide +kernel
theorem dX6_which_66 : decode cX6_which 66 = .ok (.invokevirtual 188, 3) := by decide +kernel
theorem dX6_which_69 : decode cX6_which 69 = .ok (.aload_n 0, 1) := by decide +kernel
theorem dX6_which_70 : decode cX6_which 70 = .ok (.getfield 35, 3) := by decide +kernel
theorem dX6_which_73 : decode cX6_which 73 = .ok (.iload 4, 2) := by decide +kernel
theorem dX6_which_75 : decode cX6_which 75 = .ok (.invokevirtual 146, 3) := by decide +kernel
theorem dX6_which_78 : decode cX6_which 78 = .ok (.aload_n 0, 1) := by decide +kernel
theorem dX6_which_79 : decode cX6_which 79 = .ok (.getfield 35, 3) := by decide +kernel
theorem dX6_which_82 : decode cX6_which 82 = .ok (.iload_n 1, 1) := by decide +kernel
theorem dX6_which_83 : decode cX6_which 83 = .ok (.invokevirtual 192, 3) := by decide +kernel
theorem dX6_which_86 : decode cX6_which 86 = .ok (.aload_n 0, 1) := by decide +kernel
theorem dX6_which_87 : decode cX6_which 87 = .ok (.getfield 35, 3) := by decide +kernel
theorem dX6_which_90 : decode cX6_which 90 = .ok (.getfield 52, 3) := by decide +kernel
theorem dX6_which_93 : decode cX6_which 93 = .ok (.invokevirtual 167, 3) := by decide +kernel
theorem dX6_which_96 : decode cX6_which 96 = .ok (.iload_n 2, 1) := by decide +kernel
theorem dX6_which_97 : decode cX6_which 97 = .ok (.if_icmp .le 17, 3) := by decide +kernel
theorem dX6_which_100 : decode cX6_which 100 = .ok (.aload_n 0, 1) := by decide +kernel
theorem dX6_which_101 : decode cX6_which 101 = .ok (.getfield 35, 3) := by decide +kernel
theorem dX6_which_104 : decode cX6_which 104 = .ok (.getfield 52, 3) := by decide +kernel
theorem dX6_which_107 : decode cX6_which 107 = .ok (.invokevirtual 167, 3) := by decide +kernel
theorem dX6_which_110 : decode cX6_which 110 = .ok (.istore_n 2, 1) := by decide +kernel
theorem dX6_which_111 : decode cX6_which 111 = .ok (.iload 4, 2) := by decide +kernel
theorem dX6_which_113 : decode cX6_which 113 = .ok (.istore_n 3, 1) := by decide +kernel
theorem dX6_which_114 : decode cX6_which 114 = .ok (.iinc 4 1, 3) := by decide +kernel
theorem dX6_which_117 : decode cX6_which 117 = .ok (.goto (-86), 3) := by decide +kernel
theorem dX6_which_120 : decode cX6_which 120 = .ok (.iload_n 3, 1) := by decide +kernel
theorem dX6_which_121 : decode cX6_which 121 = .ok (.ireturn, 1) := by decide +kernel
theorem dX6_when_0 : decode cX6_when 0 = .ok (.aload_n 0, 1) := by decide +kernel
theorem dX6_when_1 : decode cX6_when 1 = .ok (.iload_n 1, 1) := by decide +kernel
theorem dX6_when_2 : decode cX6_when 2 = .ok (.invokevirtual 123, 3) := by decide +kernel
theorem dX6_when_5 : decode cX6_when 5 = .ok (.ifCond .ne 6, 3) := by decide +kernel
theorem dX6_when_8 : decode cX6_when 8 = .ok (.bipush (-5), 2) := by decide +kernel
theorem dX6_when_10 : decode cX6_when 10 = .ok (.ireturn, 1) := by decide +kernel
theorem dX6_when_11 : decode cX6_when 11 = .ok (.iload_n 2, 1) := by decide +kernel
theorem dX6_when_12 : decode cX6_when 12 = .ok (.iconst 1, 1) := by decide +kernel
theorem dX6_when_13 : decode cX6_when 13 = .ok (.if_icmp .lt 18, 3) := by decide +kernel
theorem dX6_when_16 : decode cX6_when 16 = .ok (.iload_n 2, 1) := by decide +kernel
theorem dX6_when_17 : decode cX6_when 17 = .ok (.bipush 60, 2) := by decide +kernel
theorem dX6_when_19 : decode cX6_when 19 = .ok (.if_icmp .gt 12, 3) := by decide +kernel
theorem dX6_when_22 : decode cX6_when 22 = .ok (.iload_n 3, 1) := by decide +kernel
theorem dX6_when_23 : decode cX6_when 23 = .ok (.ifCond .lt 8, 3) := by decide +kernel
theorem dX6_when_26 : decode cX6_when 26 = .ok (.iload_n 3, 1) := by decide +kernel
theorem dX6_when_27 : decode cX6_when 27 = .ok (.iconst 1, 1) := by decide +kernel
theorem dX6_when_28 : decode cX6_when 28 = .ok (.if_icmp .le 6, 3) := by decide +kernel
theorem dX6_when_31 : decode cX6_when 31 = .ok (.bipush (-7), 2) := by decide +kernel
theorem dX6_when_33 : decode cX6_when 33 = .ok (.ireturn, 1) := by decide +kernel
theorem dX6_when_34 : decode cX6_when 34 = .ok (.iconst (-1), 1) := by decide +kernel
theorem dX6_when_35 : decode cX6_when 35 = .ok (.istore 4, 2) := by decide +kernel
theorem dX6_when_37 : decode cX6_when 37 = .ok (.iconst (-1), 1) := by decide +kernel
theorem dX6_when_38 : decode cX6_when 38 = .ok (.istore 5, 2) := by decide +kernel
theorem dX6_when_40 : decode cX6_when 40 = .ok (.aload_n 0, 1) := by decide +kernel
theorem dX6_when_41 : decode cX6_when 41 = .ok (.getfield 35, 3) := by decide +kernel
theorem dX6_when_44 : decode cX6_when 44 = .ok (.aload_n 0, 1) := by decide +kernel
theorem dX6_when_45 : decode cX6_when 45 = .ok (.getfield 28, 3) := by decide +kernel
theorem dX6_when_48 : decode cX6_when 48 = .ok (.invokevirtual 188, 3) := by decide +kernel
theorem dX6_when_51 : decode cX6_when 51 = .ok (.iconst 0, 1) := by decide +kernel
theorem dX6_when_52 : decode cX6_when 52 = .ok (.istore 6, 2) := by decide +kernel
theorem dX6_when_54 : decode cX6_when 54 = .ok (.iload 6, 2) := by decide +kernel
theorem dX6_when_56 : decode cX6_when 56 = .ok (.iload_n 2, 1) := by decide +kernel
theorem dX6_when_57 : decode cX6_when 57 = .ok (.if_icmp .ge 79, 3) := by decide +kernel
theorem dX6_when_60 : decode cX6_when 60 = .ok (.aload_n 0, 1) := by decide +kernel
theorem dX6_when_61 : decode cX6_when 61 = .ok (.getfield 35, 3) := by decide +kernel
theorem dX6_when_64 : decode cX6_when 64 = .ok (.iload_n 1, 1) := by decide +kernel
theorem dX6_when_65 : decode cX6_when 65 = .ok (.invokevirtual 143, 3) := by decide +kernel
theorem dX6_when_68 : decode cX6_when 68 = .ok (.ifCond .eq 54, 3) := by decide +kernel
theorem dX6_when_71 : decode cX6_when 71 = .ok (.aload_n 0, 1) := by decide +kernel
theorem dX6_when_72 : decode cX6_when 72 = .ok (.getfield 38, 3) := by decide +kernel
theorem dX6_when_75 : decode cX6_when 75 = .ok (.aload_n 0, 1) := by decide +kernel
theorem dX6_when_76 : decode cX6_when 76 = .ok (.getfield 35, 3) := by decide +kernel
theorem dX6_when_79 : decode cX6_when 79 = .ok (.invokevirtual 188, 3) := by decide +kernel
theorem dX6_when_82 : decode cX6_when 82 = .ok (.aload_n 0, 1) := by decide +kernel
theorem dX6_when_83 : decode cX6_when 83 = .ok (.getfield 38, 3) := by decide +kernel
theorem dX6_when_86 : decode cX6_when 86 = .ok (.iload_n 1, 1) := by decide +kernel
theorem dX6_when_87 : decode cX6_when 87 = .ok (.invokevirtual 146, 3) := by decide +kernel
theorem dX6_when_90 : decode cX6_when 90 = .ok (.iload 6, 2) := by decide +kernel
theorem dX6_when_92 : decode cX6_when 92 = .ok (.aload_n 0, 1) := by decide +kernel
theorem dX6_when_93 : decode cX6_when 93 = .ok (.getfield 38, 3) := by decide +kernel
theorem dX6_when_96 : decode cX6_when 96 = .ok (.iload_n 1, 1) := by decide +kernel
theorem dX6_when_97 : decode cX6_when 97 = .ok (.iload_n 2, 1) := by decide +kernel
theorem dX6_when_98 : decode cX6_when 98 = .ok (.iload 6, 2) := by decide +kernel
theorem dX6_when_100 : decode cX6_when 100 = .ok (.isub, 1) := by decide +kernel
theorem dX6_when_101 : decode cX6_when 101 = .ok (.invokevirtual 195, 3) := by decide +kernel
theorem dX6_when_104 : decode cX6_when 104 = .ok (.iadd, 1) := by decide +kernel
theorem dX6_when_105 : decode cX6_when 105 = .ok (.istore 7, 2) := by decide +kernel
theorem dX6_when_107 : decode cX6_when 107 = .ok (.iload 7, 2) := by decide +kernel
theorem dX6_when_109 : decode cX6_when 109 = .ok (.iload 5, 2) := by decide +kernel
theorem dX6_when_111 : decode cX6_when 111 = .ok (.if_icmp .le 11, 3) := by decide +kernel
theorem dX6_when_114 : decode cX6_when 114 = .ok (.iload 7, 2) := by decide +kernel
theorem dX6_when_116 : decode cX6_when 116 = .ok (.istore 5, 2) := by decide +kernel
theorem dX6_when_118 : decode cX6_when 118 = .ok (.iload 6, 2) := by decide +kernel
theorem dX6_when_120 : decode cX6_when 120 = .ok (.istore 4, 2) := by decide +kernel
theorem dX6_when_122 : decode cX6_when 122 = .ok (.aload_n 0, 1) := by decide +kernel
theorem dX6_when_123 : decode cX6_when 123 = .ok (.getfield 35, 3) := by decide +kernel
theorem dX6_when_126 : decode cX6_when 126 = .ok (.iconst 1, 1) := by decide +kernel
theorem dX6_when_127 : decode cX6_when 127 = .ok (.invokevirtual 192, 3) := by decide +kernel
theorem dX6_when_130 : decode cX6_when 130 = .ok (.iinc 6 1, 3) := by decide +kernel
theorem dX6_when_133 : decode cX6_when 133 = .ok (.goto (-79), 3) := by decide +kernel
theorem dX6_when_136 : decode cX6_when 136 = .ok (.iload_n 3, 1) := by decide +kernel
theorem dX6_when_137 : decode cX6_when 137 = .ok (.ifCond .ne 6, 3) := by decide +kernel
theorem dX6_when_140 : decode cX6_when 140 = .ok (.iload 4, 2) := by decide +kernel
theorem dX6_when_142 : decode cX6_when 142 = .ok (.ireturn, 1) := by decide +kernel
theorem dX6_when_143 : decode cX6_when 143 = .ok (.iload 4, 2) := by decide +kernel
theorem dX6_when_145 : decode cX6_when 145 = .ok (.iconst (-1), 1) := by decide +kernel
theorem dX6_when_146 : decode cX6_when 146 = .ok (.if_icmp .eq 6, 3) := by decide +kernel
theorem dX6_when_149 : decode cX6_when 149 = .ok (.iload 5, 2) := by decide +kernel
theorem dX6_when_151 : decode cX6_when 151 = .ok (.ireturn, 1) := by decide +kernel
theorem dX6_when_152 : decode cX6_when 152 = .ok (.aload_n 0, 1) := by decide +kernel
theorem dX6_when_153 : decode cX6_when 153 = .ok (.getfield 35, 3) := by decide +kernel
theorem dX6_when_156 : decode cX6_when 156 = .ok (.aload_n 0, 1) := by decide +kernel
theorem dX6_when_157 : decode cX6_when 157 = .ok (.getfield 28, 3) := by decide +kernel
theorem dX6_when_160 : decode cX6_when 160 = .ok (.invokevirtual 188, 3) := by decide +kernel
theorem dX6_when_163 : decode cX6_when 163 = .ok (.aload_n 0, 1) := by decide +kernel
theorem dX6_when_164 : decode cX6_when 164 = .ok (.getfield 35, 3) := by decide +kernel
theorem dX6_when_167 : decode cX6_when 167 = .ok (.iload_n 1, 1) := by decide +kernel
theorem dX6_when_168 : decode cX6_when 168 = .ok (.iload_n 2, 1) := by decide +kernel
theorem dX6_when_169 : decode cX6_when 169 = .ok (.invokevirtual 195, 3) := by decide +kernel
theorem dX6_when_172 : decode cX6_when 172 = .ok (.ireturn, 1) := by decide +kernel
theorem dX6_enough_0 : decode cX6_enough 0 = .ok (.iload_n 1, 1) := by decide +kernel
theorem dX6_enough_1 : decode cX6_enough 1 = .ok (.invokestatic 161, 3) := by decide +kernel
theorem dX6_enough_4 : decode cX6_enough 4 = .ok (.ifCond .ne 6, 3) := by decide +kernel
theorem dX6_enough_7 : decode cX6_enough 7 = .ok (.bipush (-2), 2) := by decide +kernel
theorem dX6_enough_9 : decode cX6_enough 9 = .ok (.ireturn, 1) := by decide +kernel
theorem dX6_enough_10 : decode cX6_enough 10 = .ok (.iconst 0, 1) := by decide +kernel
theorem dX6_enough_11 : decode cX6_enough 11 = .ok (.istore_n 2, 1) := by decide +kernel
theorem dX6_enough_12 : decode cX6_enough 12 = .ok (.iconst 1, 1) := by decide +kernel
theorem dX6_enough_13 : decode cX6_enough 13 = .ok (.istore_n 3, 1) := by decide +kernel
theorem dX6_enough_14 : decode cX6_enough 14 = .ok (.iload_n 3, 1) := by decide +kernel
theorem dX6_enough_15 : decode cX6_enough 15 = .ok (.getstatic 83, 3) := by decide +kernel
theorem dX6_enough_18 : decode cX6_enough 18 = .ok (.iconst 0, 1) := by decide +kernel
theorem dX6_enough_19 : decode cX6_enough 19 = .ok (.iaload, 1) := by decide +kernel
theorem dX6_enough_20 : decode cX6_enough 20 = .ok (.if_icmp .gt 35, 3) := by decide +kernel
theorem dX6_enough_23 : decode cX6_enough 23 = .ok (.iload_n 2, 1) := by decide +kernel
theorem dX6_enough_24 : decode cX6_enough 24 = .ok (.iload_n 3, 1) := by decide +kernel
theorem dX6_enough_25 : decode cX6_enough 25 = .ok (.iconst 1, 1) := by decide +kernel
theorem dX6_enough_26 : decode cX6_enough 26 = .ok (.isub, 1) := by decide +kernel
theorem dX6_enough_27 : decode cX6_enough 27 = .ok (.if_icmp .ne 28, 3) := by decide +kernel
theorem dX6_enough_30 : decode cX6_enough 30 = .ok (.aload_n 0, 1) := by decide +kernel
theorem dX6_enough_31 : decode cX6_enough 31 = .ok (.iconst 0, 1) := by decide +kernel
theorem dX6_enough_32 : decode cX6_enough 32 = .ok (.iload_n 3, 1) := by decide +kernel
theorem dX6_enough_33 : decode cX6_enough 33 = .ok (.iload_n 1, 1) := by decide +kernel
theorem dX6_enough_34 : decode cX6_enough 34 = .ok (.invokevirtual 198, 3) := by decide +kernel
theorem dX6_enough_37 : decode cX6_enough 37 = .ok (.aload_n 0, 1) := by decide +kernel
theorem dX6_enough_38 : decode cX6_enough 38 = .ok (.getfield 35, 3) := by decide +kernel
theorem dX6_enough_41 : decode cX6_enough 41 = .ok (.getfield 173, 3) := by decide +kernel
theorem dX6_enough_44 : decode cX6_enough 44 = .ok (.ifCond .ne 5, 3) := by decide +kernel
theorem dX6_enough_47 : decode cX6_enough 47 = .ok (.iload_n 3, 1) := by decide +kernel
theorem dX6_enough_48 : decode cX6_enough 48 = .ok (.istore_n 2, 1) := by decide +kernel
theorem dX6_enough_49 : decode cX6_enough 49 = .ok (.iinc 3 1, 3) := by decide +kernel
theorem dX6_enough_52 : decode cX6_enough 52 = .ok (.goto (-38), 3) := by decide +kernel
theorem dX6_enough_55 : decode cX6_enough 55 = .ok (.iload_n 2, 1) := by decide +kernel
theorem dX6_enough_56 : decode cX6_enough 56 = .ok (.ireturn, 1) := by decide +kernel
theorem dX6_feast_0 : decode cX6_feast 0 = .ok (.iload_n 1, 1) := by decide +kernel
theorem dX6_feast_1 : decode cX6_feast 1 = .ok (.iconst 1, 1) := by decide +kernel
theorem dX6_feast_2 : decode cX6_feast 2 = .ok (.if_icmp .lt 32, 3) := by decide +kernel
theorem dX6_feast_5 : decode cX6_feast 5 = .ok (.iload_n 1, 1) := by decide +kernel
theorem dX6_feast_6 : decode cX6_feast 6 = .ok (.sipush 200, 3) := by decide +kernel
theorem dX6_feast_9 : decode cX6_feast 9 = .ok (.if_icmp .gt 25, 3) := by decide +kernel
theorem dX6_feast_12 : decode cX6_feast 12 = .ok (.iload_n 2, 1) := by decide +kernel
theorem dX6_feast_13 : decode cX6_feast 13 = .ok (.ifCond .lt 21, 3) := by decide +kernel
theorem dX6_feast_16 : decode cX6_feast 16 = .ok (.iload_n 2, 1) := by decide +kernel
theorem dX6_feast_17 : decode cX6_feast 17 = .ok (.iload_n 1, 1) := by decide +kernel
theorem dX6_feast_18 : decode cX6_feast 18 = .ok (.if_icmp .ge 16, 3) := by decide +kernel
theorem dX6_feast_21 : decode cX6_feast 21 = .ok (.iload_n 3, 1) := by decide +kernel
theorem dX6_feast_22 : decode cX6_feast 22 = .ok (.ifCond .lt 12, 3) := by decide +kernel
theorem dX6_feast_25 : decode cX6_feast 25 = .ok (.iload_n 3, 1) := by decide +kernel
theorem dX6_feast_26 : decode cX6_feast 26 = .ok (.getstatic 83, 3) := by decide +kernel
theorem dX6_feast_29 : decode cX6_feast 29 = .ok (.iconst 0, 1) := by decide +kernel
theorem dX6_feast_30 : decode cX6_feast 30 = .ok (.iaload, 1) := by decide +kernel
theorem dX6_feast_31 : decode cX6_feast 31 = .ok (.if_icmp .le 6, 3) := by decide +kernel
theorem dX6_feast_34 : decode cX6_feast 34 = .ok (.ldc 201, 2) := by decide +kernel
theorem dX6_feast_36 : decode cX6_feast 36 = .ok (.ireturn, 1) := by decide +kernel
theorem dX6_feast_37 : decode cX6_feast 37 = .ok (.aload_n 0, 1) := by decide +kernel
theorem dX6_feast_38 : decode cX6_feast 38 = .ok (.iload_n 1, 1) := by decide +kernel
theorem dX6_feast_39 : decode cX6_feast 39 = .ok (.invokevirtual 164, 3) := by decide +kernel
theorem dX6_feast_42 : decode cX6_feast 42 = .ok (.aload_n 0, 1) := by decide +kernel
theorem dX6_feast_43 : decode cX6_feast 43 = .ok (.getfield 35, 3) := by decide +kernel
theorem dX6_feast_46 : decode cX6_feast 46 = .ok (.getfield 173, 3) := by decide +kernel
theorem dX6_feast_49 : decode cX6_feast 49 = .ok (.istore 4, 2) := by decide +kernel
theorem dX6_feast_51 : decode cX6_feast 51 = .ok (.aload_n 0, 1) := by decide +kernel
theorem dX6_feast_52 : decode cX6_feast 52 = .ok (.getfield 35, 3) := by decide +kernel
theorem dX6_feast_55 : decode cX6_feast 55 = .ok (.aload_n 0, 1) := by decide +kernel
theorem dX6_feast_56 : decode cX6_feast 56 = .ok (.getfield 28, 3) := by decide +kernel
theorem dX6_feast_59 : decode cX6_feast 59 = .ok (.invokevirtual 188, 3) := by decide +kernel
theorem dX6_feast_62 : decode cX6_feast 62 = .ok (.aload_n 0, 1) := by decide +kernel
theorem dX6_feast_63 : decode cX6_feast 63 = .ok (.getfield 35, 3) := by decide +kernel
theorem dX6_feast_66 : decode cX6_feast 66 = .ok (.iload_n 2, 1) := by decide +kernel
theorem dX6_feast_67 : decode cX6_feast 67 = .ok (.invokevirtual 192, 3) := by decide +kernel
theorem dX6_feast_70 : decode cX6_feast 70 = .ok (.aload_n 0, 1) := by decide +kernel
theorem dX6_feast_71 : decode cX6_feast 71 = .ok (.getfield 35, 3) := by decide +kernel
theorem dX6_feast_74 : decode cX6_feast 74 = .ok (.iload_n 3, 1) := by decide +kernel
theorem dX6_feast_75 : decode cX6_feast 75 = .ok (.aload_n 0, 1) := by decide +kernel
theorem dX6_feast_76 : decode cX6_feast 76 = .ok (.getfield 35, 3) := by decide +kernel
theorem dX6_feast_79 : decode cX6_feast 79 = .ok (.getfield 71, 3) := by decide +kernel
theorem dX6_feast_82 : decode cX6_feast 82 = .ok (.iconst 2, 1) := by decide +kernel
theorem dX6_feast_83 : decode cX6_feast 83 = .ok (.iaload, 1) := by decide +kernel
theorem dX6_feast_84 : decode cX6_feast 84 = .ok (.invokevirtual 158, 3) := by decide +kernel
theorem dX6_feast_87 : decode cX6_feast 87 = .ok (.pop, 1) := by decide +kernel
theorem dX6_feast_88 : decode cX6_feast 88 = .ok (.aload_n 0, 1) := by decide +kernel
theorem dX6_feast_89 : decode cX6_feast 89 = .ok (.getfield 35, 3) := by decide +kernel
theorem dX6_feast_92 : decode cX6_feast 92 = .ok (.iload_n 1, 1) := by decide +kernel
theorem dX6_feast_93 : decode cX6_feast 93 = .ok (.iload_n 2, 1) := by decide +kernel
theorem dX6_feast_94 : decode cX6_feast 94 = .ok (.isub, 1) := by decide +kernel
theorem dX6_feast_95 : decode cX6_feast 95 = .ok (.iconst 1, 1) := by decide +kernel
theorem dX6_feast_96 : decode cX6_feast 96 = .ok (.isub, 1) := by decide +kernel
theorem dX6_feast_97 : decode cX6_feast 97 = .ok (.invokevirtual 192, 3) := by decide +kernel
theorem dX6_feast_100 : decode cX6_feast 100 = .ok (.aload_n 0, 1) := by decide +kernel
theorem dX6_feast_101 : decode cX6_feast 101 = .ok (.getfield 35, 3) := by decide +kernel
theorem dX6_feast_104 : decode cX6_feast 104 = .ok (.getfield 173, 3) := by decide +kernel
theorem dX6_feast_107 : decode cX6_feast 107 = .ok (.iload 4, 2) := by decide +kernel
theorem dX6_feast_109 : decode cX6_feast 109 = .ok (.isub, 1) := by decide +kernel
theorem dX6_feast_110 : decode cX6_feast 110 = .ok (.ireturn, 1) := by decide +kernel
theorem dX6_laundry_0 : decode cX6_laundry 0 = .ok (.iload_n 1, 1) := by decide +kernel
theorem dX6_laundry_1 : decode cX6_laundry 1 = .ok (.invokestatic 161, 3) := by decide +kernel
theorem dX6_laundry_4 : decode cX6_laundry 4 = .ok (.ifCond .ne 6, 3) := by decide +kernel
theorem dX6_laundry_7 : decode cX6_laundry 7 = .ok (.bipush (-2), 2) := by decide +kernel
theorem dX6_laundry_9 : decode cX6_laundry 9 = .ok (.ireturn, 1) := by decide +kernel
theorem dX6_laundry_10 : decode cX6_laundry 10 = .ok (.iconst (-1), 1) := by decide +kernel
theorem dX6_laundry_11 : decode cX6_laundry 11 = .ok (.istore_n 2, 1) := by decide +kernel
theorem dX6_laundry_12 : decode cX6_laundry 12 = .ok (.iconst 0, 1) := by decide +kernel
theorem dX6_laundry_13 : decode cX6_laundry 13 = .ok (.istore_n 3, 1) := by decide +kernel
theorem dX6_laundry_14 : decode cX6_laundry 14 = .ok (.iload_n 3, 1) := by decide +kernel
theorem dX6_laundry_15 : decode cX6_laundry 15 = .ok (.getstatic 83, 3) := by decide +kernel
theorem dX6_laundry_18 : decode cX6_laundry 18 = .ok (.iconst 1, 1) := by decide +kernel
theorem dX6_laundry_19 : decode cX6_laundry 19 = .ok (.iaload, 1) := by decide +kernel
theorem dX6_laundry_20 : decode cX6_laundry 20 = .ok (.if_icmp .gt 28, 3) := by decide +kernel
theorem dX6_laundry_23 : decode cX6_laundry 23 = .ok (.aload_n 0, 1) := by decide +kernel
theorem dX6_laundry_24 : decode cX6_laundry 24 = .ok (.iconst 1, 1) := by decide +kernel
theorem dX6_laundry_25 : decode cX6_laundry 25 = .ok (.iload_n 3, 1) := by decide +kernel
theorem dX6_laundry_26 : decode cX6_laundry 26 = .ok (.iload_n 1, 1) := by decide +kernel
theorem dX6_laundry_27 : decode cX6_laundry 27 = .ok (.invokevirtual 198, 3) := by decide +kernel
theorem dX6_laundry_30 : decode cX6_laundry 30 = .ok (.aload_n 0, 1) := by decide +kernel
theorem dX6_laundry_31 : decode cX6_laundry 31 = .ok (.getfield 35, 3) := by decide +kernel
theorem dX6_laundry_34 : decode cX6_laundry 34 = .ok (.getfield 173, 3) := by decide +kernel
theorem dX6_laundry_37 : decode cX6_laundry 37 = .ok (.ifCond .ne 5, 3) := by decide +kernel
theorem dX6_laundry_40 : decode cX6_laundry 40 = .ok (.iload_n 3, 1) := by decide +kernel
theorem dX6_laundry_41 : decode cX6_laundry 41 = .ok (.istore_n 2, 1) := by decide +kernel
theorem dX6_laundry_42 : decode cX6_laundry 42 = .ok (.iinc 3 1, 3) := by decide +kernel
theorem dX6_laundry_45 : decode cX6_laundry 45 = .ok (.goto (-31), 3) := by decide +kernel
theorem dX6_laundry_48 : decode cX6_laundry 48 = .ok (.iload_n 2, 1) := by decide +kernel
theorem dX6_laundry_49 : decode cX6_laundry 49 = .ok (.ireturn, 1) := by decide +kernel
theorem dX6_judge_0 : decode cX6_judge 0 = .ok (.aload_n 0, 1) := by decide +kernel
theorem dX6_judge_1 : decode cX6_judge 1 = .ok (.iload_n 1, 1) := by decide +kernel
theorem dX6_judge_2 : decode cX6_judge 2 = .ok (.iload_n 2, 1) := by decide +kernel
theorem dX6_judge_3 : decode cX6_judge 3 = .ok (.invokevirtual 202, 3) := by decide +kernel
theorem dX6_judge_6 : decode cX6_judge 6 = .ok (.istore_n 3, 1) := by decide +kernel
theorem dX6_judge_7 : decode cX6_judge 7 = .ok (.iload_n 3, 1) := by decide +kernel
theorem dX6_judge_8 : decode cX6_judge 8 = .ok (.ifCond .eq 5, 3) := by decide +kernel
theorem dX6_judge_11 : decode cX6_judge 11 = .ok (.iload_n 3, 1) := by decide +kernel
theorem dX6_judge_12 : decode cX6_judge 12 = .ok (.ireturn, 1) := by decide +kernel
theorem dX6_judge_13 : decode cX6_judge 13 = .ok (.aload_n 0, 1) := by decide +kernel
theorem dX6_judge_14 : decode cX6_judge 14 = .ok (.iload_n 2, 1) := by decide +kernel
theorem dX6_judge_15 : decode cX6_judge 15 = .ok (.invokevirtual 164, 3) := by decide +kernel
theorem dX6_judge_18 : decode cX6_judge 18 = .ok (.aload_n 0, 1) := by decide +kernel
theorem dX6_judge_19 : decode cX6_judge 19 = .ok (.iload_n 1, 1) := by decide +kernel
theorem dX6_judge_20 : decode cX6_judge 20 = .ok (.invokevirtual 205, 3) := by decide +kernel
theorem dX6_judge_23 : decode cX6_judge 23 = .ok (.ireturn, 1) := by decide +kernel
theorem dX6_rulesOf_0 : decode cX6_rulesOf 0 = .ok (.aload_n 0, 1) := by decide +kernel
theorem dX6_rulesOf_1 : decode cX6_rulesOf 1 = .ok (.iload_n 1, 1) := by decide +kernel
theorem dX6_rulesOf_2 : decode cX6_rulesOf 2 = .ok (.iload_n 2, 1) := by decide +kernel
theorem dX6_rulesOf_3 : decode cX6_rulesOf 3 = .ok (.invokevirtual 202, 3) := by decide +kernel
theorem dX6_rulesOf_6 : decode cX6_rulesOf 6 = .ok (.istore_n 3, 1) := by decide +kernel
theorem dX6_rulesOf_7 : decode cX6_rulesOf 7 = .ok (.iload_n 3, 1) := by decide +kernel
theorem dX6_rulesOf_8 : decode cX6_rulesOf 8 = .ok (.ifCond .eq 5, 3) := by decide +kernel
theorem dX6_rulesOf_11 : decode cX6_rulesOf 11 = .ok (.iload_n 3, 1) := by decide +kernel
theorem dX6_rulesOf_12 : decode cX6_rulesOf 12 = .ok (.ireturn, 1) := by decide +kernel
theorem dX6_rulesOf_13 : decode cX6_rulesOf 13 = .ok (.iconst 0, 1) := by decide +kernel
theorem dX6_rulesOf_14 : decode cX6_rulesOf 14 = .ok (.istore 4, 2) := by decide +kernel
theorem dX6_rulesOf_16 : decode cX6_rulesOf 16 = .ok (.iconst 0, 1) := by decide +kernel
theorem dX6_rulesOf_17 : decode cX6_rulesOf 17 = .ok (.istore 5, 2) := by decide +kernel
theorem dX6_rulesOf_19 : decode cX6_rulesOf 19 = .ok (.iload 5, 2) := by decide +kernel
theorem dX6_rulesOf_21 : decode cX6_rulesOf 21 = .ok (.bipush 12, 2) := by decide +kernel
theorem dX6_rulesOf_23 : decode cX6_rulesOf 23 = .ok (.if_icmp .ge 28, 3) := by decide +kernel
theorem dX6_rulesOf_26 : decode cX6_rulesOf 26 = .ok (.aload_n 0, 1) := by decide +kernel
theorem dX6_rulesOf_27 : decode cX6_rulesOf 27 = .ok (.iload 5, 2) := by decide +kernel
theorem dX6_rulesOf_29 : decode cX6_rulesOf 29 = .ok (.iload_n 2, 1) := by decide +kernel
theorem dX6_rulesOf_30 : decode cX6_rulesOf 30 = .ok (.invokevirtual 182, 3) := by decide +kernel
theorem dX6_rulesOf_33 : decode cX6_rulesOf 33 = .ok (.iload 4, 2) := by decide +kernel
theorem dX6_rulesOf_35 : decode cX6_rulesOf 35 = .ok (.aload_n 0, 1) := by decide +kernel
theorem dX6_rulesOf_36 : decode cX6_rulesOf 36 = .ok (.iload_n 1, 1) := by decide +kernel
theorem dX6_rulesOf_37 : decode cX6_rulesOf 37 = .ok (.iload 5, 2) := by decide +kernel
theorem dX6_rulesOf_39 : decode cX6_rulesOf 39 = .ok (.invokevirtual 208, 3) := by decide +kernel
theorem dX6_rulesOf_42 : decode cX6_rulesOf 42 = .ok (.ior, 1) := by decide +kernel
theorem dX6_rulesOf_43 : decode cX6_rulesOf 43 = .ok (.istore 4, 2) := by decide +kernel
theorem dX6_rulesOf_45 : decode cX6_rulesOf 45 = .ok (.iinc 5 1, 3) := by decide +kernel
theorem dX6_rulesOf_48 : decode cX6_rulesOf 48 = .ok (.goto (-29), 3) := by decide +kernel
theorem dX6_rulesOf_51 : decode cX6_rulesOf 51 = .ok (.iload 4, 2) := by decide +kernel
theorem dX6_rulesOf_53 : decode cX6_rulesOf 53 = .ok (.ireturn, 1) := by decide +kernel
theorem dX6_kinds_0 : decode cX6_kinds 0 = .ok (.aload_n 0, 1) := by decide +kernel
theorem dX6_kinds_1 : decode cX6_kinds 1 = .ok (.iload_n 1, 1) := by decide +kernel
theorem dX6_kinds_2 : decode cX6_kinds 2 = .ok (.iload_n 2, 1) := by decide +kernel
theorem dX6_kinds_3 : decode cX6_kinds 3 = .ok (.invokevirtual 202, 3) := by decide +kernel
theorem dX6_kinds_6 : decode cX6_kinds 6 = .ok (.istore 4, 2) := by decide +kernel
theorem dX6_kinds_8 : decode cX6_kinds 8 = .ok (.iload 4, 2) := by decide +kernel
theorem dX6_kinds_10 : decode cX6_kinds 10 = .ok (.ifCond .eq 6, 3) := by decide +kernel
theorem dX6_kinds_13 : decode cX6_kinds 13 = .ok (.iload 4, 2) := by decide +kernel
theorem dX6_kinds_15 : decode cX6_kinds 15 = .ok (.ireturn, 1) := by decide +kernel
theorem dX6_kinds_16 : decode cX6_kinds 16 = .ok (.iload_n 3, 1) := by decide +kernel
theorem dX6_kinds_17 : decode cX6_kinds 17 = .ok (.ifCond .lt 14, 3) := by decide +kernel
theorem dX6_kinds_20 : decode cX6_kinds 20 = .ok (.aload_n 0, 1) := by decide +kernel
theorem dX6_kinds_21 : decode cX6_kinds 21 = .ok (.iload_n 3, 1) := by decide +kernel
theorem dX6_kinds_22 : decode cX6_kinds 22 = .ok (.bipush 10, 2) := by decide +kernel
theorem dX6_kinds_24 : decode cX6_kinds 24 = .ok (.idiv, 1) := by decide +kernel
theorem dX6_kinds_25 : decode cX6_kinds 25 = .ok (.invokevirtual 123, 3) := by decide +kernel
theorem dX6_kinds_28 : decode cX6_kinds 28 = .ok (.ifCond .ne 6, 3) := by decide +kernel
theorem dX6_kinds_31 : decode cX6_kinds 31 = .ok (.bipush (-5), 2) := by decide +kernel
theorem dX6_kinds_33 : decode cX6_kinds 33 = .ok (.ireturn, 1) := by decide +kernel
theorem dX6_kinds_34 : decode cX6_kinds 34 = .ok (.iload_n 3, 1) := by decide +kernel
theorem dX6_kinds_35 : decode cX6_kinds 35 = .ok (.bipush 10, 2) := by decide +kernel
theorem dX6_kinds_37 : decode cX6_kinds 37 = .ok (.irem, 1) := by decide +kernel
theorem dX6_kinds_38 : decode cX6_kinds 38 = .ok (.istore 5, 2) := by decide +kernel
theorem dX6_kinds_40 : decode cX6_kinds 40 = .ok (.iload 5, 2) := by decide +kernel
theorem dX6_kinds_42 : decode cX6_kinds 42 = .ok (.iconst 1, 1) := by decide +kernel
theorem dX6_kinds_43 : decode cX6_kinds 43 = .ok (.if_icmp .le 6, 3) := by decide +kernel
theorem dX6_kinds_46 : decode cX6_kinds 46 = .ok (.bipush (-7), 2) := by decide +kernel
theorem dX6_kinds_48 : decode cX6_kinds 48 = .ok (.ireturn, 1) := by decide +kernel
theorem dX6_kinds_49 : decode cX6_kinds 49 = .ok (.iconst 0, 1) := by decide +kernel
theorem dX6_kinds_50 : decode cX6_kinds 50 = .ok (.istore 6, 2) := by decide +kernel
theorem dX6_kinds_52 : decode cX6_kinds 52 = .ok (.iload 5, 2) := by decide +kernel
theorem dX6_kinds_54 : decode cX6_kinds 54 = .ok (.ifCond .ne 8, 3) := by decide +kernel
theorem dX6_kinds_57 : decode cX6_kinds 57 = .ok (.bipush 6, 2) := by decide +kernel
theorem dX6_kinds_59 : decode cX6_kinds 59 = .ok (.goto 5, 3) := by decide +kernel
theorem dX6_kinds_62 : decode cX6_kinds 62 = .ok (.bipush 10, 2) := by decide +kernel
theorem dX6_kinds_64 : decode cX6_kinds 64 = .ok (.istore 7, 2) := by decide +kernel
theorem dX6_kinds_66 : decode cX6_kinds 66 = .ok (.iconst 0, 1) := by decide +kernel
theorem dX6_kinds_67 : decode cX6_kinds 67 = .ok (.istore 8, 2) := by decide +kernel
theorem dX6_kinds_69 : decode cX6_kinds 69 = .ok (.iload 8, 2) := by decide +kernel
theorem dX6_kinds_71 : decode cX6_kinds 71 = .ok (.iload 7, 2) := by decide +kernel
theorem dX6_kinds_73 : decode cX6_kinds 73 = .ok (.if_icmp .ge 60, 3) := by decide +kernel
theorem dX6_kinds_76 : decode cX6_kinds 76 = .ok (.aload_n 0, 1) := by decide +kernel
theorem dX6_kinds_77 : decode cX6_kinds 77 = .ok (.getfield 35, 3) := by decide +kernel
theorem dX6_kinds_80 : decode cX6_kinds 80 = .ok (.aload_n 0, 1) := by decide +kernel
theorem dX6_kinds_81 : decode cX6_kinds 81 = .ok (.getfield 28, 3) := by decide +kernel
theorem dX6_kinds_84 : decode cX6_kinds 84 = .ok (.invokevirtual 188, 3) := by decide +kernel
theorem dX6_kinds_87 : decode cX6_kinds 87 = .ok (.aload_n 0, 1) := by decide +kernel
theorem dX6_kinds_88 : decode cX6_kinds 88 = .ok (.getfield 35, 3) := by decide +kernel
theorem dX6_kinds_91 : decode cX6_kinds 91 = .ok (.getfield 52, 3) := by decide +kernel
theorem dX6_kinds_94 : decode cX6_kinds 94 = .ok (.iload_n 3, 1) := by decide +kernel
theorem dX6_kinds_95 : decode cX6_kinds 95 = .ok (.bipush 10, 2) := by decide +kernel
theorem dX6_kinds_97 : decode cX6_kinds 97 = .ok (.idiv, 1) := by decide +kernel
theorem dX6_kinds_98 : decode cX6_kinds 98 = .ok (.iconst 0, 1) := by decide +kernel
theorem dX6_kinds_99 : decode cX6_kinds 99 = .ok (.iload 5, 2) := by decide +kernel
theorem dX6_kinds_101 : decode cX6_kinds 101 = .ok (.iadd, 1) := by decide +kernel
theorem dX6_kinds_102 : decode cX6_kinds 102 = .ok (.iload 8, 2) := by decide +kernel
theorem dX6_kinds_104 : decode cX6_kinds 104 = .ok (.invokevirtual 133, 3) := by decide +kernel
theorem dX6_kinds_107 : decode cX6_kinds 107 = .ok (.aload_n 0, 1) := by decide +kernel
theorem dX6_kinds_108 : decode cX6_kinds 108 = .ok (.getfield 35, 3) := by decide +kernel
theorem dX6_kinds_111 : decode cX6_kinds 111 = .ok (.iload_n 2, 1) := by decide +kernel
theorem dX6_kinds_112 : decode cX6_kinds 112 = .ok (.invokevirtual 192, 3) := by decide +kernel
theorem dX6_kinds_115 : decode cX6_kinds 115 = .ok (.iload 6, 2) := by decide +kernel
theorem dX6_kinds_117 : decode cX6_kinds 117 = .ok (.aload_n 0, 1) := by decide +kernel
theorem dX6_kinds_118 : decode cX6_kinds 118 = .ok (.iload_n 1, 1) := by decide +kernel
theorem dX6_kinds_119 : decode cX6_kinds 119 = .ok (.iload 8, 2) := by decide +kernel
theorem dX6_kinds_121 : decode cX6_kinds 121 = .ok (.invokevirtual 208, 3) := by decide +kernel
theorem dX6_kinds_124 : decode cX6_kinds 124 = .ok (.ior, 1) := by decide +kernel
theorem dX6_kinds_125 : decode cX6_kinds 125 = .ok (.istore 6, 2) := by decide +kernel
theorem dX6_kinds_127 : decode cX6_kinds 127 = .ok (.iinc 8 1, 3) := by decide +kernel
theorem dX6_kinds_130 : decode cX6_kinds 130 = .ok (.goto (-61), 3) := by decide +kernel
theorem dX6_kinds_133 : decode cX6_kinds 133 = .ok (.iload 6, 2) := by decide +kernel
theorem dX6_kinds_135 : decode cX6_kinds 135 = .ok (.ireturn, 1) := by decide +kernel
theorem dX6_wants_0 : decode cX6_wants 0 = .ok (.aload_n 0, 1) := by decide +kernel
theorem dX6_wants_1 : decode cX6_wants 1 = .ok (.iload_n 1, 1) := by decide +kernel
theorem dX6_wants_2 : decode cX6_wants 2 = .ok (.iload_n 2, 1) := by decide +kernel
theorem dX6_wants_3 : decode cX6_wants 3 = .ok (.invokevirtual 202, 3) := by decide +kernel
theorem dX6_wants_6 : decode cX6_wants 6 = .ok (.istore 4, 2) := by decide +kernel
theorem dX6_wants_8 : decode cX6_wants 8 = .ok (.iload 4, 2) := by decide +kernel
theorem dX6_wants_10 : decode cX6_wants 10 = .ok (.ifCond .eq 6, 3) := by decide +kernel
theorem dX6_wants_13 : decode cX6_wants 13 = .ok (.iload 4, 2) := by decide +kernel
theorem dX6_wants_15 : decode cX6_wants 15 = .ok (.ireturn, 1) := by decide +kernel
theorem dX6_wants_16 : decode cX6_wants 16 = .ok (.iload_n 3, 1) := by decide +kernel
theorem dX6_wants_17 : decode cX6_wants 17 = .ok (.ifCond .lt 8, 3) := by decide +kernel
theorem dX6_wants_20 : decode cX6_wants 20 = .ok (.iload_n 3, 1) := by decide +kernel
theorem dX6_wants_21 : decode cX6_wants 21 = .ok (.iconst 1, 1) := by decide +kernel
theorem dX6_wants_22 : decode cX6_wants 22 = .ok (.if_icmp .le 6, 3) := by decide +kernel
theorem dX6_wants_25 : decode cX6_wants 25 = .ok (.bipush (-7), 2) := by decide +kernel
theorem dX6_wants_27 : decode cX6_wants 27 = .ok (.ireturn, 1) := by decide +kernel
theorem dX6_wants_28 : decode cX6_wants 28 = .ok (.iconst 0, 1) := by decide +kernel
theorem dX6_wants_29 : decode cX6_wants 29 = .ok (.istore 5, 2) := by decide +kernel
theorem dX6_wants_31 : decode cX6_wants 31 = .ok (.iconst 0, 1) := by decide +kernel
theorem dX6_wants_32 : decode cX6_wants 32 = .ok (.istore 6, 2) := by decide +kernel
theorem dX6_wants_34 : decode cX6_wants 34 = .ok (.iload 6, 2) := by decide +kernel
theorem dX6_wants_36 : decode cX6_wants 36 = .ok (.getstatic 83, 3) := by decide +kernel
theorem dX6_wants_39 : decode cX6_wants 39 = .ok (.iload_n 3, 1) := by decide +kernel
theorem dX6_wants_40 : decode cX6_wants 40 = .ok (.iaload, 1) := by decide +kernel
theorem dX6_wants_41 : decode cX6_wants 41 = .ok (.if_icmp .gt 29, 3) := by decide +kernel
theorem dX6_wants_44 : decode cX6_wants 44 = .ok (.aload_n 0, 1) := by decide +kernel
theorem dX6_wants_45 : decode cX6_wants 45 = .ok (.iload_n 3, 1) := by decide +kernel
theorem dX6_wants_46 : decode cX6_wants 46 = .ok (.iload 6, 2) := by decide +kernel
theorem dX6_wants_48 : decode cX6_wants 48 = .ok (.iload_n 2, 1) := by decide +kernel
theorem dX6_wants_49 : decode cX6_wants 49 = .ok (.invokevirtual 198, 3) := by decide +kernel
theorem dX6_wants_52 : decode cX6_wants 52 = .ok (.iload 5, 2) := by decide +kernel
theorem dX6_wants_54 : decode cX6_wants 54 = .ok (.aload_n 0, 1) := by decide +kernel
theorem dX6_wants_55 : decode cX6_wants 55 = .ok (.iload_n 1, 1) := by decide +kernel
theorem dX6_wants_56 : decode cX6_wants 56 = .ok (.iload 6, 2) := by decide +kernel
theorem dX6_wants_58 : decode cX6_wants 58 = .ok (.invokevirtual 208, 3) := by decide +kernel
theorem dX6_wants_61 : decode cX6_wants 61 = .ok (.ior, 1) := by decide +kernel
theorem dX6_wants_62 : decode cX6_wants 62 = .ok (.istore 5, 2) := by decide +kernel
theorem dX6_wants_64 : decode cX6_wants 64 = .ok (.iinc 6 1, 3) := by decide +kernel
theorem dX6_wants_67 : decode cX6_wants 67 = .ok (.goto (-33), 3) := by decide +kernel
theorem dX6_wants_70 : decode cX6_wants 70 = .ok (.iload 5, 2) := by decide +kernel
theorem dX6_wants_72 : decode cX6_wants 72 = .ok (.ireturn, 1) := by decide +kernel
theorem dX6_weeks_0 : decode cX6_weeks 0 = .ok (.aload_n 0, 1) := by decide +kernel
theorem dX6_weeks_1 : decode cX6_weeks 1 = .ok (.iload_n 1, 1) := by decide +kernel
theorem dX6_weeks_2 : decode cX6_weeks 2 = .ok (.iconst 0, 1) := by decide +kernel
theorem dX6_weeks_3 : decode cX6_weeks 3 = .ok (.invokevirtual 202, 3) := by decide +kernel
theorem dX6_weeks_6 : decode cX6_weeks 6 = .ok (.istore_n 3, 1) := by decide +kernel
theorem dX6_weeks_7 : decode cX6_weeks 7 = .ok (.iload_n 3, 1) := by decide +kernel
theorem dX6_weeks_8 : decode cX6_weeks 8 = .ok (.ifCond .eq 5, 3) := by decide +kernel
theorem dX6_weeks_11 : decode cX6_weeks 11 = .ok (.iload_n 3, 1) := by decide +kernel
theorem dX6_weeks_12 : decode cX6_weeks 12 = .ok (.ireturn, 1) := by decide +kernel
theorem dX6_weeks_13 : decode cX6_weeks 13 = .ok (.iload_n 2, 1) := by decide +kernel
theorem dX6_weeks_14 : decode cX6_weeks 14 = .ok (.ifCond .lt 8, 3) := by decide +kernel
theorem dX6_weeks_17 : decode cX6_weeks 17 = .ok (.iload_n 2, 1) := by decide +kernel
theorem dX6_weeks_18 : decode cX6_weeks 18 = .ok (.iconst 1, 1) := by decide +kernel
theorem dX6_weeks_19 : decode cX6_weeks 19 = .ok (.if_icmp .le 6, 3) := by decide +kernel
theorem dX6_weeks_22 : decode cX6_weeks 22 = .ok (.bipush (-7), 2) := by decide +kernel
theorem dX6_weeks_24 : decode cX6_weeks 24 = .ok (.ireturn, 1) := by decide +kernel
theorem dX6_weeks_25 : decode cX6_weeks 25 = .ok (.iconst (-1), 1) := by decide +kernel
theorem dX6_weeks_26 : decode cX6_weeks 26 = .ok (.istore 4, 2) := by decide +kernel
theorem dX6_weeks_28 : decode cX6_weeks 28 = .ok (.iconst 0, 1) := by decide +kernel
theorem dX6_weeks_29 : decode cX6_weeks 29 = .ok (.istore 5, 2) := by decide +kernel
theorem dX6_weeks_31 : decode cX6_weeks 31 = .ok (.aload_n 0, 1) := by decide +kernel
theorem dX6_weeks_32 : decode cX6_weeks 32 = .ok (.getfield 35, 3) := by decide +kernel
theorem dX6_weeks_35 : decode cX6_weeks 35 = .ok (.aload_n 0, 1) := by decide +kernel
theorem dX6_weeks_36 : decode cX6_weeks 36 = .ok (.getfield 28, 3) := by decide +kernel
theorem dX6_weeks_39 : decode cX6_weeks 39 = .ok (.invokevirtual 188, 3) := by decide +kernel
theorem dX6_weeks_42 : decode cX6_weeks 42 = .ok (.iconst 0, 1) := by decide +kernel
theorem dX6_weeks_43 : decode cX6_weeks 43 = .ok (.istore 6, 2) := by decide +kernel
theorem dX6_weeks_45 : decode cX6_weeks 45 = .ok (.iload 6, 2) := by decide +kernel
theorem dX6_weeks_47 : decode cX6_weeks 47 = .ok (.bipush 60, 2) := by decide +kernel
theorem dX6_weeks_49 : decode cX6_weeks 49 = .ok (.if_icmp .gt 44, 3) := by decide +kernel
theorem dX6_weeks_52 : decode cX6_weeks 52 = .ok (.aload_n 0, 1) := by decide +kernel
theorem dX6_weeks_53 : decode cX6_weeks 53 = .ok (.iload_n 1, 1) := by decide +kernel
theorem dX6_weeks_54 : decode cX6_weeks 54 = .ok (.invokevirtual 205, 3) := by decide +kernel
theorem dX6_weeks_57 : decode cX6_weeks 57 = .ok (.iconst (-1), 1) := by decide +kernel
theorem dX6_weeks_58 : decode cX6_weeks 58 = .ok (.if_icmp .ne 21, 3) := by decide +kernel
theorem dX6_weeks_61 : decode cX6_weeks 61 = .ok (.iload 4, 2) := by decide +kernel
theorem dX6_weeks_63 : decode cX6_weeks 63 = .ok (.iconst (-1), 1) := by decide +kernel
theorem dX6_weeks_64 : decode cX6_weeks 64 = .ok (.if_icmp .ne 8, 3) := by decide +kernel
theorem dX6_weeks_67 : decode cX6_weeks 67 = .ok (.iload 6, 2) := by decide +kernel
theorem dX6_weeks_69 : decode cX6_weeks 69 = .ok (.goto 5, 3) := by decide +kernel
theorem dX6_weeks_72 : decode cX6_weeks 72 = .ok (.iload 4, 2) := by decide +kernel
theorem dX6_weeks_74 : decode cX6_weeks 74 = .ok (.istore 4, 2) := by decide +kernel
theorem dX6_weeks_76 : decode cX6_weeks 76 = .ok (.iinc 5 1, 3) := by decide +kernel
theorem dX6_weeks_79 : decode cX6_weeks 79 = .ok (.aload_n 0, 1) := by decide +kernel
theorem dX6_weeks_80 : decode cX6_weeks 80 = .ok (.getfield 35, 3) := by decide +kernel
theorem dX6_weeks_83 : decode cX6_weeks 83 = .ok (.iconst 1, 1) := by decide +kernel
theorem dX6_weeks_84 : decode cX6_weeks 84 = .ok (.invokevirtual 192, 3) := by decide +kernel
theorem dX6_weeks_87 : decode cX6_weeks 87 = .ok (.iinc 6 1, 3) := by decide +kernel
theorem dX6_weeks_90 : decode cX6_weeks 90 = .ok (.goto (-45), 3) := by decide +kernel
theorem dX6_weeks_93 : decode cX6_weeks 93 = .ok (.iload_n 2, 1) := by decide +kernel
theorem dX6_weeks_94 : decode cX6_weeks 94 = .ok (.ifCond .ne 8, 3) := by decide +kernel
theorem dX6_weeks_97 : decode cX6_weeks 97 = .ok (.iload 4, 2) := by decide +kernel
theorem dX6_weeks_99 : decode cX6_weeks 99 = .ok (.goto 5, 3) := by decide +kernel
theorem dX6_weeks_102 : decode cX6_weeks 102 = .ok (.iload 5, 2) := by decide +kernel
theorem dX6_weeks_104 : decode cX6_weeks 104 = .ok (.ireturn, 1) := by decide +kernel
theorem dX6_laws_0 : decode cX6_laws 0 = .ok (.aload_n 0, 1) := by decide +kernel
theorem dX6_laws_1 : decode cX6_laws 1 = .ok (.iload_n 1, 1) := by decide +kernel
theorem dX6_laws_2 : decode cX6_laws 2 = .ok (.iload_n 2, 1) := by decide +kernel
theorem dX6_laws_3 : decode cX6_laws 3 = .ok (.invokevirtual 202, 3) := by decide +kernel
theorem dX6_laws_6 : decode cX6_laws 6 = .ok (.istore_n 3, 1) := by decide +kernel
theorem dX6_laws_7 : decode cX6_laws 7 = .ok (.iload_n 3, 1) := by decide +kernel
theorem dX6_laws_8 : decode cX6_laws 8 = .ok (.ifCond .eq 5, 3) := by decide +kernel
theorem dX6_laws_11 : decode cX6_laws 11 = .ok (.iload_n 3, 1) := by decide +kernel
theorem dX6_laws_12 : decode cX6_laws 12 = .ok (.ireturn, 1) := by decide +kernel
theorem dX6_laws_13 : decode cX6_laws 13 = .ok (.iconst 0, 1) := by decide +kernel
theorem dX6_laws_14 : decode cX6_laws 14 = .ok (.istore 4, 2) := by decide +kernel
theorem dX6_laws_16 : decode cX6_laws 16 = .ok (.iconst 0, 1) := by decide +kernel
theorem dX6_laws_17 : decode cX6_laws 17 = .ok (.istore 5, 2) := by decide +kernel
theorem dX6_laws_19 : decode cX6_laws 19 = .ok (.iload 5, 2) := by decide +kernel
theorem dX6_laws_21 : decode cX6_laws 21 = .ok (.aload_n 0, 1) := by decide +kernel
theorem dX6_laws_22 : decode cX6_laws 22 = .ok (.getfield 10, 3) := by decide +kernel
theorem dX6_laws_25 : decode cX6_laws 25 = .ok (.getfield 78, 3) := by decide +kernel
theorem dX6_laws_28 : decode cX6_laws 28 = .ok (.if_icmp .ge 49, 3) := by decide +kernel
theorem dX6_laws_31 : decode cX6_laws 31 = .ok (.aload_n 0, 1) := by decide +kernel
theorem dX6_laws_32 : decode cX6_laws 32 = .ok (.getfield 35, 3) := by decide +kernel
theorem dX6_laws_35 : decode cX6_laws 35 = .ok (.aload_n 0, 1) := by decide +kernel
theorem dX6_laws_36 : decode cX6_laws 36 = .ok (.getfield 28, 3) := by decide +kernel
theorem dX6_laws_39 : decode cX6_laws 39 = .ok (.invokevirtual 188, 3) := by decide +kernel
theorem dX6_laws_42 : decode cX6_laws 42 = .ok (.aload_n 0, 1) := by decide +kernel
theorem dX6_laws_43 : decode cX6_laws 43 = .ok (.getfield 35, 3) := by decide +kernel
theorem dX6_laws_46 : decode cX6_laws 46 = .ok (.iload 5, 2) := by decide +kernel
theorem dX6_laws_48 : decode cX6_laws 48 = .ok (.putfield 79, 3) := by decide +kernel
theorem dX6_laws_51 : decode cX6_laws 51 = .ok (.aload_n 0, 1) := by decide +kernel
theorem dX6_laws_52 : decode cX6_laws 52 = .ok (.getfield 35, 3) := by decide +kernel
theorem dX6_laws_55 : decode cX6_laws 55 = .ok (.iload_n 2, 1) := by decide +kernel
theorem dX6_laws_56 : decode cX6_laws 56 = .ok (.invokevirtual 192, 3) := by decide +kernel
theorem dX6_laws_59 : decode cX6_laws 59 = .ok (.iload 4, 2) := by decide +kernel
theorem dX6_laws_61 : decode cX6_laws 61 = .ok (.aload_n 0, 1) := by decide +kernel
theorem dX6_laws_62 : decode cX6_laws 62 = .ok (.iload_n 1, 1) := by decide +kernel
theorem dX6_laws_63 : decode cX6_laws 63 = .ok (.iload 5, 2) := by decide +kernel
theorem dX6_laws_65 : decode cX6_laws 65 = .ok (.invokevirtual 208, 3) := by decide +kernel
theorem dX6_laws_68 : decode cX6_laws 68 = .ok (.ior, 1) := by decide +kernel
theorem dX6_laws_69 : decode cX6_laws 69 = .ok (.istore 4, 2) := by decide +kernel
theorem dX6_laws_71 : decode cX6_laws 71 = .ok (.iinc 5 1, 3) := by decide +kernel
theorem dX6_laws_74 : decode cX6_laws 74 = .ok (.goto (-55), 3) := by decide +kernel
theorem dX6_laws_77 : decode cX6_laws 77 = .ok (.iload 4, 2) := by decide +kernel
theorem dX6_laws_79 : decode cX6_laws 79 = .ok (.ireturn, 1) := by decide +kernel
theorem dX6_film_0 : decode cX6_film 0 = .ok (.iload_n 1, 1) := by decide +kernel
theorem dX6_film_1 : decode cX6_film 1 = .ok (.invokestatic 211, 3) := by decide +kernel
theorem dX6_film_4 : decode cX6_film 4 = .ok (.ifCond .eq 10, 3) := by decide +kernel
theorem dX6_film_7 : decode cX6_film 7 = .ok (.iload_n 2, 1) := by decide +kernel
theorem dX6_film_8 : decode cX6_film 8 = .ok (.invokestatic 161, 3) := by decide +kernel
theorem dX6_film_11 : decode cX6_film 11 = .ok (.ifCond .ne 6, 3) := by decide +kernel
theorem dX6_film_14 : decode cX6_film 14 = .ok (.bipush (-2), 2) := by decide +kernel
theorem dX6_film_16 : decode cX6_film 16 = .ok (.ireturn, 1) := by decide +kernel
theorem dX6_film_17 : decode cX6_film 17 = .ok (.aload_n 0, 1) := by decide +kernel
theorem dX6_film_18 : decode cX6_film 18 = .ok (.iload_n 2, 1) := by decide +kernel
theorem dX6_film_19 : decode cX6_film 19 = .ok (.invokevirtual 164, 3) := by decide +kernel
theorem dX6_film_22 : decode cX6_film 22 = .ok (.aload_n 0, 1) := by decide +kernel
theorem dX6_film_23 : decode cX6_film 23 = .ok (.getfield 44, 3) := by decide +kernel
theorem dX6_film_26 : decode cX6_film 26 = .ok (.iload_n 1, 1) := by decide +kernel
theorem dX6_film_27 : decode cX6_film 27 = .ok (.iconst 1, 1) := by decide +kernel
theorem dX6_film_28 : decode cX6_film 28 = .ok (.aload_n 0, 1) := by decide +kernel
theorem dX6_film_29 : decode cX6_film 29 = .ok (.getfield 35, 3) := by decide +kernel
theorem dX6_film_32 : decode cX6_film 32 = .ok (.getfield 52, 3) := by decide +kernel
theorem dX6_film_35 : decode cX6_film 35 = .ok (.getfield 56, 3) := by decide +kernel
theorem dX6_film_38 : decode cX6_film 38 = .ok (.invokevirtual 214, 3) := by decide +kernel
theorem dX6_film_41 : decode cX6_film 41 = .ok (.iconst 0, 1) := by decide +kernel
theorem dX6_film_42 : decode cX6_film 42 = .ok (.istore_n 3, 1) := by decide +kernel
theorem dX6_film_43 : decode cX6_film 43 = .ok (.iload_n 3, 1) := by decide +kernel
theorem dX6_film_44 : decode cX6_film 44 = .ok (.aload_n 0, 1) := by decide +kernel
theorem dX6_film_45 : decode cX6_film 45 = .ok (.getfield 35, 3) := by decide +kernel
theorem dX6_film_48 : decode cX6_film 48 = .ok (.getfield 52, 3) := by decide +kernel
theorem dX6_film_51 : decode cX6_film 51 = .ok (.getfield 56, 3) := by decide +kernel
theorem dX6_film_54 : decode cX6_film 54 = .ok (.if_icmp .ge 30, 3) := by decide +kernel
theorem dX6_film_57 : decode cX6_film 57 = .ok (.aload_n 0, 1) := by decide +kernel
theorem dX6_film_58 : decode cX6_film 58 = .ok (.getfield 44, 3) := by decide +kernel
theorem dX6_film_61 : decode cX6_film 61 = .ok (.iload_n 1, 1) := by decide +kernel
theorem dX6_film_62 : decode cX6_film 62 = .ok (.iload_n 3, 1) := by decide +kernel
theorem dX6_film_63 : decode cX6_film 63 = .ok (.aload_n 0, 1) := by decide +kernel
theorem dX6_film_64 : decode cX6_film 64 = .ok (.getfield 35, 3) := by decide +kernel
theorem dX6_film_67 : decode cX6_film 67 = .ok (.getfield 52, 3) := by decide +kernel
theorem dX6_film_70 : decode cX6_film 70 = .ok (.iload_n 3, 1) := by decide +kernel
theorem dX6_film_71 : decode cX6_film 71 = .ok (.iconst 2, 1) := by decide +kernel
theorem dX6_film_72 : decode cX6_film 72 = .ok (.invokevirtual 130, 3) := by decide +kernel
theorem dX6_film_75 : decode cX6_film 75 = .ok (.invokevirtual 217, 3) := by decide +kernel
theorem dX6_film_78 : decode cX6_film 78 = .ok (.iinc 3 1, 3) := by decide +kernel
theorem dX6_film_81 : decode cX6_film 81 = .ok (.goto (-38), 3) := by decide +kernel
theorem dX6_film_84 : decode cX6_film 84 = .ok (.aload_n 0, 1) := by decide +kernel
theorem dX6_film_85 : decode cX6_film 85 = .ok (.getfield 35, 3) := by decide +kernel
theorem dX6_film_88 : decode cX6_film 88 = .ok (.getfield 52, 3) := by decide +kernel
theorem dX6_film_91 : decode cX6_film 91 = .ok (.getfield 56, 3) := by decide +kernel
theorem dX6_film_94 : decode cX6_film 94 = .ok (.ireturn, 1) := by decide +kernel
theorem dX6_drawn_0 : decode cX6_drawn 0 = .ok (.iload_n 1, 1) := by decide +kernel
theorem dX6_drawn_1 : decode cX6_drawn 1 = .ok (.invokestatic 220, 3) := by decide +kernel
theorem dX6_drawn_4 : decode cX6_drawn 4 = .ok (.ifCond .eq 31, 3) := by decide +kernel
theorem dX6_drawn_7 : decode cX6_drawn 7 = .ok (.iload_n 2, 1) := by decide +kernel
theorem dX6_drawn_8 : decode cX6_drawn 8 = .ok (.invokestatic 161, 3) := by decide +kernel
theorem dX6_drawn_11 : decode cX6_drawn 11 = .ok (.ifCond .eq 24, 3) := by decide +kernel
theorem dX6_drawn_14 : decode cX6_drawn 14 = .ok (.iload_n 3, 1) := by decide +kernel
theorem dX6_drawn_15 : decode cX6_drawn 15 = .ok (.ifCond .lt 20, 3) := by decide +kernel
theorem dX6_drawn_18 : decode cX6_drawn 18 = .ok (.iload_n 3, 1) := by decide +kernel
theorem dX6_drawn_19 : decode cX6_drawn 19 = .ok (.bipush 10, 2) := by decide +kernel
theorem dX6_drawn_21 : decode cX6_drawn 21 = .ok (.idiv, 1) := by decide +kernel
theorem dX6_drawn_22 : decode cX6_drawn 22 = .ok (.bipush 100, 2) := by decide +kernel
theorem dX6_drawn_24 : decode cX6_drawn 24 = .ok (.if_icmp .gt 11, 3) := by decide +kernel
theorem dX6_drawn_27 : decode cX6_drawn 27 = .ok (.iload_n 3, 1) := by decide +kernel
theorem dX6_drawn_28 : decode cX6_drawn 28 = .ok (.bipush 10, 2) := by decide +kernel
theorem dX6_drawn_30 : decode cX6_drawn 30 = .ok (.irem, 1) := by decide +kernel
theorem dX6_drawn_31 : decode cX6_drawn 31 = .ok (.iconst 3, 1) := by decide +kernel
theorem dX6_drawn_32 : decode cX6_drawn 32 = .ok (.if_icmp .le 6, 3) := by decide +kernel
theorem dX6_drawn_35 : decode cX6_drawn 35 = .ok (.bipush (-2), 2) := by decide +kernel
theorem dX6_drawn_37 : decode cX6_drawn 37 = .ok (.ireturn, 1) := by decide +kernel
theorem dX6_drawn_38 : decode cX6_drawn 38 = .ok (.aload_n 0, 1) := by decide +kernel
theorem dX6_drawn_39 : decode cX6_drawn 39 = .ok (.getfield 35, 3) := by decide +kernel
theorem dX6_drawn_42 : decode cX6_drawn 42 = .ok (.aload_n 0, 1) := by decide +kernel
theorem dX6_drawn_43 : decode cX6_drawn 43 = .ok (.getfield 28, 3) := by decide +kernel
theorem dX6_drawn_46 : decode cX6_drawn 46 = .ok (.invokevirtual 188, 3) := by decide +kernel
theorem dX6_drawn_49 : decode cX6_drawn 49 = .ok (.aload_n 0, 1) := by decide +kernel
theorem dX6_drawn_50 : decode cX6_drawn 50 = .ok (.getfield 35, 3) := by decide +kernel
theorem dX6_drawn_53 : decode cX6_drawn 53 = .ok (.iload_n 1, 1) := by decide +kernel
theorem dX6_drawn_54 : decode cX6_drawn 54 = .ok (.iload_n 2, 1) := by decide +kernel
theorem dX6_drawn_55 : decode cX6_drawn 55 = .ok (.iload_n 3, 1) := by decide +kernel
theorem dX6_drawn_56 : decode cX6_drawn 56 = .ok (.bipush 10, 2) := by decide +kernel
theorem dX6_drawn_58 : decode cX6_drawn 58 = .ok (.idiv, 1) := by decide +kernel
theorem dX6_drawn_59 : decode cX6_drawn 59 = .ok (.invokevirtual 223, 3) := by decide +kernel
theorem dX6_drawn_62 : decode cX6_drawn 62 = .ok (.iload_n 3, 1) := by decide +kernel
theorem dX6_drawn_63 : decode cX6_drawn 63 = .ok (.bipush 10, 2) := by decide +kernel
theorem dX6_drawn_65 : decode cX6_drawn 65 = .ok (.irem, 1) := by decide +kernel
theorem dX6_drawn_66 : decode cX6_drawn 66 = .ok (.tableswitch 70 0 2 #[26, 37, 45], 26) := by decide +kernel
theorem dX6_drawn_92 : decode cX6_drawn 92 = .ok (.aload_n 0, 1) := by decide +kernel
theorem dX6_drawn_93 : decode cX6_drawn 93 = .ok (.getfield 35, 3) := by decide +kernel
theorem dX6_drawn_96 : decode cX6_drawn 96 = .ok (.getfield 52, 3) := by decide +kernel
theorem dX6_drawn_99 : decode cX6_drawn 99 = .ok (.invokevirtual 167, 3) := by decide +kernel
theorem dX6_drawn_102 : decode cX6_drawn 102 = .ok (.ireturn, 1) := by decide +kernel
theorem dX6_drawn_103 : decode cX6_drawn 103 = .ok (.aload_n 0, 1) := by decide +kernel
theorem dX6_drawn_104 : decode cX6_drawn 104 = .ok (.getfield 35, 3) := by decide +kernel
theorem dX6_drawn_107 : decode cX6_drawn 107 = .ok (.getfield 173, 3) := by decide +kernel
theorem dX6_drawn_110 : decode cX6_drawn 110 = .ok (.ireturn, 1) := by decide +kernel
theorem dX6_drawn_111 : decode cX6_drawn 111 = .ok (.iconst 1, 1) := by decide +kernel
theorem dX6_drawn_112 : decode cX6_drawn 112 = .ok (.aload_n 0, 1) := by decide +kernel
theorem dX6_drawn_113 : decode cX6_drawn 113 = .ok (.getfield 35, 3) := by decide +kernel
theorem dX6_drawn_116 : decode cX6_drawn 116 = .ok (.getfield 52, 3) := by decide +kernel
theorem dX6_drawn_119 : decode cX6_drawn 119 = .ok (.getfield 56, 3) := by decide +kernel
theorem dX6_drawn_122 : decode cX6_drawn 122 = .ok (.ishl, 1) := by decide +kernel
theorem dX6_drawn_123 : decode cX6_drawn 123 = .ok (.iconst 1, 1) := by decide +kernel
theorem dX6_drawn_124 : decode cX6_drawn 124 = .ok (.isub, 1) := by decide +kernel
theorem dX6_drawn_125 : decode cX6_drawn 125 = .ok (.aload_n 0, 1) := by decide +kernel
theorem dX6_drawn_126 : decode cX6_drawn 126 = .ok (.getfield 35, 3) := by decide +kernel
theorem dX6_drawn_129 : decode cX6_drawn 129 = .ok (.getfield 176, 3) := by decide +kernel
theorem dX6_drawn_132 : decode cX6_drawn 132 = .ok (.iconst (-1), 1) := by decide +kernel
theorem dX6_drawn_133 : decode cX6_drawn 133 = .ok (.ixor, 1) := by decide +kernel
theorem dX6_drawn_134 : decode cX6_drawn 134 = .ok (.iand, 1) := by decide +kernel
theorem dX6_drawn_135 : decode cX6_drawn 135 = .ok (.ireturn, 1) := by decide +kernel
theorem dX6_drawn_136 : decode cX6_drawn 136 = .ok (.aload_n 0, 1) := by decide +kernel
theorem dX6_drawn_137 : decode cX6_drawn 137 = .ok (.getfield 35, 3) := by decide +kernel
theorem dX6_drawn_140 : decode cX6_drawn 140 = .ok (.getfield 52, 3) := by decide +kernel
theorem dX6_drawn_143 : decode cX6_drawn 143 = .ok (.invokevirtual 226, 3) := by decide +kernel
theorem dX6_drawn_146 : decode cX6_drawn 146 = .ok (.ireturn, 1) := by decide +kernel
theorem dX6_odds_0 : decode cX6_odds 0 = .ok (.iload_n 1, 1) := by decide +kernel
theorem dX6_odds_1 : decode cX6_odds 1 = .ok (.invokestatic 220, 3) := by decide +kernel
theorem dX6_odds_4 : decode cX6_odds 4 = .ok (.ifCond .eq 21, 3) := by decide +kernel
theorem dX6_odds_7 : decode cX6_odds 7 = .ok (.iload_n 2, 1) := by decide +kernel
theorem dX6_odds_8 : decode cX6_odds 8 = .ok (.invokestatic 161, 3) := by decide +kernel
theorem dX6_odds_11 : decode cX6_odds 11 = .ok (.ifCond .eq 14, 3) := by decide +kernel
theorem dX6_odds_14 : decode cX6_odds 14 = .ok (.iload 4, 2) := by decide +kernel
theorem dX6_odds_16 : decode cX6_odds 16 = .ok (.ifCond .lt 9, 3) := by decide +kernel
theorem dX6_odds_19 : decode cX6_odds 19 = .ok (.iload 4, 2) := by decide +kernel
theorem dX6_odds_21 : decode cX6_odds 21 = .ok (.iconst 1, 1) := by decide +kernel
theorem dX6_odds_22 : decode cX6_odds 22 = .ok (.if_icmp .le 7, 3) := by decide +kernel
theorem dX6_odds_25 : decode cX6_odds 25 = .ok (.ldc2_w 229, 3) := by decide +kernel
theorem dX6_odds_28 : decode cX6_odds 28 = .ok (.lreturn, 1) := by decide +kernel
theorem dX6_odds_29 : decode cX6_odds 29 = .ok (.iload_n 3, 1) := by decide +kernel
theorem dX6_odds_30 : decode cX6_odds 30 = .ok (.bipush 100, 2) := by decide +kernel
theorem dX6_odds_32 : decode cX6_odds 32 = .ok (.idiv, 1) := by decide +kernel
theorem dX6_odds_33 : decode cX6_odds 33 = .ok (.istore 5, 2) := by decide +kernel
theorem dX6_odds_35 : decode cX6_odds 35 = .ok (.iload_n 3, 1) := by decide +kernel
theorem dX6_odds_36 : decode cX6_odds 36 = .ok (.bipush 100, 2) := by decide +kernel
theorem dX6_odds_38 : decode cX6_odds 38 = .ok (.if_icmp .lt 10, 3) := by decide +kernel
theorem dX6_odds_41 : decode cX6_odds 41 = .ok (.iload 5, 2) := by decide +kernel
theorem dX6_odds_43 : decode cX6_odds 43 = .ok (.bipush 30, 2) := by decide +kernel
theorem dX6_odds_45 : decode cX6_odds 45 = .ok (.if_icmp .le 7, 3) := by decide +kernel
theorem dX6_odds_48 : decode cX6_odds 48 = .ok (.ldc2_w 229, 3) := by decide +kernel
theorem dX6_odds_51 : decode cX6_odds 51 = .ok (.lreturn, 1) := by decide +kernel
theorem dX6_odds_52 : decode cX6_odds 52 = .ok (.aload_n 0, 1) := by decide +kernel
theorem dX6_odds_53 : decode cX6_odds 53 = .ok (.iload_n 2, 1) := by decide +kernel
theorem dX6_odds_54 : decode cX6_odds 54 = .ok (.invokevirtual 164, 3) := by decide +kernel
theorem dX6_odds_57 : decode cX6_odds 57 = .ok (.aload_n 0, 1) := by decide +kernel
theorem dX6_odds_58 : decode cX6_odds 58 = .ok (.getfield 35, 3) := by decide +kernel
theorem dX6_odds_61 : decode cX6_odds 61 = .ok (.getfield 52, 3) := by decide +kernel
theorem dX6_odds_64 : decode cX6_odds 64 = .ok (.invokevirtual 167, 3) := by decide +kernel
theorem dX6_odds_67 : decode cX6_odds 67 = .ok (.istore 6, 2) := by decide +kernel
theorem dX6_odds_69 : decode cX6_odds 69 = .ok (.iconst 0, 1) := by decide +kernel
theorem dX6_odds_70 : decode cX6_odds 70 = .ok (.istore 7, 2) := by decide +kernel
theorem dX6_odds_72 : decode cX6_odds 72 = .ok (.iconst 0, 1) := by decide +kernel
theorem dX6_odds_73 : decode cX6_odds 73 = .ok (.istore 8, 2) := by decide +kernel
theorem dX6_odds_75 : decode cX6_odds 75 = .ok (.iload 8, 2) := by decide +kernel
theorem dX6_odds_77 : decode cX6_odds 77 = .ok (.iload 5, 2) := by decide +kernel
theorem dX6_odds_79 : decode cX6_odds 79 = .ok (.if_icmp .ge 54, 3) := by decide +kernel
theorem dX6_odds_82 : decode cX6_odds 82 = .ok (.aload_n 0, 1) := by decide +kernel
theorem dX6_odds_83 : decode cX6_odds 83 = .ok (.getfield 35, 3) := by decide +kernel
theorem dX6_odds_86 : decode cX6_odds 86 = .ok (.aload_n 0, 1) := by decide +kernel
theorem dX6_odds_87 : decode cX6_odds 87 = .ok (.getfield 28, 3) := by decide +kernel
theorem dX6_odds_90 : decode cX6_odds 90 = .ok (.invokevirtual 188, 3) := by decide +kernel
theorem dX6_odds_93 : decode cX6_odds 93 = .ok (.aload_n 0, 1) := by decide +kernel
theorem dX6_odds_94 : decode cX6_odds 94 = .ok (.getfield 35, 3) := by decide +kernel
theorem dX6_odds_97 : decode cX6_odds 97 = .ok (.iload_n 1, 1) := by decide +kernel
theorem dX6_odds_98 : decode cX6_odds 98 = .ok (.iload 8, 2) := by decide +kernel
theorem dX6_odds_100 : decode cX6_odds 100 = .ok (.iadd, 1) := by decide +kernel
theorem dX6_odds_101 : decode cX6_odds 101 = .ok (.iload_n 2, 1) := by decide +kernel
theorem dX6_odds_102 : decode cX6_odds 102 = .ok (.iload_n 3, 1) := by decide +kernel
theorem dX6_odds_103 : decode cX6_odds 103 = .ok (.bipush 100, 2) := by decide +kernel
theorem dX6_odds_105 : decode cX6_odds 105 = .ok (.irem, 1) := by decide +kernel
theorem dX6_odds_106 : decode cX6_odds 106 = .ok (.invokevirtual 223, 3) := by decide +kernel
theorem dX6_odds_109 : decode cX6_odds 109 = .ok (.aload_n 0, 1) := by decide +kernel
theorem dX6_odds_110 : decode cX6_odds 110 = .ok (.getfield 35, 3) := by decide +kernel
theorem dX6_odds_113 : decode cX6_odds 113 = .ok (.getfield 52, 3) := by decide +kernel
theorem dX6_odds_116 : decode cX6_odds 116 = .ok (.invokevirtual 167, 3) := by decide +kernel
theorem dX6_odds_119 : decode cX6_odds 119 = .ok (.iload 6, 2) := by decide +kernel
theorem dX6_odds_121 : decode cX6_odds 121 = .ok (.if_icmp .lt 6, 3) := by decide +kernel
theorem dX6_odds_124 : decode cX6_odds 124 = .ok (.iinc 7 1, 3) := by decide +kernel
theorem dX6_odds_127 : decode cX6_odds 127 = .ok (.iinc 8 1, 3) := by decide +kernel
theorem dX6_odds_130 : decode cX6_odds 130 = .ok (.goto (-55), 3) := by decide +kernel
theorem dX6_odds_133 : decode cX6_odds 133 = .ok (.iload 5, 2) := by decide +kernel
theorem dX6_odds_135 : decode cX6_odds 135 = .ok (.iload 7, 2) := by decide +kernel
theorem dX6_odds_137 : decode cX6_odds 137 = .ok (.invokestatic 231, 3) := by decide +kernel
theorem dX6_odds_140 : decode cX6_odds 140 = .ok (.istore 8, 2) := by decide +kernel
theorem dX6_odds_142 : decode cX6_odds 142 = .ok (.iload 4, 2) := by decide +kernel
theorem dX6_odds_144 : decode cX6_odds 144 = .ok (.ifCond .ne 8, 3) := by decide +kernel
theorem dX6_odds_147 : decode cX6_odds 147 = .ok (.iload 7, 2) := by decide +kernel
theorem dX6_odds_149 : decode cX6_odds 149 = .ok (.goto 5, 3) := by decide +kernel
theorem dX6_odds_152 : decode cX6_odds 152 = .ok (.iload 5, 2) := by decide +kernel
theorem dX6_odds_154 : decode cX6_odds 154 = .ok (.iload 8, 2) := by decide +kernel
theorem dX6_odds_156 : decode cX6_odds 156 = .ok (.ifCond .le 8, 3) := by decide +kernel
theorem dX6_odds_159 : decode cX6_odds 159 = .ok (.iload 8, 2) := by decide +kernel
theorem dX6_odds_161 : decode cX6_odds 161 = .ok (.goto 4, 3) := by decide +kernel
theorem dX6_odds_164 : decode cX6_odds 164 = .ok (.iconst 1, 1) := by decide +kernel
theorem dX6_odds_165 : decode cX6_odds 165 = .ok (.idiv, 1) := by decide +kernel
theorem dX6_odds_166 : decode cX6_odds 166 = .ok (.i2l, 1) := by decide +kernel
theorem dX6_odds_167 : decode cX6_odds 167 = .ok (.lreturn, 1) := by decide +kernel
theorem dX6_image_0 : decode cX6_image 0 = .ok (.aload_n 0, 1) := by decide +kernel
theorem dX6_image_1 : decode cX6_image 1 = .ok (.getfield 32, 3) := by decide +kernel
theorem dX6_image_4 : decode cX6_image 4 = .ok (.aload_n 0, 1) := by decide +kernel
theorem dX6_image_5 : decode cX6_image 5 = .ok (.getfield 28, 3) := by decide +kernel
theorem dX6_image_8 : decode cX6_image 8 = .ok (.invokevirtual 188, 3) := by decide +kernel
theorem dX6_image_11 : decode cX6_image 11 = .ok (.aload_n 0, 1) := by decide +kernel
theorem dX6_image_12 : decode cX6_image 12 = .ok (.iconst 1, 1) := by decide +kernel
theorem dX6_image_13 : decode cX6_image 13 = .ok (.putfield 48, 3) := by decide +kernel
theorem dX6_image_16 : decode cX6_image 16 = .ok (.aload_n 0, 1) := by decide +kernel
theorem dX6_image_17 : decode cX6_image 17 = .ok (.getfield 32, 3) := by decide +kernel
theorem dX6_image_20 : decode cX6_image 20 = .ok (.getfield 52, 3) := by decide +kernel
theorem dX6_image_23 : decode cX6_image 23 = .ok (.getfield 56, 3) := by decide +kernel
theorem dX6_image_26 : decode cX6_image 26 = .ok (.ireturn, 1) := by decide +kernel
theorem dX6_back_0 : decode cX6_back 0 = .ok (.aload_n 0, 1) := by decide +kernel
theorem dX6_back_1 : decode cX6_back 1 = .ok (.getfield 48, 3) := by decide +kernel
theorem dX6_back_4 : decode cX6_back 4 = .ok (.ifCond .ne 6, 3) := by decide +kernel
theorem dX6_back_7 : decode cX6_back 7 = .ok (.bipush (-3), 2) := by decide +kernel
theorem dX6_back_9 : decode cX6_back 9 = .ok (.ireturn, 1) := by decide +kernel
theorem dX6_back_10 : decode cX6_back 10 = .ok (.aload_n 0, 1) := by decide +kernel
theorem dX6_back_11 : decode cX6_back 11 = .ok (.getfield 28, 3) := by decide +kernel
theorem dX6_back_14 : decode cX6_back 14 = .ok (.aload_n 0, 1) := by decide +kernel
theorem dX6_back_15 : decode cX6_back 15 = .ok (.getfield 32, 3) := by decide +kernel
theorem dX6_back_18 : decode cX6_back 18 = .ok (.invokevirtual 188, 3) := by decide +kernel
theorem dX6_back_21 : decode cX6_back 21 = .ok (.aload_n 0, 1) := by decide +kernel
theorem dX6_back_22 : decode cX6_back 22 = .ok (.getfield 28, 3) := by decide +kernel
theorem dX6_back_25 : decode cX6_back 25 = .ok (.getfield 52, 3) := by decide +kernel
theorem dX6_back_28 : decode cX6_back 28 = .ok (.getfield 56, 3) := by decide +kernel
theorem dX6_back_31 : decode cX6_back 31 = .ok (.ireturn, 1) := by decide +kernel
theorem dX6_sheet_0 : decode cX6_sheet 0 = .ok (.iload_n 1, 1) := by decide +kernel
theorem dX6_sheet_1 : decode cX6_sheet 1 = .ok (.invokestatic 211, 3) := by decide +kernel
theorem dX6_sheet_4 : decode cX6_sheet 4 = .ok (.ifCond .eq 24, 3) := by decide +kernel
theorem dX6_sheet_7 : decode cX6_sheet 7 = .ok (.iload_n 2, 1) := by decide +kernel
theorem dX6_sheet_8 : decode cX6_sheet 8 = .ok (.iconst (-1), 1) := by decide +kernel
theorem dX6_sheet_9 : decode cX6_sheet 9 = .ok (.if_icmp .lt 19, 3) := by decide +kernel
theorem dX6_sheet_12 : decode cX6_sheet 12 = .ok (.iload_n 2, 1) := by decide +kernel
theorem dX6_sheet_13 : decode cX6_sheet 13 = .ok (.iconst 2, 1) := by decide +kernel
theorem dX6_sheet_14 : decode cX6_sheet 14 = .ok (.if_icmp .gt 14, 3) := by decide +kernel
theorem dX6_sheet_17 : decode cX6_sheet 17 = .ok (.iload_n 2, 1) := by decide +kernel
theorem dX6_sheet_18 : decode cX6_sheet 18 = .ok (.iconst (-1), 1) := by decide +kernel
theorem dX6_sheet_19 : decode cX6_sheet 19 = .ok (.if_icmp .eq 12, 3) := by decide +kernel
theorem dX6_sheet_22 : decode cX6_sheet 22 = .ok (.iload_n 3, 1) := by decide +kernel
theorem dX6_sheet_23 : decode cX6_sheet 23 = .ok (.bipush 40, 2) := by decide +kernel
theorem dX6_sheet_25 : decode cX6_sheet 25 = .ok (.if_icmp .le 6, 3) := by decide +kernel
theorem dX6_sheet_28 : decode cX6_sheet 28 = .ok (.bipush (-2), 2) := by decide +kernel
theorem dX6_sheet_30 : decode cX6_sheet 30 = .ok (.ireturn, 1) := by decide +kernel
theorem dX6_sheet_31 : decode cX6_sheet 31 = .ok (.iload_n 2, 1) := by decide +kernel
theorem dX6_sheet_32 : decode cX6_sheet 32 = .ok (.iconst (-1), 1) := by decide +kernel
theorem dX6_sheet_33 : decode cX6_sheet 33 = .ok (.if_icmp .eq 10, 3) := by decide +kernel
theorem dX6_sheet_36 : decode cX6_sheet 36 = .ok (.iload_n 3, 1) := by decide +kernel
theorem dX6_sheet_37 : decode cX6_sheet 37 = .ok (.ifCond .ge 6, 3) := by decide +kernel
theorem dX6_sheet_40 : decode cX6_sheet 40 = .ok (.bipush (-14), 2) := by decide +kernel
theorem dX6_sheet_42 : decode cX6_sheet 42 = .ok (.ireturn, 1) := by decide +kernel
theorem dX6_sheet_43 : decode cX6_sheet 43 = .ok (.aload_n 0, 1) := by decide +kernel
theorem dX6_sheet_44 : decode cX6_sheet 44 = .ok (.getfield 44, 3) := by decide +kernel
theorem dX6_sheet_47 : decode cX6_sheet 47 = .ok (.iload_n 1, 1) := by decide +kernel
theorem dX6_sheet_48 : decode cX6_sheet 48 = .ok (.iload_n 2, 1) := by decide +kernel
theorem dX6_sheet_49 : decode cX6_sheet 49 = .ok (.iload_n 2, 1) := by decide +kernel
theorem dX6_sheet_50 : decode cX6_sheet 50 = .ok (.iconst (-1), 1) := by decide +kernel
theorem dX6_sheet_51 : decode cX6_sheet 51 = .ok (.if_icmp .ne 7, 3) := by decide +kernel
theorem dX6_sheet_54 : decode cX6_sheet 54 = .ok (.iconst 0, 1) := by decide +kernel
theorem dX6_sheet_55 : decode cX6_sheet 55 = .ok (.goto 4, 3) := by decide +kernel
theorem dX6_sheet_58 : decode cX6_sheet 58 = .ok (.iload_n 3, 1) := by decide +kernel
theorem dX6_sheet_59 : decode cX6_sheet 59 = .ok (.invokevirtual 214, 3) := by decide +kernel
theorem dX6_sheet_62 : decode cX6_sheet 62 = .ok (.iconst 1, 1) := by decide +kernel
theorem dX6_sheet_63 : decode cX6_sheet 63 = .ok (.ireturn, 1) := by decide +kernel
theorem dX6_cell_0 : decode cX6_cell 0 = .ok (.iload_n 1, 1) := by decide +kernel
theorem dX6_cell_1 : decode cX6_cell 1 = .ok (.invokestatic 211, 3) := by decide +kernel
theorem dX6_cell_4 : decode cX6_cell 4 = .ok (.ifCond .ne 6, 3) := by decide +kernel
theorem dX6_cell_7 : decode cX6_cell 7 = .ok (.bipush (-2), 2) := by decide +kernel
theorem dX6_cell_9 : decode cX6_cell 9 = .ok (.ireturn, 1) := by decide +kernel
theorem dX6_cell_10 : decode cX6_cell 10 = .ok (.aload_n 0, 1) := by decide +kernel
theorem dX6_cell_11 : decode cX6_cell 11 = .ok (.getfield 44, 3) := by decide +kernel
theorem dX6_cell_14 : decode cX6_cell 14 = .ok (.iload_n 1, 1) := by decide +kernel
theorem dX6_cell_15 : decode cX6_cell 15 = .ok (.invokevirtual 234, 3) := by decide +kernel
theorem dX6_cell_18 : decode cX6_cell 18 = .ok (.ifCond .eq 6, 3) := by decide +kernel
theorem dX6_cell_21 : decode cX6_cell 21 = .ok (.bipush (-11), 2) := by decide +kernel
theorem dX6_cell_23 : decode cX6_cell 23 = .ok (.ireturn, 1) := by decide +kernel
theorem dX6_cell_24 : decode cX6_cell 24 = .ok (.aload_n 0, 1) := by decide +kernel
theorem dX6_cell_25 : decode cX6_cell 25 = .ok (.getfield 44, 3) := by decide +kernel
theorem dX6_cell_28 : decode cX6_cell 28 = .ok (.iload_n 1, 1) := by decide +kernel
theorem dX6_cell_29 : decode cX6_cell 29 = .ok (.iload_n 2, 1) := by decide +kernel
theorem dX6_cell_30 : decode cX6_cell 30 = .ok (.invokevirtual 237, 3) := by decide +kernel
theorem dX6_cell_33 : decode cX6_cell 33 = .ok (.ifCond .ne 6, 3) := by decide +kernel
theorem dX6_cell_36 : decode cX6_cell 36 = .ok (.bipush (-12), 2) := by decide +kernel
theorem dX6_cell_38 : decode cX6_cell 38 = .ok (.ireturn, 1) := by decide +kernel
theorem dX6_cell_39 : decode cX6_cell 39 = .ok (.aload_n 0, 1) := by decide +kernel
theorem dX6_cell_40 : decode cX6_cell 40 = .ok (.getfield 44, 3) := by decide +kernel
theorem dX6_cell_43 : decode cX6_cell 43 = .ok (.iload_n 1, 1) := by decide +kernel
theorem dX6_cell_44 : decode cX6_cell 44 = .ok (.iload_n 2, 1) := by decide +kernel
theorem dX6_cell_45 : decode cX6_cell 45 = .ok (.iload_n 3, 1) := by decide +kernel
theorem dX6_cell_46 : decode cX6_cell 46 = .ok (.invokevirtual 217, 3) := by decide +kernel
theorem dX6_cell_49 : decode cX6_cell 49 = .ok (.iconst 1, 1) := by decide +kernel
theorem dX6_cell_50 : decode cX6_cell 50 = .ok (.ireturn, 1) := by decide +kernel
theorem dX6_copy_0 : decode cX6_copy 0 = .ok (.iload_n 1, 1) := by decide +kernel
theorem dX6_copy_1 : decode cX6_copy 1 = .ok (.invokestatic 211, 3) := by decide +kernel
theorem dX6_copy_4 : decode cX6_copy 4 = .ok (.ifCond .eq 10, 3) := by decide +kernel
theorem dX6_copy_7 : decode cX6_copy 7 = .ok (.iload_n 3, 1) := by decide +kernel
theorem dX6_copy_8 : decode cX6_copy 8 = .ok (.invokestatic 211, 3) := by decide +kernel
theorem dX6_copy_11 : decode cX6_copy 11 = .ok (.ifCond .ne 6, 3) := by decide +kernel
theorem dX6_copy_14 : decode cX6_copy 14 = .ok (.bipush (-2), 2) := by decide +kernel
theorem dX6_copy_16 : decode cX6_copy 16 = .ok (.ireturn, 1) := by decide +kernel
theorem dX6_copy_17 : decode cX6_copy 17 = .ok (.aload_n 0, 1) := by decide +kernel
theorem dX6_copy_18 : decode cX6_copy 18 = .ok (.getfield 44, 3) := by decide +kernel
theorem dX6_copy_21 : decode cX6_copy 21 = .ok (.iload_n 1, 1) := by decide +kernel
theorem dX6_copy_22 : decode cX6_copy 22 = .ok (.invokevirtual 234, 3) := by decide +kernel
theorem dX6_copy_25 : decode cX6_copy 25 = .ok (.ifCond .ne 14, 3) := by decide +kernel
theorem dX6_copy_28 : decode cX6_copy 28 = .ok (.aload_n 0, 1) := by decide +kernel
theorem dX6_copy_29 : decode cX6_copy 29 = .ok (.getfield 44, 3) := by decide +kernel
theorem dX6_copy_32 : decode cX6_copy 32 = .ok (.iload_n 3, 1) := by decide +kernel
theorem dX6_copy_33 : decode cX6_copy 33 = .ok (.invokevirtual 234, 3) := by decide +kernel
theorem dX6_copy_36 : decode cX6_copy 36 = .ok (.ifCond .eq 6, 3) := by decide +kernel
theorem dX6_copy_39 : decode cX6_copy 39 = .ok (.bipush (-11), 2) := by decide +kernel
theorem dX6_copy_41 : decode cX6_copy 41 = .ok (.ireturn, 1) := by decide +kernel
theorem dX6_copy_42 : decode cX6_copy 42 = .ok (.aload_n 0, 1) := by decide +kernel
theorem dX6_copy_43 : decode cX6_copy 43 = .ok (.getfield 44, 3) := by decide +kernel
theorem dX6_copy_46 : decode cX6_copy 46 = .ok (.getfield 240, 3) := by decide +kernel
theorem dX6_copy_49 : decode cX6_copy 49 = .ok (.iload_n 1, 1) := by decide +kernel
theorem dX6_copy_50 : decode cX6_copy 50 = .ok (.iaload, 1) := by decide +kernel
theorem dX6_copy_51 : decode cX6_copy 51 = .ok (.aload_n 0, 1) := by decide +kernel
theorem dX6_copy_52 : decode cX6_copy 52 = .ok (.getfield 44, 3) := by decide +kernel
theorem dX6_copy_55 : decode cX6_copy 55 = .ok (.getfield 240, 3) := by decide +kernel
theorem dX6_copy_58 : decode cX6_copy 58 = .ok (.iload_n 3, 1) := by decide +kernel
theorem dX6_copy_59 : decode cX6_copy 59 = .ok (.iaload, 1) := by decide +kernel
theorem dX6_copy_60 : decode cX6_copy 60 = .ok (.if_icmp .eq 6, 3) := by decide +kernel
theorem dX6_copy_63 : decode cX6_copy 63 = .ok (.bipush (-13), 2) := by decide +kernel
theorem dX6_copy_65 : decode cX6_copy 65 = .ok (.ireturn, 1) := by decide +kernel
theorem dX6_copy_66 : decode cX6_copy 66 = .ok (.aload_n 0, 1) := by decide +kernel
theorem dX6_copy_67 : decode cX6_copy 67 = .ok (.getfield 44, 3) := by decide +kernel
theorem dX6_copy_70 : decode cX6_copy 70 = .ok (.iload_n 1, 1) := by decide +kernel
theorem dX6_copy_71 : decode cX6_copy 71 = .ok (.iload_n 2, 1) := by decide +kernel
theorem dX6_copy_72 : decode cX6_copy 72 = .ok (.iload 5, 2) := by decide +kernel
theorem dX6_copy_74 : decode cX6_copy 74 = .ok (.invokevirtual 243, 3) := by decide +kernel
theorem dX6_copy_77 : decode cX6_copy 77 = .ok (.ifCond .eq 18, 3) := by decide +kernel
theorem dX6_copy_80 : decode cX6_copy 80 = .ok (.aload_n 0, 1) := by decide +kernel
theorem dX6_copy_81 : decode cX6_copy 81 = .ok (.getfield 44, 3) := by decide +kernel
theorem dX6_copy_84 : decode cX6_copy 84 = .ok (.iload_n 3, 1) := by decide +kernel
theorem dX6_copy_85 : decode cX6_copy 85 = .ok (.iload 4, 2) := by decide +kernel
theorem dX6_copy_87 : decode cX6_copy 87 = .ok (.iload 5, 2) := by decide +kernel
theorem dX6_copy_89 : decode cX6_copy 89 = .ok (.invokevirtual 243, 3) := by decide +kernel
theorem dX6_copy_92 : decode cX6_copy 92 = .ok (.ifCond .ne 6, 3) := by decide +kernel
theorem dX6_copy_95 : decode cX6_copy 95 = .ok (.bipush (-12), 2) := by decide +kernel
theorem dX6_copy_97 : decode cX6_copy 97 = .ok (.ireturn, 1) := by decide +kernel
theorem dX6_copy_98 : decode cX6_copy 98 = .ok (.aload_n 0, 1) := by decide +kernel
theorem dX6_copy_99 : decode cX6_copy 99 = .ok (.getfield 44, 3) := by decide +kernel
theorem dX6_copy_102 : decode cX6_copy 102 = .ok (.iload_n 1, 1) := by decide +kernel
theorem dX6_copy_103 : decode cX6_copy 103 = .ok (.iload_n 2, 1) := by decide +kernel
theorem dX6_copy_104 : decode cX6_copy 104 = .ok (.iload_n 3, 1) := by decide +kernel
theorem dX6_copy_105 : decode cX6_copy 105 = .ok (.iload 4, 2) := by decide +kernel
theorem dX6_copy_107 : decode cX6_copy 107 = .ok (.iload 5, 2) := by decide +kernel
theorem dX6_copy_109 : decode cX6_copy 109 = .ok (.invokevirtual 247, 3) := by decide +kernel
theorem dX6_copy_112 : decode cX6_copy 112 = .ok (.iload 5, 2) := by decide +kernel
theorem dX6_copy_114 : decode cX6_copy 114 = .ok (.ireturn, 1) := by decide +kernel
theorem dX6_buyBy_0 : decode cX6_buyBy 0 = .ok (.iload_n 1, 1) := by decide +kernel
theorem dX6_buyBy_1 : decode cX6_buyBy 1 = .ok (.invokestatic 211, 3) := by decide +kernel
theorem dX6_buyBy_4 : decode cX6_buyBy 4 = .ok (.ifCond .eq 24, 3) := by decide +kernel
theorem dX6_buyBy_7 : decode cX6_buyBy 7 = .ok (.iload_n 2, 1) := by decide +kernel
theorem dX6_buyBy_8 : decode cX6_buyBy 8 = .ok (.ifCond .lt 20, 3) := by decide +kernel
theorem dX6_buyBy_11 : decode cX6_buyBy 11 = .ok (.iload_n 2, 1) := by decide +kernel
theorem dX6_buyBy_12 : decode cX6_buyBy 12 = .ok (.iconst 2, 1) := by decide +kernel
theorem dX6_buyBy_13 : decode cX6_buyBy 13 = .ok (.if_icmp .gt 15, 3) := by decide +kernel
theorem dX6_buyBy_16 : decode cX6_buyBy 16 = .ok (.iload 4, 2) := by decide +kernel
theorem dX6_buyBy_18 : decode cX6_buyBy 18 = .ok (.ifCond .lt 10, 3) := by decide +kernel
theorem dX6_buyBy_21 : decode cX6_buyBy 21 = .ok (.iload 4, 2) := by decide +kernel
theorem dX6_buyBy_23 : decode cX6_buyBy 23 = .ok (.bipush 8, 2) := by decide +kernel
theorem dX6_buyBy_25 : decode cX6_buyBy 25 = .ok (.if_icmp .le 6, 3) := by decide +kernel
theorem dX6_buyBy_28 : decode cX6_buyBy 28 = .ok (.bipush (-2), 2) := by decide +kernel
theorem dX6_buyBy_30 : decode cX6_buyBy 30 = .ok (.ireturn, 1) := by decide +kernel
theorem dX6_buyBy_31 : decode cX6_buyBy 31 = .ok (.aload_n 0, 1) := by decide +kernel
theorem dX6_buyBy_32 : decode cX6_buyBy 32 = .ok (.getfield 44, 3) := by decide +kernel
theorem dX6_buyBy_35 : decode cX6_buyBy 35 = .ok (.iload_n 1, 1) := by decide +kernel
theorem dX6_buyBy_36 : decode cX6_buyBy 36 = .ok (.invokevirtual 234, 3) := by decide +kernel
theorem dX6_buyBy_39 : decode cX6_buyBy 39 = .ok (.ifCond .eq 6, 3) := by decide +kernel
theorem dX6_buyBy_42 : decode cX6_buyBy 42 = .ok (.bipush (-11), 2) := by decide +kernel
theorem dX6_buyBy_44 : decode cX6_buyBy 44 = .ok (.ireturn, 1) := by decide +kernel
theorem dX6_buyBy_45 : decode cX6_buyBy 45 = .ok (.aload_n 0, 1) := by decide +kernel
theorem dX6_buyBy_46 : decode cX6_buyBy 46 = .ok (.getfield 44, 3) := by decide +kernel
theorem dX6_buyBy_49 : decode cX6_buyBy 49 = .ok (.getfield 240, 3) := by decide +kernel
theorem dX6_buyBy_52 : decode cX6_buyBy 52 = .ok (.iload_n 1, 1) := by decide +kernel
theorem dX6_buyBy_53 : decode cX6_buyBy 53 = .ok (.iaload, 1) := by decide +kernel
theorem dX6_buyBy_54 : decode cX6_buyBy 54 = .ok (.iload_n 2, 1) := by decide +kernel
theorem dX6_buyBy_55 : decode cX6_buyBy 55 = .ok (.if_icmp .eq 6, 3) := by decide +kernel
theorem dX6_buyBy_58 : decode cX6_buyBy 58 = .ok (.bipush (-13), 2) := by decide +kernel
theorem dX6_buyBy_60 : decode cX6_buyBy 60 = .ok (.ireturn, 1) := by decide +kernel
theorem dX6_buyBy_61 : decode cX6_buyBy 61 = .ok (.iconst 0, 1) := by decide +kernel
theorem dX6_buyBy_62 : decode cX6_buyBy 62 = .ok (.istore 5, 2) := by decide +kernel
theorem dX6_buyBy_64 : decode cX6_buyBy 64 = .ok (.iconst 0, 1) := by decide +kernel
theorem dX6_buyBy_65 : decode cX6_buyBy 65 = .ok (.istore 6, 2) := by decide +kernel
theorem dX6_buyBy_67 : decode cX6_buyBy 67 = .ok (.iload 6, 2) := by decide +kernel
theorem dX6_buyBy_69 : decode cX6_buyBy 69 = .ok (.iload 4, 2) := by decide +kernel
theorem dX6_buyBy_71 : decode cX6_buyBy 71 = .ok (.if_icmp .ge 80, 3) := by decide +kernel
theorem dX6_buyBy_74 : decode cX6_buyBy 74 = .ok (.iload_n 3, 1) := by decide +kernel
theorem dX6_buyBy_75 : decode cX6_buyBy 75 = .ok (.iconst 2, 1) := by decide +kernel
theorem dX6_buyBy_76 : decode cX6_buyBy 76 = .ok (.iload 6, 2) := by decide +kernel
theorem dX6_buyBy_78 : decode cX6_buyBy 78 = .ok (.imul, 1) := by decide +kernel
theorem dX6_buyBy_79 : decode cX6_buyBy 79 = .ok (.iadd, 1) := by decide +kernel
theorem dX6_buyBy_80 : decode cX6_buyBy 80 = .ok (.istore 7, 2) := by decide +kernel
theorem dX6_buyBy_82 : decode cX6_buyBy 82 = .ok (.aload_n 0, 1) := by decide +kernel
theorem dX6_buyBy_83 : decode cX6_buyBy 83 = .ok (.getfield 44, 3) := by decide +kernel
theorem dX6_buyBy_86 : decode cX6_buyBy 86 = .ok (.iload_n 1, 1) := by decide +kernel
theorem dX6_buyBy_87 : decode cX6_buyBy 87 = .ok (.iload 7, 2) := by decide +kernel
theorem dX6_buyBy_89 : decode cX6_buyBy 89 = .ok (.invokevirtual 237, 3) := by decide +kernel
theorem dX6_buyBy_92 : decode cX6_buyBy 92 = .ok (.ifCond .eq 18, 3) := by decide +kernel
theorem dX6_buyBy_95 : decode cX6_buyBy 95 = .ok (.aload_n 0, 1) := by decide +kernel
theorem dX6_buyBy_96 : decode cX6_buyBy 96 = .ok (.getfield 44, 3) := by decide +kernel
theorem dX6_buyBy_99 : decode cX6_buyBy 99 = .ok (.iload_n 1, 1) := by decide +kernel
theorem dX6_buyBy_100 : decode cX6_buyBy 100 = .ok (.iload 7, 2) := by decide +kernel
theorem dX6_buyBy_102 : decode cX6_buyBy 102 = .ok (.iconst 1, 1) := by decide +kernel
theorem dX6_buyBy_103 : decode cX6_buyBy 103 = .ok (.iadd, 1) := by decide +kernel
theorem dX6_buyBy_104 : decode cX6_buyBy 104 = .ok (.invokevirtual 237, 3) := by decide +kernel
theorem dX6_buyBy_107 : decode cX6_buyBy 107 = .ok (.ifCond .ne 6, 3) := by decide +kernel
theorem dX6_buyBy_110 : decode cX6_buyBy 110 = .ok (.bipush (-12), 2) := by decide +kernel
theorem dX6_buyBy_112 : decode cX6_buyBy 112 = .ok (.ireturn, 1) := by decide +kernel
theorem dX6_buyBy_113 : decode cX6_buyBy 113 = .ok (.aload_n 0, 1) := by decide +kernel
theorem dX6_buyBy_114 : decode cX6_buyBy 114 = .ok (.aload_n 0, 1) := by decide +kernel
theorem dX6_buyBy_115 : decode cX6_buyBy 115 = .ok (.getfield 44, 3) := by decide +kernel
theorem dX6_buyBy_118 : decode cX6_buyBy 118 = .ok (.iload_n 1, 1) := by decide +kernel
theorem dX6_buyBy_119 : decode cX6_buyBy 119 = .ok (.iload 7, 2) := by decide +kernel
theorem dX6_buyBy_121 : decode cX6_buyBy 121 = .ok (.invokevirtual 251, 3) := by decide +kernel
theorem dX6_buyBy_124 : decode cX6_buyBy 124 = .ok (.aload_n 0, 1) := by decide +kernel
theorem dX6_buyBy_125 : decode cX6_buyBy 125 = .ok (.getfield 44, 3) := by decide +kernel
theorem dX6_buyBy_128 : decode cX6_buyBy 128 = .ok (.iload_n 1, 1) := by decide +kernel
theorem dX6_buyBy_129 : decode cX6_buyBy 129 = .ok (.iload 7, 2) := by decide +kernel
theorem dX6_buyBy_131 : decode cX6_buyBy 131 = .ok (.iconst 1, 1) := by decide +kernel
theorem dX6_buyBy_132 : decode cX6_buyBy 132 = .ok (.iadd, 1) := by decide +kernel
theorem dX6_buyBy_133 : decode cX6_buyBy 133 = .ok (.invokevirtual 251, 3) := by decide +kernel
theorem dX6_buyBy_136 : decode cX6_buyBy 136 = .ok (.invokevirtual 254, 3) := by decide +kernel
theorem dX6_buyBy_139 : decode cX6_buyBy 139 = .ok (.ifCond .lt 6, 3) := by decide +kernel
theorem dX6_buyBy_142 : decode cX6_buyBy 142 = .ok (.iinc 5 1, 3) := by decide +kernel
theorem dX6_buyBy_145 : decode cX6_buyBy 145 = .ok (.iinc 6 1, 3) := by decide +kernel
theorem dX6_buyBy_148 : decode cX6_buyBy 148 = .ok (.goto (-81), 3) := by decide +kernel
theorem dX6_buyBy_151 : decode cX6_buyBy 151 = .ok (.iload 5, 2) := by decide +kernel
theorem dX6_buyBy_153 : decode cX6_buyBy 153 = .ok (.ireturn, 1) := by decide +kernel
theorem dX6_taken_0 : decode cX6_taken 0 = .ok (.iload_n 2, 1) := by decide +kernel
theorem dX6_taken_1 : decode cX6_taken 1 = .ok (.ifCond .lt 9, 3) := by decide +kernel
theorem dX6_taken_4 : decode cX6_taken 4 = .ok (.iload_n 2, 1) := by decide +kernel
theorem dX6_taken_5 : decode cX6_taken 5 = .ok (.bipush 6, 2) := by decide +kernel
theorem dX6_taken_7 : decode cX6_taken 7 = .ok (.if_icmp .le 6, 3) := by decide +kernel
theorem dX6_taken_10 : decode cX6_taken 10 = .ok (.bipush (-2), 2) := by decide +kernel
theorem dX6_taken_12 : decode cX6_taken 12 = .ok (.ireturn, 1) := by decide +kernel
theorem dX6_taken_13 : decode cX6_taken 13 = .ok (.iload_n 1, 1) := by decide +kernel
theorem dX6_taken_14 : decode cX6_taken 14 = .ok (.ifCond .lt 9, 3) := by decide +kernel
theorem dX6_taken_17 : decode cX6_taken 17 = .ok (.iload_n 1, 1) := by decide +kernel
theorem dX6_taken_18 : decode cX6_taken 18 = .ok (.bipush 16, 2) := by decide +kernel
theorem dX6_taken_20 : decode cX6_taken 20 = .ok (.if_icmp .lt 6, 3) := by decide +kernel
theorem dX6_taken_23 : decode cX6_taken 23 = .ok (.bipush (-12), 2) := by decide +kernel
theorem dX6_taken_25 : decode cX6_taken 25 = .ok (.ireturn, 1) := by decide +kernel
theorem dX6_taken_26 : decode cX6_taken 26 = .ok (.iload_n 1, 1) := by decide +kernel
theorem dX6_taken_27 : decode cX6_taken 27 = .ok (.bipush 8, 2) := by decide +kernel
theorem dX6_taken_29 : decode cX6_taken 29 = .ok (.if_icmp .lt 43, 3) := by decide +kernel
theorem dX6_taken_32 : decode cX6_taken 32 = .ok (.iload_n 1, 1) := by decide +kernel
theorem dX6_taken_33 : decode cX6_taken 33 = .ok (.bipush 8, 2) := by decide +kernel
theorem dX6_taken_35 : decode cX6_taken 35 = .ok (.isub, 1) := by decide +kernel
theorem dX6_taken_36 : decode cX6_taken 36 = .ok (.istore_n 3, 1) := by decide +kernel
theorem dX6_taken_37 : decode cX6_taken 37 = .ok (.aload_n 0, 1) := by decide +kernel
theorem dX6_taken_38 : decode cX6_taken 38 = .ok (.iload_n 3, 1) := by decide +kernel
theorem dX6_taken_39 : decode cX6_taken 39 = .ok (.invokevirtual 123, 3) := by decide +kernel
theorem dX6_taken_42 : decode cX6_taken 42 = .ok (.ifCond .ne 6, 3) := by decide +kernel
theorem dX6_taken_45 : decode cX6_taken 45 = .ok (.bipush (-11), 2) := by decide +kernel
theorem dX6_taken_47 : decode cX6_taken 47 = .ok (.ireturn, 1) := by decide +kernel
theorem dX6_taken_48 : decode cX6_taken 48 = .ok (.iload_n 2, 1) := by decide +kernel
theorem dX6_taken_49 : decode cX6_taken 49 = .ok (.bipush 6, 2) := by decide +kernel
theorem dX6_taken_51 : decode cX6_taken 51 = .ok (.if_icmp .ne 18, 3) := by decide +kernel
theorem dX6_taken_54 : decode cX6_taken 54 = .ok (.aload_n 0, 1) := by decide +kernel
theorem dX6_taken_55 : decode cX6_taken 55 = .ok (.getfield 28, 3) := by decide +kernel
theorem dX6_taken_58 : decode cX6_taken 58 = .ok (.getfield 52, 3) := by decide +kernel
theorem dX6_taken_61 : decode cX6_taken 61 = .ok (.iload_n 3, 1) := by decide +kernel
theorem dX6_taken_62 : decode cX6_taken 62 = .ok (.iconst 2, 1) := by decide +kernel
theorem dX6_taken_63 : decode cX6_taken 63 = .ok (.invokevirtual 130, 3) := by decide +kernel
theorem dX6_taken_66 : decode cX6_taken 66 = .ok (.goto 5, 3) := by decide +kernel
theorem dX6_taken_69 : decode cX6_taken 69 = .ok (.bipush (-13), 2) := by decide +kernel
theorem dX6_taken_71 : decode cX6_taken 71 = .ok (.ireturn, 1) := by decide +kernel
theorem dX6_taken_72 : decode cX6_taken 72 = .ok (.aload_n 0, 1) := by decide +kernel
theorem dX6_taken_73 : decode cX6_taken 73 = .ok (.getfield 28, 3) := by decide +kernel
theorem dX6_taken_76 : decode cX6_taken 76 = .ok (.getfield 62, 3) := by decide +kernel
theorem dX6_taken_79 : decode cX6_taken 79 = .ok (.iload_n 1, 1) := by decide +kernel
theorem dX6_taken_80 : decode cX6_taken 80 = .ok (.invokevirtual 137, 3) := by decide +kernel
theorem dX6_taken_83 : decode cX6_taken 83 = .ok (.ifCond .ne 6, 3) := by decide +kernel
theorem dX6_taken_86 : decode cX6_taken 86 = .ok (.bipush (-11), 2) := by decide +kernel
theorem dX6_taken_88 : decode cX6_taken 88 = .ok (.ireturn, 1) := by decide +kernel
theorem dX6_taken_89 : decode cX6_taken 89 = .ok (.aload_n 0, 1) := by decide +kernel
theorem dX6_taken_90 : decode cX6_taken 90 = .ok (.getfield 28, 3) := by decide +kernel
theorem dX6_taken_93 : decode cX6_taken 93 = .ok (.getfield 62, 3) := by decide +kernel
theorem dX6_taken_96 : decode cX6_taken 96 = .ok (.iload_n 1, 1) := by decide +kernel
theorem dX6_taken_97 : decode cX6_taken 97 = .ok (.invokevirtual 140, 3) := by decide +kernel
theorem dX6_taken_100 : decode cX6_taken 100 = .ok (.istore_n 3, 1) := by decide +kernel
theorem dX6_taken_101 : decode cX6_taken 101 = .ok (.iload_n 2, 1) := by decide +kernel
theorem dX6_taken_102 : decode cX6_taken 102 = .ok (.bipush 6, 2) := by decide +kernel
theorem dX6_taken_104 : decode cX6_taken 104 = .ok (.if_icmp .eq 22, 3) := by decide +kernel
theorem dX6_taken_107 : decode cX6_taken 107 = .ok (.aload_n 0, 1) := by decide +kernel
theorem dX6_taken_108 : decode cX6_taken 108 = .ok (.getfield 28, 3) := by decide +kernel
theorem dX6_taken_111 : decode cX6_taken 111 = .ok (.getfield 52, 3) := by decide +kernel
theorem dX6_taken_114 : decode cX6_taken 114 = .ok (.iload_n 3, 1) := by decide +kernel
theorem dX6_taken_115 : decode cX6_taken 115 = .ok (.iload_n 2, 1) := by decide +kernel
theorem dX6_taken_116 : decode cX6_taken 116 = .ok (.invokevirtual 257, 3) := by decide +kernel
theorem dX6_taken_119 : decode cX6_taken 119 = .ok (.ifCond .eq 7, 3) := by decide +kernel
theorem dX6_taken_122 : decode cX6_taken 122 = .ok (.iload_n 3, 1) := by decide +kernel
theorem dX6_taken_123 : decode cX6_taken 123 = .ok (.goto 5, 3) := by decide +kernel
theorem dX6_taken_126 : decode cX6_taken 126 = .ok (.bipush (-13), 2) := by decide +kernel
theorem dX6_taken_128 : decode cX6_taken 128 = .ok (.ireturn, 1) := by decide +kernel
theorem dX6_isByte_0 : decode cX6_isByte 0 = .ok (.iload_n 0, 1) := by decide +kernel
theorem dX6_isByte_1 : decode cX6_isByte 1 = .ok (.ifCond .lt 14, 3) := by decide +kernel
theorem dX6_isByte_4 : decode cX6_isByte 4 = .ok (.iload_n 0, 1) := by decide +kernel
theorem dX6_isByte_5 : decode cX6_isByte 5 = .ok (.sipush 255, 3) := by decide +kernel
theorem dX6_isByte_8 : decode cX6_isByte 8 = .ok (.if_icmp .gt 7, 3) := by decide +kernel
theorem dX6_isByte_11 : decode cX6_isByte 11 = .ok (.iconst 1, 1) := by decide +kernel
theorem dX6_isByte_12 : decode cX6_isByte 12 = .ok (.goto 4, 3) := by decide +kernel
theorem dX6_isByte_15 : decode cX6_isByte 15 = .ok (.iconst 0, 1) := by decide +kernel
theorem dX6_isByte_16 : decode cX6_isByte 16 = .ok (.ireturn, 1) := by decide +kernel
theorem dX6_isWeeks_0 : decode cX6_isWeeks 0 = .ok (.iload_n 0, 1) := by decide +kernel
theorem dX6_isWeeks_1 : decode cX6_isWeeks 1 = .ok (.ifCond .lt 14, 3) := by decide +kernel
theorem dX6_isWeeks_4 : decode cX6_isWeeks 4 = .ok (.iload_n 0, 1) := by decide +kernel
theorem dX6_isWeeks_5 : decode cX6_isWeeks 5 = .ok (.sipush 200, 3) := by decide +kernel
theorem dX6_isWeeks_8 : decode cX6_isWeeks 8 = .ok (.if_icmp .gt 7, 3) := by decide +kernel
theorem dX6_isWeeks_11 : decode cX6_isWeeks 11 = .ok (.iconst 1, 1) := by decide +kernel
theorem dX6_isWeeks_12 : decode cX6_isWeeks 12 = .ok (.goto 4, 3) := by decide +kernel
theorem dX6_isWeeks_15 : decode cX6_isWeeks 15 = .ok (.iconst 0, 1) := by decide +kernel
theorem dX6_isWeeks_16 : decode cX6_isWeeks 16 = .ok (.ireturn, 1) := by decide +kernel
theorem dX6_isSeed_0 : decode cX6_isSeed 0 = .ok (.iload_n 0, 1) := by decide +kernel
theorem dX6_isSeed_1 : decode cX6_isSeed 1 = .ok (.ifCond .lt 14, 3) := by decide +kernel
theorem dX6_isSeed_4 : decode cX6_isSeed 4 = .ok (.iload_n 0, 1) := by decide +kernel
theorem dX6_isSeed_5 : decode cX6_isSeed 5 = .ok (.ldc_w 260, 3) := by decide +kernel
theorem dX6_isSeed_8 : decode cX6_isSeed 8 = .ok (.if_icmp .gt 7, 3) := by decide +kernel
theorem dX6_isSeed_11 : decode cX6_isSeed 11 = .ok (.iconst 1, 1) := by decide +kernel
theorem dX6_isSeed_12 : decode cX6_isSeed 12 = .ok (.goto 4, 3) := by decide +kernel
theorem dX6_isSeed_15 : decode cX6_isSeed 15 = .ok (.iconst 0, 1) := by decide +kernel
theorem dX6_isSeed_16 : decode cX6_isSeed 16 = .ok (.ireturn, 1) := by decide +kernel
theorem dX6_isSheet_0 : decode cX6_isSheet 0 = .ok (.iload_n 0, 1) := by decide +kernel
theorem dX6_isSheet_1 : decode cX6_isSheet 1 = .ok (.ifCond .lt 12, 3) := by decide +kernel
theorem dX6_isSheet_4 : decode cX6_isSheet 4 = .ok (.iload_n 0, 1) := by decide +kernel
theorem dX6_isSheet_5 : decode cX6_isSheet 5 = .ok (.iconst 4, 1) := by decide +kernel
theorem dX6_isSheet_6 : decode cX6_isSheet 6 = .ok (.if_icmp .ge 7, 3) := by decide +kernel
theorem dX6_isSheet_9 : decode cX6_isSheet 9 = .ok (.iconst 1, 1) := by decide +kernel
theorem dX6_isSheet_10 : decode cX6_isSheet 10 = .ok (.goto 4, 3) := by decide +kernel
theorem dX6_isSheet_13 : decode cX6_isSheet 13 = .ok (.iconst 0, 1) := by decide +kernel
theorem dX6_isSheet_14 : decode cX6_isSheet 14 = .ok (.ireturn, 1) := by decide +kernel
theorem dX6_isLinen_0 : decode cX6_isLinen 0 = .ok (.iload_n 1, 1) := by decide +kernel
theorem dX6_isLinen_1 : decode cX6_isLinen 1 = .ok (.ifCond .lt 21, 3) := by decide +kernel
theorem dX6_isLinen_4 : decode cX6_isLinen 4 = .ok (.iload_n 1, 1) := by decide +kernel
theorem dX6_isLinen_5 : decode cX6_isLinen 5 = .ok (.aload_n 0, 1) := by decide +kernel
theorem dX6_isLinen_6 : decode cX6_isLinen 6 = .ok (.getfield 28, 3) := by decide +kernel
theorem dX6_isLinen_9 : decode cX6_isLinen 9 = .ok (.getfield 52, 3) := by decide +kernel
theorem dX6_isLinen_12 : decode cX6_isLinen 12 = .ok (.getfield 56, 3) := by decide +kernel
theorem dX6_isLinen_15 : decode cX6_isLinen 15 = .ok (.if_icmp .ge 7, 3) := by decide +kernel
theorem dX6_isLinen_18 : decode cX6_isLinen 18 = .ok (.iconst 1, 1) := by decide +kernel
theorem dX6_isLinen_19 : decode cX6_isLinen 19 = .ok (.goto 4, 3) := by decide +kernel
theorem dX6_isLinen_22 : decode cX6_isLinen 22 = .ok (.iconst 0, 1) := by decide +kernel
theorem dX6_isLinen_23 : decode cX6_isLinen 23 = .ok (.ireturn, 1) := by decide +kernel
theorem dX6_thinks_0 : decode cX6_thinks 0 = .ok (.aload_n 0, 1) := by decide +kernel
theorem dX6_thinks_1 : decode cX6_thinks 1 = .ok (.getfield 35, 3) := by decide +kernel
theorem dX6_thinks_4 : decode cX6_thinks 4 = .ok (.aload_n 0, 1) := by decide +kernel
theorem dX6_thinks_5 : decode cX6_thinks 5 = .ok (.getfield 28, 3) := by decide +kernel
theorem dX6_thinks_8 : decode cX6_thinks 8 = .ok (.invokevirtual 188, 3) := by decide +kernel
theorem dX6_thinks_11 : decode cX6_thinks 11 = .ok (.aload_n 0, 1) := by decide +kernel
theorem dX6_thinks_12 : decode cX6_thinks 12 = .ok (.getfield 35, 3) := by decide +kernel
theorem dX6_thinks_15 : decode cX6_thinks 15 = .ok (.iload_n 1, 1) := by decide +kernel
theorem dX6_thinks_16 : decode cX6_thinks 16 = .ok (.invokevirtual 192, 3) := by decide +kernel
theorem dX6_thinks_19 : decode cX6_thinks 19 = .ok (.return_, 1) := by decide +kernel
theorem dX6_thinksWith_0 : decode cX6_thinksWith 0 = .ok (.aload_n 0, 1) := by decide +kernel
theorem dX6_thinksWith_1 : decode cX6_thinksWith 1 = .ok (.getfield 35, 3) := by decide +kernel
theorem dX6_thinksWith_4 : decode cX6_thinksWith 4 = .ok (.aload_n 0, 1) := by decide +kernel
theorem dX6_thinksWith_5 : decode cX6_thinksWith 5 = .ok (.getfield 28, 3) := by decide +kernel
theorem dX6_thinksWith_8 : decode cX6_thinksWith 8 = .ok (.invokevirtual 188, 3) := by decide +kernel
theorem dX6_thinksWith_11 : decode cX6_thinksWith 11 = .ok (.iload_n 1, 1) := by decide +kernel
theorem dX6_thinksWith_12 : decode cX6_thinksWith 12 = .ok (.ifCond .lt 18, 3) := by decide +kernel
theorem dX6_thinksWith_15 : decode cX6_thinksWith 15 = .ok (.iload_n 1, 1) := by decide +kernel
theorem dX6_thinksWith_16 : decode cX6_thinksWith 16 = .ok (.iconst 4, 1) := by decide +kernel
theorem dX6_thinksWith_17 : decode cX6_thinksWith 17 = .ok (.if_icmp .ge 13, 3) := by decide +kernel
theorem dX6_thinksWith_20 : decode cX6_thinksWith 20 = .ok (.aload_n 0, 1) := by decide +kernel
theorem dX6_thinksWith_21 : decode cX6_thinksWith 21 = .ok (.getfield 35, 3) := by decide +kernel
theorem dX6_thinksWith_24 : decode cX6_thinksWith 24 = .ok (.getfield 71, 3) := by decide +kernel
theorem dX6_thinksWith_27 : decode cX6_thinksWith 27 = .ok (.iload_n 1, 1) := by decide +kernel
theorem dX6_thinksWith_28 : decode cX6_thinksWith 28 = .ok (.iload_n 2, 1) := by decide +kernel
theorem dX6_thinksWith_29 : decode cX6_thinksWith 29 = .ok (.iastore, 1) := by decide +kernel
theorem dX6_thinksWith_30 : decode cX6_thinksWith 30 = .ok (.aload_n 0, 1) := by decide +kernel
theorem dX6_thinksWith_31 : decode cX6_thinksWith 31 = .ok (.getfield 35, 3) := by decide +kernel
theorem dX6_thinksWith_34 : decode cX6_thinksWith 34 = .ok (.iload_n 3, 1) := by decide +kernel
theorem dX6_thinksWith_35 : decode cX6_thinksWith 35 = .ok (.invokevirtual 192, 3) := by decide +kernel
theorem dX6_thinksWith_38 : decode cX6_thinksWith 38 = .ok (.return_, 1) := by decide +kernel
theorem dX6_thinksByRules_0 : decode cX6_thinksByRules 0 = .ok (.aload_n 0, 1) := by decide +kernel
theorem dX6_thinksByRules_1 : decode cX6_thinksByRules 1 = .ok (.getfield 35, 3) := by decide +kernel
theorem dX6_thinksByRules_4 : decode cX6_thinksByRules 4 = .ok (.aload_n 0, 1) := by decide +kernel
theorem dX6_thinksByRules_5 : decode cX6_thinksByRules 5 = .ok (.getfield 28, 3) := by decide +kernel
theorem dX6_thinksByRules_8 : decode cX6_thinksByRules 8 = .ok (.invokevirtual 188, 3) := by decide +kernel
theorem dX6_thinksByRules_11 : decode cX6_thinksByRules 11 = .ok (.aload_n 0, 1) := by decide +kernel
theorem dX6_thinksByRules_12 : decode cX6_thinksByRules 12 = .ok (.getfield 35, 3) := by decide +kernel
theorem dX6_thinksByRules_15 : decode cX6_thinksByRules 15 = .ok (.getfield 71, 3) := by decide +kernel
theorem dX6_thinksByRules_18 : decode cX6_thinksByRules 18 = .ok (.iconst 2, 1) := by decide +kernel
theorem dX6_thinksByRules_19 : decode cX6_thinksByRules 19 = .ok (.iload_n 1, 1) := by decide +kernel
theorem dX6_thinksByRules_20 : decode cX6_thinksByRules 20 = .ok (.iconst 3, 1) := by decide +kernel
theorem dX6_thinksByRules_21 : decode cX6_thinksByRules 21 = .ok (.idiv, 1) := by decide +kernel
theorem dX6_thinksByRules_22 : decode cX6_thinksByRules 22 = .ok (.iastore, 1) := by decide +kernel
theorem dX6_thinksByRules_23 : decode cX6_thinksByRules 23 = .ok (.aload_n 0, 1) := by decide +kernel
theorem dX6_thinksByRules_24 : decode cX6_thinksByRules 24 = .ok (.getfield 35, 3) := by decide +kernel
theorem dX6_thinksByRules_27 : decode cX6_thinksByRules 27 = .ok (.getfield 71, 3) := by decide +kernel
theorem dX6_thinksByRules_30 : decode cX6_thinksByRules 30 = .ok (.iconst 3, 1) := by decide +kernel
theorem dX6_thinksByRules_31 : decode cX6_thinksByRules 31 = .ok (.iload_n 1, 1) := by decide +kernel
theorem dX6_thinksByRules_32 : decode cX6_thinksByRules 32 = .ok (.iconst 3, 1) := by decide +kernel
theorem dX6_thinksByRules_33 : decode cX6_thinksByRules 33 = .ok (.irem, 1) := by decide +kernel
theorem dX6_thinksByRules_34 : decode cX6_thinksByRules 34 = .ok (.iastore, 1) := by decide +kernel
theorem dX6_thinksByRules_35 : decode cX6_thinksByRules 35 = .ok (.aload_n 0, 1) := by decide +kernel
theorem dX6_thinksByRules_36 : decode cX6_thinksByRules 36 = .ok (.getfield 35, 3) := by decide +kernel
theorem dX6_thinksByRules_39 : decode cX6_thinksByRules 39 = .ok (.iload_n 2, 1) := by decide +kernel
theorem dX6_thinksByRules_40 : decode cX6_thinksByRules 40 = .ok (.invokevirtual 192, 3) := by decide +kernel
theorem dX6_thinksByRules_43 : decode cX6_thinksByRules 43 = .ok (.return_, 1) := by decide +kernel
theorem dX6_markOfLasting_0 : decode cX6_markOfLasting 0 = .ok (.aload_n 0, 1) := by decide +kernel
theorem dX6_markOfLasting_1 : decode cX6_markOfLasting 1 = .ok (.getfield 35, 3) := by decide +kernel
theorem dX6_markOfLasting_4 : decode cX6_markOfLasting 4 = .ok (.getfield 170, 3) := by decide +kernel
theorem dX6_markOfLasting_7 : decode cX6_markOfLasting 7 = .ok (.iconst (-1), 1) := by decide +kernel
theorem dX6_markOfLasting_8 : decode cX6_markOfLasting 8 = .ok (.if_icmp .ne 7, 3) := by decide +kernel
theorem dX6_markOfLasting_11 : decode cX6_markOfLasting 11 = .ok (.iload_n 1, 1) := by decide +kernel
theorem dX6_markOfLasting_12 : decode cX6_markOfLasting 12 = .ok (.goto 10, 3) := by decide +kernel
theorem dX6_markOfLasting_15 : decode cX6_markOfLasting 15 = .ok (.aload_n 0, 1) := by decide +kernel
theorem dX6_markOfLasting_16 : decode cX6_markOfLasting 16 = .ok (.getfield 35, 3) := by decide +kernel
theorem dX6_markOfLasting_19 : decode cX6_markOfLasting 19 = .ok (.getfield 170, 3) := by decide +kernel
theorem dX6_markOfLasting_22 : decode cX6_markOfLasting 22 = .ok (.istore_n 2, 1) := by decide +kernel
theorem dX6_markOfLasting_23 : decode cX6_markOfLasting 23 = .ok (.aload_n 0, 1) := by decide +kernel
theorem dX6_markOfLasting_24 : decode cX6_markOfLasting 24 = .ok (.getfield 35, 3) := by decide +kernel
theorem dX6_markOfLasting_27 : decode cX6_markOfLasting 27 = .ok (.getfield 52, 3) := by decide +kernel
theorem dX6_markOfLasting_30 : decode cX6_markOfLasting 30 = .ok (.invokevirtual 167, 3) := by decide +kernel
theorem dX6_markOfLasting_33 : decode cX6_markOfLasting 33 = .ok (.sipush 201, 3) := by decide +kernel
theorem dX6_markOfLasting_36 : decode cX6_markOfLasting 36 = .ok (.imul, 1) := by decide +kernel
theorem dX6_markOfLasting_37 : decode cX6_markOfLasting 37 = .ok (.iload_n 2, 1) := by decide +kernel
theorem dX6_markOfLasting_38 : decode cX6_markOfLasting 38 = .ok (.iadd, 1) := by decide +kernel
theorem dX6_markOfLasting_39 : decode cX6_markOfLasting 39 = .ok (.ireturn, 1) := by decide +kernel
theorem dX6_refusalOfTelling_0 : decode cX6_refusalOfTelling 0 = .ok (.iload_n 1, 1) := by decide +kernel
theorem dX6_refusalOfTelling_1 : decode cX6_refusalOfTelling 1 = .ok (.invokestatic 211, 3) := by decide +kernel
theorem dX6_refusalOfTelling_4 : decode cX6_refusalOfTelling 4 = .ok (.ifCond .ne 6, 3) := by decide +kernel
theorem dX6_refusalOfTelling_7 : decode cX6_refusalOfTelling 7 = .ok (.bipush (-2), 2) := by decide +kernel
theorem dX6_refusalOfTelling_9 : decode cX6_refusalOfTelling 9 = .ok (.ireturn, 1) := by decide +kernel
theorem dX6_refusalOfTelling_10 : decode cX6_refusalOfTelling 10 = .ok (.aload_n 0, 1) := by decide +kernel
theorem dX6_refusalOfTelling_11 : decode cX6_refusalOfTelling 11 = .ok (.getfield 44, 3) := by decide +kernel
theorem dX6_refusalOfTelling_14 : decode cX6_refusalOfTelling 14 = .ok (.iload_n 1, 1) := by decide +kernel
theorem dX6_refusalOfTelling_15 : decode cX6_refusalOfTelling 15 = .ok (.invokevirtual 234, 3) := by decide +kernel
theorem dX6_refusalOfTelling_18 : decode cX6_refusalOfTelling 18 = .ok (.ifCond .eq 6, 3) := by decide +kernel
theorem dX6_refusalOfTelling_21 : decode cX6_refusalOfTelling 21 = .ok (.bipush (-11), 2) := by decide +kernel
theorem dX6_refusalOfTelling_23 : decode cX6_refusalOfTelling 23 = .ok (.ireturn, 1) := by decide +kernel
theorem dX6_refusalOfTelling_24 : decode cX6_refusalOfTelling 24 = .ok (.aload_n 0, 1) := by decide +kernel
theorem dX6_refusalOfTelling_25 : decode cX6_refusalOfTelling 25 = .ok (.getfield 44, 3) := by decide +kernel
theorem dX6_refusalOfTelling_28 : decode cX6_refusalOfTelling 28 = .ok (.getfield 261, 3) := by decide +kernel
theorem dX6_refusalOfTelling_31 : decode cX6_refusalOfTelling 31 = .ok (.iload_n 1, 1) := by decide +kernel
theorem dX6_refusalOfTelling_32 : decode cX6_refusalOfTelling 32 = .ok (.iaload, 1) := by decide +kernel
theorem dX6_refusalOfTelling_33 : decode cX6_refusalOfTelling 33 = .ok (.aload_n 0, 1) := by decide +kernel
theorem dX6_refusalOfTelling_34 : decode cX6_refusalOfTelling 34 = .ok (.getfield 28, 3) := by decide +kernel
theorem dX6_refusalOfTelling_37 : decode cX6_refusalOfTelling 37 = .ok (.getfield 52, 3) := by decide +kernel
theorem dX6_refusalOfTelling_40 : decode cX6_refusalOfTelling 40 = .ok (.getfield 56, 3) := by decide +kernel
theorem dX6_refusalOfTelling_43 : decode cX6_refusalOfTelling 43 = .ok (.if_icmp .eq 6, 3) := by decide +kernel
theorem dX6_refusalOfTelling_46 : decode cX6_refusalOfTelling 46 = .ok (.bipush (-2), 2) := by decide +kernel
theorem dX6_refusalOfTelling_48 : decode cX6_refusalOfTelling 48 = .ok (.ireturn, 1) := by decide +kernel
theorem dX6_refusalOfTelling_49 : decode cX6_refusalOfTelling 49 = .ok (.iload_n 2, 1) := by decide +kernel
theorem dX6_refusalOfTelling_50 : decode cX6_refusalOfTelling 50 = .ok (.invokestatic 161, 3) := by decide +kernel
theorem dX6_refusalOfTelling_53 : decode cX6_refusalOfTelling 53 = .ok (.ifCond .eq 7, 3) := by decide +kernel
theorem dX6_refusalOfTelling_56 : decode cX6_refusalOfTelling 56 = .ok (.iconst 0, 1) := by decide +kernel
theorem dX6_refusalOfTelling_57 : decode cX6_refusalOfTelling 57 = .ok (.goto 5, 3) := by decide +kernel
theorem dX6_refusalOfTelling_60 : decode cX6_refusalOfTelling 60 = .ok (.bipush (-7), 2) := by decide +kernel
theorem dX6_refusalOfTelling_62 : decode cX6_refusalOfTelling 62 = .ok (.ireturn, 1) := by decide +kernel
theorem dX6_firstOtherwise_0 : decode cX6_firstOtherwise 0 = .ok (.iconst 0, 1) := by decide +kernel
theorem dX6_firstOtherwise_1 : decode cX6_firstOtherwise 1 = .ok (.istore_n 2, 1) := by decide +kernel
theorem dX6_firstOtherwise_2 : decode cX6_firstOtherwise 2 = .ok (.iload_n 2, 1) := by decide +kernel
theorem dX6_firstOtherwise_3 : decode cX6_firstOtherwise 3 = .ok (.aload_n 0, 1) := by decide +kernel
theorem dX6_firstOtherwise_4 : decode cX6_firstOtherwise 4 = .ok (.getfield 35, 3) := by decide +kernel
theorem dX6_firstOtherwise_7 : decode cX6_firstOtherwise 7 = .ok (.getfield 52, 3) := by decide +kernel
theorem dX6_firstOtherwise_10 : decode cX6_firstOtherwise 10 = .ok (.getfield 56, 3) := by decide +kernel
theorem dX6_firstOtherwise_13 : decode cX6_firstOtherwise 13 = .ok (.if_icmp .ge 35, 3) := by decide +kernel
theorem dX6_firstOtherwise_16 : decode cX6_firstOtherwise 16 = .ok (.aload_n 0, 1) := by decide +kernel
theorem dX6_firstOtherwise_17 : decode cX6_firstOtherwise 17 = .ok (.getfield 44, 3) := by decide +kernel
theorem dX6_firstOtherwise_20 : decode cX6_firstOtherwise 20 = .ok (.iload_n 1, 1) := by decide +kernel
theorem dX6_firstOtherwise_21 : decode cX6_firstOtherwise 21 = .ok (.iload_n 2, 1) := by decide +kernel
theorem dX6_firstOtherwise_22 : decode cX6_firstOtherwise 22 = .ok (.invokevirtual 251, 3) := by decide +kernel
theorem dX6_firstOtherwise_25 : decode cX6_firstOtherwise 25 = .ok (.aload_n 0, 1) := by decide +kernel
theorem dX6_firstOtherwise_26 : decode cX6_firstOtherwise 26 = .ok (.getfield 35, 3) := by decide +kernel
theorem dX6_firstOtherwise_29 : decode cX6_firstOtherwise 29 = .ok (.getfield 52, 3) := by decide +kernel
theorem dX6_firstOtherwise_32 : decode cX6_firstOtherwise 32 = .ok (.iload_n 2, 1) := by decide +kernel
theorem dX6_firstOtherwise_33 : decode cX6_firstOtherwise 33 = .ok (.iconst 2, 1) := by decide +kernel
theorem dX6_firstOtherwise_34 : decode cX6_firstOtherwise 34 = .ok (.invokevirtual 130, 3) := by decide +kernel
theorem dX6_firstOtherwise_37 : decode cX6_firstOtherwise 37 = .ok (.if_icmp .eq 5, 3) := by decide +kernel
theorem dX6_firstOtherwise_40 : decode cX6_firstOtherwise 40 = .ok (.iload_n 2, 1) := by decide +kernel
theorem dX6_firstOtherwise_41 : decode cX6_firstOtherwise 41 = .ok (.ireturn, 1) := by decide +kernel
theorem dX6_firstOtherwise_42 : decode cX6_firstOtherwise 42 = .ok (.iinc 2 1, 3) := by decide +kernel
theorem dX6_firstOtherwise_45 : decode cX6_firstOtherwise 45 = .ok (.goto (-43), 3) := by decide +kernel
theorem dX6_firstOtherwise_48 : decode cX6_firstOtherwise 48 = .ok (.iconst (-1), 1) := by decide +kernel
theorem dX6_firstOtherwise_49 : decode cX6_firstOtherwise 49 = .ok (.ireturn, 1) := by decide +kernel
theorem dX6_bitIfTold_0 : decode cX6_bitIfTold 0 = .ok (.aload_n 0, 1) := by decide +kernel
theorem dX6_bitIfTold_1 : decode cX6_bitIfTold 1 = .ok (.iload_n 1, 1) := by decide +kernel
theorem dX6_bitIfTold_2 : decode cX6_bitIfTold 2 = .ok (.invokevirtual 205, 3) := by decide +kernel
theorem dX6_bitIfTold_5 : decode cX6_bitIfTold 5 = .ok (.iconst (-1), 1) := by decide +kernel
theorem dX6_bitIfTold_6 : decode cX6_bitIfTold 6 = .ok (.if_icmp .ne 9, 3) := by decide +kernel
theorem dX6_bitIfTold_9 : decode cX6_bitIfTold 9 = .ok (.iconst 1, 1) := by decide +kernel
theorem dX6_bitIfTold_10 : decode cX6_bitIfTold 10 = .ok (.iload_n 2, 1) := by decide +kernel
theorem dX6_bitIfTold_11 : decode cX6_bitIfTold 11 = .ok (.ishl, 1) := by decide +kernel
theorem dX6_bitIfTold_12 : decode cX6_bitIfTold 12 = .ok (.goto 4, 3) := by decide +kernel
theorem dX6_bitIfTold_15 : decode cX6_bitIfTold 15 = .ok (.iconst 0, 1) := by decide +kernel
theorem dX6_bitIfTold_16 : decode cX6_bitIfTold 16 = .ok (.ireturn, 1) := by decide +kernel
theorem dX6_commonDivisor_0 : decode cX6_commonDivisor 0 = .ok (.iconst 0, 1) := by decide +kernel
theorem dX6_commonDivisor_1 : decode cX6_commonDivisor 1 = .ok (.istore_n 2, 1) := by decide +kernel
theorem dX6_commonDivisor_2 : decode cX6_commonDivisor 2 = .ok (.iload_n 2, 1) := by decide +kernel
theorem dX6_commonDivisor_3 : decode cX6_commonDivisor 3 = .ok (.bipush 64, 2) := by decide +kernel
theorem dX6_commonDivisor_5 : decode cX6_commonDivisor 5 = .ok (.if_icmp .ge 21, 3) := by decide +kernel
theorem dX6_commonDivisor_8 : decode cX6_commonDivisor 8 = .ok (.iload_n 1, 1) := by decide +kernel
theorem dX6_commonDivisor_9 : decode cX6_commonDivisor 9 = .ok (.ifCond .eq 17, 3) := by decide +kernel
theorem dX6_commonDivisor_12 : decode cX6_commonDivisor 12 = .ok (.iload_n 0, 1) := by decide +kernel
theorem dX6_commonDivisor_13 : decode cX6_commonDivisor 13 = .ok (.iload_n 1, 1) := by decide +kernel
theorem dX6_commonDivisor_14 : decode cX6_commonDivisor 14 = .ok (.irem, 1) := by decide +kernel
theorem dX6_commonDivisor_15 : decode cX6_commonDivisor 15 = .ok (.istore_n 3, 1) := by decide +kernel
theorem dX6_commonDivisor_16 : decode cX6_commonDivisor 16 = .ok (.iload_n 1, 1) := by decide +kernel
theorem dX6_commonDivisor_17 : decode cX6_commonDivisor 17 = .ok (.istore_n 0, 1) := by decide +kernel
theorem dX6_commonDivisor_18 : decode cX6_commonDivisor 18 = .ok (.iload_n 3, 1) := by decide +kernel
theorem dX6_commonDivisor_19 : decode cX6_commonDivisor 19 = .ok (.istore_n 1, 1) := by decide +kernel
theorem dX6_commonDivisor_20 : decode cX6_commonDivisor 20 = .ok (.iinc 2 1, 3) := by decide +kernel
theorem dX6_commonDivisor_23 : decode cX6_commonDivisor 23 = .ok (.goto (-21), 3) := by decide +kernel
theorem dX6_commonDivisor_26 : decode cX6_commonDivisor 26 = .ok (.iload_n 0, 1) := by decide +kernel
theorem dX6_commonDivisor_27 : decode cX6_commonDivisor 27 = .ok (.ireturn, 1) := by decide +kernel
theorem dJ9_max_7cf53_0 : decode cJ9_max_7cf53 0 = .ok (.iload_n 0, 1) := by decide +kernel
theorem dJ9_max_7cf53_1 : decode cJ9_max_7cf53 1 = .ok (.iload_n 1, 1) := by decide +kernel
theorem dJ9_max_7cf53_2 : decode cJ9_max_7cf53 2 = .ok (.if_icmp .lt 7, 3) := by decide +kernel
theorem dJ9_max_7cf53_5 : decode cJ9_max_7cf53 5 = .ok (.iload_n 0, 1) := by decide +kernel
theorem dJ9_max_7cf53_6 : decode cJ9_max_7cf53 6 = .ok (.goto 4, 3) := by decide +kernel
theorem dJ9_max_7cf53_9 : decode cJ9_max_7cf53 9 = .ok (.iload_n 1, 1) := by decide +kernel
theorem dJ9_max_7cf53_10 : decode cJ9_max_7cf53 10 = .ok (.ireturn, 1) := by decide +kernel
theorem dJ9_min_7cf53_0 : decode cJ9_min_7cf53 0 = .ok (.iload_n 0, 1) := by decide +kernel
theorem dJ9_min_7cf53_1 : decode cJ9_min_7cf53 1 = .ok (.iload_n 1, 1) := by decide +kernel
theorem dJ9_min_7cf53_2 : decode cJ9_min_7cf53 2 = .ok (.if_icmp .gt 7, 3) := by decide +kernel
theorem dJ9_min_7cf53_5 : decode cJ9_min_7cf53 5 = .ok (.iload_n 0, 1) := by decide +kernel
theorem dJ9_min_7cf53_6 : decode cJ9_min_7cf53 6 = .ok (.goto 4, 3) := by decide +kernel
theorem dJ9_min_7cf53_9 : decode cJ9_min_7cf53 9 = .ok (.iload_n 1, 1) := by decide +kernel
theorem dJ9_min_7cf53_10 : decode cJ9_min_7cf53 10 = .ok (.ireturn, 1) := by decide +kernel
theorem dJ0_length_8abf5_0 : decode cJ0_length_8abf5 0 = .ok (.aload_n 0, 1) := by decide +kernel
theorem dJ0_length_8abf5_1 : decode cJ0_length_8abf5 1 = .ok (.getfield 9, 3) := by decide +kernel
theorem dJ0_length_8abf5_4 : decode cJ0_length_8abf5 4 = .ok (.arraylength, 1) := by decide +kernel
theorem dJ0_length_8abf5_5 : decode cJ0_length_8abf5 5 = .ok (.aload_n 0, 1) := by decide +kernel
theorem dJ0_length_8abf5_6 : decode cJ0_length_8abf5 6 = .ok (.invokevirtual 335, 3) := by decide +kernel
theorem dJ0_length_8abf5_9 : decode cJ0_length_8abf5 9 = .ok (.ishr, 1) := by decide +kernel
theorem dJ0_length_8abf5_10 : decode cJ0_length_8abf5 10 = .ok (.ireturn, 1) := by decide +kernel
theorem dJ0_charAt_5068e_0 : decode cJ0_charAt_5068e 0 = .ok (.aload_n 0, 1) := by decide +kernel
theorem dJ0_charAt_5068e_1 : decode cJ0_charAt_5068e 1 = .ok (.invokevirtual 492, 3) := by decide +kernel
theorem dJ0_charAt_5068e_4 : decode cJ0_charAt_5068e 4 = .ok (.ifCond .eq 12, 3) := by decide +kernel
theorem dJ0_charAt_5068e_7 : decode cJ0_charAt_5068e 7 = .ok (.aload_n 0, 1) := by decide +kernel
theorem dJ0_charAt_5068e_8 : decode cJ0_charAt_5068e 8 = .ok (.getfield 9, 3) := by decide +kernel
theorem dJ0_charAt_5068e_11 : decode cJ0_charAt_5068e 11 = .ok (.iload_n 1, 1) := by decide +kernel
theorem dJ0_charAt_5068e_12 : decode cJ0_charAt_5068e 12 = .ok (.invokestatic 495, 3) := by decide +kernel
theorem dJ0_charAt_5068e_15 : decode cJ0_charAt_5068e 15 = .ok (.ireturn, 1) := by decide +kernel
theorem dJ0_charAt_5068e_16 : decode cJ0_charAt_5068e 16 = .ok (.aload_n 0, 1) := by decide +kernel
theorem dJ0_charAt_5068e_17 : decode cJ0_charAt_5068e 17 = .ok (.getfield 9, 3) := by decide +kernel
theorem dJ0_charAt_5068e_20 : decode cJ0_charAt_5068e 20 = .ok (.iload_n 1, 1) := by decide +kernel
theorem dJ0_charAt_5068e_21 : decode cJ0_charAt_5068e 21 = .ok (.invokestatic 498, 3) := by decide +kernel
theorem dJ0_charAt_5068e_24 : decode cJ0_charAt_5068e 24 = .ok (.ireturn, 1) := by decide +kernel
theorem dJ0_coder_7d493_0 : decode cJ0_coder_7d493 0 = .ok (.getstatic 38, 3) := by decide +kernel
theorem dJ0_coder_7d493_3 : decode cJ0_coder_7d493 3 = .ok (.ifCond .eq 10, 3) := by decide +kernel
theorem dJ0_coder_7d493_6 : decode cJ0_coder_7d493 6 = .ok (.aload_n 0, 1) := by decide +kernel
theorem dJ0_coder_7d493_7 : decode cJ0_coder_7d493 7 = .ok (.getfield 15, 3) := by decide +kernel
theorem dJ0_coder_7d493_10 : decode cJ0_coder_7d493 10 = .ok (.goto 4, 3) := by decide +kernel
theorem dJ0_coder_7d493_13 : decode cJ0_coder_7d493 13 = .ok (.iconst 1, 1) := by decide +kernel
theorem dJ0_coder_7d493_14 : decode cJ0_coder_7d493 14 = .ok (.ireturn, 1) := by decide +kernel
theorem dJ0_isLatin1_aae02_0 : decode cJ0_isLatin1_aae02 0 = .ok (.getstatic 38, 3) := by decide +kernel
theorem dJ0_isLatin1_aae02_3 : decode cJ0_isLatin1_aae02 3 = .ok (.ifCond .eq 14, 3) := by decide +kernel
theorem dJ0_isLatin1_aae02_6 : decode cJ0_isLatin1_aae02 6 = .ok (.aload_n 0, 1) := by decide +kernel
theorem dJ0_isLatin1_aae02_7 : decode cJ0_isLatin1_aae02 7 = .ok (.getfield 15, 3) := by decide +kernel
theorem dJ0_isLatin1_aae02_10 : decode cJ0_isLatin1_aae02 10 = .ok (.ifCond .ne 7, 3) := by decide +kernel
theorem dJ0_isLatin1_aae02_13 : decode cJ0_isLatin1_aae02 13 = .ok (.iconst 1, 1) := by decide +kernel
theorem dJ0_isLatin1_aae02_14 : decode cJ0_isLatin1_aae02 14 = .ok (.goto 4, 3) := by decide +kernel
theorem dJ0_isLatin1_aae02_17 : decode cJ0_isLatin1_aae02 17 = .ok (.iconst 0, 1) := by decide +kernel
theorem dJ0_isLatin1_aae02_18 : decode cJ0_isLatin1_aae02 18 = .ok (.ireturn, 1) := by decide +kernel
theorem dJ0_checkIndex_df160_0 : decode cJ0_checkIndex_df160 0 = .ok (.iload_n 0, 1) := by decide +kernel
theorem dJ0_checkIndex_df160_1 : decode cJ0_checkIndex_df160 1 = .ok (.iload_n 1, 1) := by decide +kernel
theorem dJ0_checkIndex_df160_2 : decode cJ0_checkIndex_df160 2 = .ok (.getstatic 1053, 3) := by decide +kernel
theorem dJ0_checkIndex_df160_5 : decode cJ0_checkIndex_df160 5 = .ok (.invokestatic 1059, 3) := by decide +kernel
theorem dJ0_checkIndex_df160_8 : decode cJ0_checkIndex_df160 8 = .ok (.pop, 1) := by decide +kernel
theorem dJ0_checkIndex_df160_9 : decode cJ0_checkIndex_df160 9 = .ok (.return_, 1) := by decide +kernel
theorem dJ1_charAt_3b067_0 : decode cJ1_charAt_3b067 0 = .ok (.iload_n 1, 1) := by decide +kernel
theorem dJ1_charAt_3b067_1 : decode cJ1_charAt_3b067 1 = .ok (.aload_n 0, 1) := by decide +kernel
theorem dJ1_charAt_3b067_2 : decode cJ1_charAt_3b067 2 = .ok (.arraylength, 1) := by decide +kernel
theorem dJ1_charAt_3b067_3 : decode cJ1_charAt_3b067 3 = .ok (.invokestatic 9, 3) := by decide +kernel
theorem dJ1_charAt_3b067_6 : decode cJ1_charAt_3b067 6 = .ok (.aload_n 0, 1) := by decide +kernel
theorem dJ1_charAt_3b067_7 : decode cJ1_charAt_3b067 7 = .ok (.iload_n 1, 1) := by decide +kernel
theorem dJ1_charAt_3b067_8 : decode cJ1_charAt_3b067 8 = .ok (.baload, 1) := by decide +kernel
theorem dJ1_charAt_3b067_9 : decode cJ1_charAt_3b067 9 = .ok (.sipush 255, 3) := by decide +kernel
theorem dJ1_charAt_3b067_12 : decode cJ1_charAt_3b067 12 = .ok (.iand, 1) := by decide +kernel
theorem dJ1_charAt_3b067_13 : decode cJ1_charAt_3b067 13 = .ok (.i2c, 1) := by decide +kernel
theorem dJ1_charAt_3b067_14 : decode cJ1_charAt_3b067 14 = .ok (.ireturn, 1) := by decide +kernel
theorem dJ2_getChar_3b067_0 : decode cJ2_getChar_3b067 0 = .ok (.getstatic 44, 3) := by decide +kernel
theorem dJ2_getChar_3b067_3 : decode cJ2_getChar_3b067 3 = .ok (.ifCond .ne 25, 3) := by decide +kernel
theorem dJ2_getChar_3b067_6 : decode cJ2_getChar_3b067 6 = .ok (.iload_n 1, 1) := by decide +kernel
theorem dJ2_getChar_3b067_7 : decode cJ2_getChar_3b067 7 = .ok (.ifCond .lt 11, 3) := by decide +kernel
theorem dJ2_getChar_3b067_10 : decode cJ2_getChar_3b067 10 = .ok (.iload_n 1, 1) := by decide +kernel
theorem dJ2_getChar_3b067_11 : decode cJ2_getChar_3b067 11 = .ok (.aload_n 0, 1) := by decide +kernel
theorem dJ2_getChar_3b067_12 : decode cJ2_getChar_3b067 12 = .ok (.invokestatic 48, 3) := by decide +kernel
theorem dJ2_getChar_3b067_15 : decode cJ2_getChar_3b067 15 = .ok (.if_icmp .lt 13, 3) := by decide +kernel
theorem dJ2_getChar_3b067_18 : decode cJ2_getChar_3b067 18 = .ok (.new 52, 3) := by decide +kernel
theorem dJ2_getChar_3b067_21 : decode cJ2_getChar_3b067 21 = .ok (.dup, 1) := by decide +kernel
theorem dJ2_getChar_3b067_22 : decode cJ2_getChar_3b067 22 = .ok (.ldc 54, 2) := by decide +kernel
theorem dJ2_getChar_3b067_24 : decode cJ2_getChar_3b067 24 = .ok (.invokespecial 56, 3) := by decide +kernel
theorem dJ2_getChar_3b067_27 : decode cJ2_getChar_3b067 27 = .ok (.athrow, 1) := by decide +kernel
theorem dJ2_getChar_3b067_28 : decode cJ2_getChar_3b067 28 = .ok (.iload_n 1, 1) := by decide +kernel
theorem dJ2_getChar_3b067_29 : decode cJ2_getChar_3b067 29 = .ok (.iconst 1, 1) := by decide +kernel
theorem dJ2_getChar_3b067_30 : decode cJ2_getChar_3b067 30 = .ok (.ishl, 1) := by decide +kernel
theorem dJ2_getChar_3b067_31 : decode cJ2_getChar_3b067 31 = .ok (.istore_n 1, 1) := by decide +kernel
theorem dJ2_getChar_3b067_32 : decode cJ2_getChar_3b067 32 = .ok (.aload_n 0, 1) := by decide +kernel
theorem dJ2_getChar_3b067_33 : decode cJ2_getChar_3b067 33 = .ok (.iload_n 1, 1) := by decide +kernel
theorem dJ2_getChar_3b067_34 : decode cJ2_getChar_3b067 34 = .ok (.iinc 1 1, 3) := by decide +kernel
theorem dJ2_getChar_3b067_37 : decode cJ2_getChar_3b067 37 = .ok (.baload, 1) := by decide +kernel
theorem dJ2_getChar_3b067_38 : decode cJ2_getChar_3b067 38 = .ok (.sipush 255, 3) := by decide +kernel
theorem dJ2_getChar_3b067_41 : decode cJ2_getChar_3b067 41 = .ok (.iand, 1) := by decide +kernel
theorem dJ2_getChar_3b067_42 : decode cJ2_getChar_3b067 42 = .ok (.getstatic 59, 3) := by decide +kernel
theorem dJ2_getChar_3b067_45 : decode cJ2_getChar_3b067 45 = .ok (.ishl, 1) := by decide +kernel
theorem dJ2_getChar_3b067_46 : decode cJ2_getChar_3b067 46 = .ok (.aload_n 0, 1) := by decide +kernel
theorem dJ2_getChar_3b067_47 : decode cJ2_getChar_3b067 47 = .ok (.iload_n 1, 1) := by decide +kernel
theorem dJ2_getChar_3b067_48 : decode cJ2_getChar_3b067 48 = .ok (.baload, 1) := by decide +kernel
theorem dJ2_getChar_3b067_49 : decode cJ2_getChar_3b067 49 = .ok (.sipush 255, 3) := by decide +kernel
theorem dJ2_getChar_3b067_52 : decode cJ2_getChar_3b067 52 = .ok (.iand, 1) := by decide +kernel
theorem dJ2_getChar_3b067_53 : decode cJ2_getChar_3b067 53 = .ok (.getstatic 63, 3) := by decide +kernel
theorem dJ2_getChar_3b067_56 : decode cJ2_getChar_3b067 56 = .ok (.ishl, 1) := by decide +kernel
theorem dJ2_getChar_3b067_57 : decode cJ2_getChar_3b067 57 = .ok (.ior, 1) := by decide +kernel
theorem dJ2_getChar_3b067_58 : decode cJ2_getChar_3b067 58 = .ok (.i2c, 1) := by decide +kernel
theorem dJ2_getChar_3b067_59 : decode cJ2_getChar_3b067 59 = .ok (.ireturn, 1) := by decide +kernel
theorem dJ2_length_9d52b_0 : decode cJ2_length_9d52b 0 = .ok (.aload_n 0, 1) := by decide +kernel
theorem dJ2_length_9d52b_1 : decode cJ2_length_9d52b 1 = .ok (.arraylength, 1) := by decide +kernel
theorem dJ2_length_9d52b_2 : decode cJ2_length_9d52b 2 = .ok (.iconst 1, 1) := by decide +kernel
theorem dJ2_length_9d52b_3 : decode cJ2_length_9d52b 3 = .ok (.ishr, 1) := by decide +kernel
theorem dJ2_length_9d52b_4 : decode cJ2_length_9d52b 4 = .ok (.ireturn, 1) := by decide +kernel
theorem dJ2_charAt_3b067_0 : decode cJ2_charAt_3b067 0 = .ok (.iload_n 1, 1) := by decide +kernel
theorem dJ2_charAt_3b067_1 : decode cJ2_charAt_3b067 1 = .ok (.aload_n 0, 1) := by decide +kernel
theorem dJ2_charAt_3b067_2 : decode cJ2_charAt_3b067 2 = .ok (.invokestatic 67, 3) := by decide +kernel
theorem dJ2_charAt_3b067_5 : decode cJ2_charAt_3b067 5 = .ok (.aload_n 0, 1) := by decide +kernel
theorem dJ2_charAt_3b067_6 : decode cJ2_charAt_3b067 6 = .ok (.iload_n 1, 1) := by decide +kernel
theorem dJ2_charAt_3b067_7 : decode cJ2_charAt_3b067 7 = .ok (.invokestatic 71, 3) := by decide +kernel
theorem dJ2_charAt_3b067_10 : decode cJ2_charAt_3b067 10 = .ok (.ireturn, 1) := by decide +kernel
theorem dJ2_checkIndex_2214a_0 : decode cJ2_checkIndex_2214a 0 = .ok (.iload_n 0, 1) := by decide +kernel
theorem dJ2_checkIndex_2214a_1 : decode cJ2_checkIndex_2214a 1 = .ok (.aload_n 1, 1) := by decide +kernel
theorem dJ2_checkIndex_2214a_2 : decode cJ2_checkIndex_2214a 2 = .ok (.invokestatic 48, 3) := by decide +kernel
theorem dJ2_checkIndex_2214a_5 : decode cJ2_checkIndex_2214a 5 = .ok (.invokestatic 414, 3) := by decide +kernel
theorem dJ2_checkIndex_2214a_8 : decode cJ2_checkIndex_2214a 8 = .ok (.return_, 1) := by decide +kernel
theorem dJ3_checkIndex_8e157_0 : decode cJ3_checkIndex_8e157 0 = .ok (.iload_n 0, 1) := by decide +kernel
theorem dJ3_checkIndex_8e157_1 : decode cJ3_checkIndex_8e157 1 = .ok (.ifCond .lt 8, 3) := by decide +kernel
theorem dJ3_checkIndex_8e157_4 : decode cJ3_checkIndex_8e157 4 = .ok (.iload_n 0, 1) := by decide +kernel
theorem dJ3_checkIndex_8e157_5 : decode cJ3_checkIndex_8e157 5 = .ok (.iload_n 1, 1) := by decide +kernel
theorem dJ3_checkIndex_8e157_6 : decode cJ3_checkIndex_8e157 6 = .ok (.if_icmp .lt 10, 3) := by decide +kernel
theorem dJ3_checkIndex_8e157_9 : decode cJ3_checkIndex_8e157 9 = .ok (.aload_n 2, 1) := by decide +kernel
theorem dJ3_checkIndex_8e157_10 : decode cJ3_checkIndex_8e157 10 = .ok (.iload_n 0, 1) := by decide +kernel
theorem dJ3_checkIndex_8e157_11 : decode cJ3_checkIndex_8e157 11 = .ok (.iload_n 1, 1) := by decide +kernel
theorem dJ3_checkIndex_8e157_12 : decode cJ3_checkIndex_8e157 12 = .ok (.invokestatic 95, 3) := by decide +kernel
theorem dJ3_checkIndex_8e157_15 : decode cJ3_checkIndex_8e157 15 = .ok (.athrow, 1) := by decide +kernel
theorem dJ3_checkIndex_8e157_16 : decode cJ3_checkIndex_8e157 16 = .ok (.iload_n 0, 1) := by decide +kernel
theorem dJ3_checkIndex_8e157_17 : decode cJ3_checkIndex_8e157 17 = .ok (.ireturn, 1) := by decide +kernel

theorem dX0_init_0 : decode cX0_init 0 = .ok (.aload_n 0, 1) := by decide +kernel
theorem dX0_init_1 : decode cX0_init 1 = .ok (.invokespecial 3, 3) := by decide +kernel
theorem dX0_init_4 : decode cX0_init 4 = .ok (.aload_n 0, 1) := by decide +kernel
theorem dX0_init_5 : decode cX0_init 5 = .ok (.bipush 16, 2) := by decide +kernel
theorem dX0_init_7 : decode cX0_init 7 = .ok (.newarray .int, 2) := by decide +kernel
theorem dX0_init_9 : decode cX0_init 9 = .ok (.putfield 9, 3) := by decide +kernel
theorem dX0_init_12 : decode cX0_init 12 = .ok (.return_, 1) := by decide +kernel
theorem dX0_glue_0 : decode cX0_glue 0 = .ok (.aload_n 0, 1) := by decide +kernel
theorem dX0_glue_1 : decode cX0_glue 1 = .ok (.aload_n 1, 1) := by decide +kernel
theorem dX0_glue_2 : decode cX0_glue 2 = .ok (.getfield 15, 3) := by decide +kernel
theorem dX0_glue_5 : decode cX0_glue 5 = .ok (.putfield 21, 3) := by decide +kernel
theorem dX0_glue_8 : decode cX0_glue 8 = .ok (.iconst 0, 1) := by decide +kernel
theorem dX0_glue_9 : decode cX0_glue 9 = .ok (.istore_n 2, 1) := by decide +kernel
theorem dX0_glue_10 : decode cX0_glue 10 = .ok (.iload_n 2, 1) := by decide +kernel
theorem dX0_glue_11 : decode cX0_glue 11 = .ok (.iconst 2, 1) := by decide +kernel
theorem dX0_glue_12 : decode cX0_glue 12 = .ok (.aload_n 0, 1) := by decide +kernel
theorem dX0_glue_13 : decode cX0_glue 13 = .ok (.getfield 21, 3) := by decide +kernel
theorem dX0_glue_16 : decode cX0_glue 16 = .ok (.imul, 1) := by decide +kernel
theorem dX0_glue_17 : decode cX0_glue 17 = .ok (.if_icmp .ge 16, 3) := by decide +kernel
theorem dX0_glue_20 : decode cX0_glue 20 = .ok (.aload_n 0, 1) := by decide +kernel
theorem dX0_glue_21 : decode cX0_glue 21 = .ok (.getfield 9, 3) := by decide +kernel
theorem dX0_glue_24 : decode cX0_glue 24 = .ok (.iload_n 2, 1) := by decide +kernel
theorem dX0_glue_25 : decode cX0_glue 25 = .ok (.iload_n 2, 1) := by decide +kernel
theorem dX0_glue_26 : decode cX0_glue 26 = .ok (.iastore, 1) := by decide +kernel
theorem dX0_glue_27 : decode cX0_glue 27 = .ok (.iinc 2 1, 3) := by decide +kernel
theorem dX0_glue_30 : decode cX0_glue 30 = .ok (.goto (-20), 3) := by decide +kernel
theorem dX0_glue_33 : decode cX0_glue 33 = .ok (.iconst 0, 1) := by decide +kernel
theorem dX0_glue_34 : decode cX0_glue 34 = .ok (.istore_n 2, 1) := by decide +kernel
theorem dX0_glue_35 : decode cX0_glue 35 = .ok (.iload_n 2, 1) := by decide +kernel
theorem dX0_glue_36 : decode cX0_glue 36 = .ok (.aload_n 0, 1) := by decide +kernel
theorem dX0_glue_37 : decode cX0_glue 37 = .ok (.getfield 21, 3) := by decide +kernel
theorem dX0_glue_40 : decode cX0_glue 40 = .ok (.if_icmp .ge 64, 3) := by decide +kernel
theorem dX0_glue_43 : decode cX0_glue 43 = .ok (.iconst 0, 1) := by decide +kernel
theorem dX0_glue_44 : decode cX0_glue 44 = .ok (.istore_n 3, 1) := by decide +kernel
theorem dX0_glue_45 : decode cX0_glue 45 = .ok (.iload_n 3, 1) := by decide +kernel
theorem dX0_glue_46 : decode cX0_glue 46 = .ok (.aload_n 0, 1) := by decide +kernel
theorem dX0_glue_47 : decode cX0_glue 47 = .ok (.getfield 21, 3) := by decide +kernel
theorem dX0_glue_50 : decode cX0_glue 50 = .ok (.if_icmp .ge 48, 3) := by decide +kernel
theorem dX0_glue_53 : decode cX0_glue 53 = .ok (.aload_n 1, 1) := by decide +kernel
theorem dX0_glue_54 : decode cX0_glue 54 = .ok (.getfield 22, 3) := by decide +kernel
theorem dX0_glue_57 : decode cX0_glue 57 = .ok (.iload_n 2, 1) := by decide +kernel
theorem dX0_glue_58 : decode cX0_glue 58 = .ok (.iaload, 1) := by decide +kernel
theorem dX0_glue_59 : decode cX0_glue 59 = .ok (.aload_n 1, 1) := by decide +kernel
theorem dX0_glue_60 : decode cX0_glue 60 = .ok (.getfield 25, 3) := by decide +kernel
theorem dX0_glue_63 : decode cX0_glue 63 = .ok (.iload_n 3, 1) := by decide +kernel
theorem dX0_glue_64 : decode cX0_glue 64 = .ok (.iaload, 1) := by decide +kernel
theorem dX0_glue_65 : decode cX0_glue 65 = .ok (.if_icmp .ne 27, 3) := by decide +kernel
theorem dX0_glue_68 : decode cX0_glue 68 = .ok (.aload_n 0, 1) := by decide +kernel
theorem dX0_glue_69 : decode cX0_glue 69 = .ok (.iload_n 2, 1) := by decide +kernel
theorem dX0_glue_70 : decode cX0_glue 70 = .ok (.aload_n 0, 1) := by decide +kernel
theorem dX0_glue_71 : decode cX0_glue 71 = .ok (.iload_n 3, 1) := by decide +kernel
theorem dX0_glue_72 : decode cX0_glue 72 = .ok (.invokevirtual 28, 3) := by decide +kernel
theorem dX0_glue_75 : decode cX0_glue 75 = .ok (.invokevirtual 32, 3) := by decide +kernel
theorem dX0_glue_78 : decode cX0_glue 78 = .ok (.aload_n 0, 1) := by decide +kernel
theorem dX0_glue_79 : decode cX0_glue 79 = .ok (.iload_n 2, 1) := by decide +kernel
theorem dX0_glue_80 : decode cX0_glue 80 = .ok (.iconst 1, 1) := by decide +kernel
theorem dX0_glue_81 : decode cX0_glue 81 = .ok (.iadd, 1) := by decide +kernel
theorem dX0_glue_82 : decode cX0_glue 82 = .ok (.aload_n 0, 1) := by decide +kernel
theorem dX0_glue_83 : decode cX0_glue 83 = .ok (.iload_n 3, 1) := by decide +kernel
theorem dX0_glue_84 : decode cX0_glue 84 = .ok (.iconst 1, 1) := by decide +kernel
theorem dX0_glue_85 : decode cX0_glue 85 = .ok (.iadd, 1) := by decide +kernel
theorem dX0_glue_86 : decode cX0_glue 86 = .ok (.invokevirtual 28, 3) := by decide +kernel
theorem dX0_glue_89 : decode cX0_glue 89 = .ok (.invokevirtual 32, 3) := by decide +kernel
theorem dX0_glue_92 : decode cX0_glue 92 = .ok (.iinc 3 1, 3) := by decide +kernel
theorem dX0_glue_95 : decode cX0_glue 95 = .ok (.goto (-50), 3) := by decide +kernel
theorem dX0_glue_98 : decode cX0_glue 98 = .ok (.iinc 2 1, 3) := by decide +kernel
theorem dX0_glue_101 : decode cX0_glue 101 = .ok (.goto (-66), 3) := by decide +kernel
theorem dX0_glue_104 : decode cX0_glue 104 = .ok (.return_, 1) := by decide +kernel
theorem dX0_points_0 : decode cX0_points 0 = .ok (.iconst 0, 1) := by decide +kernel
theorem dX0_points_1 : decode cX0_points 1 = .ok (.istore_n 1, 1) := by decide +kernel
theorem dX0_points_2 : decode cX0_points 2 = .ok (.iconst 0, 1) := by decide +kernel
theorem dX0_points_3 : decode cX0_points 3 = .ok (.istore_n 2, 1) := by decide +kernel
theorem dX0_points_4 : decode cX0_points 4 = .ok (.iload_n 2, 1) := by decide +kernel
theorem dX0_points_5 : decode cX0_points 5 = .ok (.iconst 2, 1) := by decide +kernel
theorem dX0_points_6 : decode cX0_points 6 = .ok (.aload_n 0, 1) := by decide +kernel
theorem dX0_points_7 : decode cX0_points 7 = .ok (.getfield 21, 3) := by decide +kernel
theorem dX0_points_10 : decode cX0_points 10 = .ok (.imul, 1) := by decide +kernel
theorem dX0_points_11 : decode cX0_points 11 = .ok (.if_icmp .ge 22, 3) := by decide +kernel
theorem dX0_points_14 : decode cX0_points 14 = .ok (.aload_n 0, 1) := by decide +kernel
theorem dX0_points_15 : decode cX0_points 15 = .ok (.getfield 9, 3) := by decide +kernel
theorem dX0_points_18 : decode cX0_points 18 = .ok (.iload_n 2, 1) := by decide +kernel
theorem dX0_points_19 : decode cX0_points 19 = .ok (.iaload, 1) := by decide +kernel
theorem dX0_points_20 : decode cX0_points 20 = .ok (.iload_n 2, 1) := by decide +kernel
theorem dX0_points_21 : decode cX0_points 21 = .ok (.if_icmp .ne 6, 3) := by decide +kernel
theorem dX0_points_24 : decode cX0_points 24 = .ok (.iinc 1 1, 3) := by decide +kernel
theorem dX0_points_27 : decode cX0_points 27 = .ok (.iinc 2 1, 3) := by decide +kernel
theorem dX0_points_30 : decode cX0_points 30 = .ok (.goto (-26), 3) := by decide +kernel
theorem dX0_points_33 : decode cX0_points 33 = .ok (.iload_n 1, 1) := by decide +kernel
theorem dX0_points_34 : decode cX0_points 34 = .ok (.ireturn, 1) := by decide +kernel
theorem dX0_mostTurns_0 : decode cX0_mostTurns 0 = .ok (.iconst 0, 1) := by decide +kernel
theorem dX0_mostTurns_1 : decode cX0_mostTurns 1 = .ok (.istore_n 1, 1) := by decide +kernel
theorem dX0_mostTurns_2 : decode cX0_mostTurns 2 = .ok (.iconst 0, 1) := by decide +kernel
theorem dX0_mostTurns_3 : decode cX0_mostTurns 3 = .ok (.istore_n 2, 1) := by decide +kernel
theorem dX0_mostTurns_4 : decode cX0_mostTurns 4 = .ok (.iload_n 2, 1) := by decide +kernel
theorem dX0_mostTurns_5 : decode cX0_mostTurns 5 = .ok (.iconst 2, 1) := by decide +kernel
theorem dX0_mostTurns_6 : decode cX0_mostTurns 6 = .ok (.aload_n 0, 1) := by decide +kernel
theorem dX0_mostTurns_7 : decode cX0_mostTurns 7 = .ok (.getfield 21, 3) := by decide +kernel
theorem dX0_mostTurns_10 : decode cX0_mostTurns 10 = .ok (.imul, 1) := by decide +kernel
theorem dX0_mostTurns_11 : decode cX0_mostTurns 11 = .ok (.if_icmp .ge 19, 3) := by decide +kernel
theorem dX0_mostTurns_14 : decode cX0_mostTurns 14 = .ok (.iload_n 1, 1) := by decide +kernel
theorem dX0_mostTurns_15 : decode cX0_mostTurns 15 = .ok (.aload_n 0, 1) := by decide +kernel
theorem dX0_mostTurns_16 : decode cX0_mostTurns 16 = .ok (.iload_n 2, 1) := by decide +kernel
theorem dX0_mostTurns_17 : decode cX0_mostTurns 17 = .ok (.invokevirtual 36, 3) := by decide +kernel
theorem dX0_mostTurns_20 : decode cX0_mostTurns 20 = .ok (.invokestatic 39, 3) := by decide +kernel
theorem dX0_mostTurns_23 : decode cX0_mostTurns 23 = .ok (.istore_n 1, 1) := by decide +kernel
theorem dX0_mostTurns_24 : decode cX0_mostTurns 24 = .ok (.iinc 2 1, 3) := by decide +kernel
theorem dX0_mostTurns_27 : decode cX0_mostTurns 27 = .ok (.goto (-23), 3) := by decide +kernel
theorem dX0_mostTurns_30 : decode cX0_mostTurns 30 = .ok (.iload_n 1, 1) := by decide +kernel
theorem dX0_mostTurns_31 : decode cX0_mostTurns 31 = .ok (.ireturn, 1) := by decide +kernel
theorem dX0_pointsWithOneTurn_0 : decode cX0_pointsWithOneTurn 0 = .ok (.iconst 0, 1) := by decide +kernel
theorem dX0_pointsWithOneTurn_1 : decode cX0_pointsWithOneTurn 1 = .ok (.istore_n 1, 1) := by decide +kernel
theorem dX0_pointsWithOneTurn_2 : decode cX0_pointsWithOneTurn 2 = .ok (.iconst 0, 1) := by decide +kernel
theorem dX0_pointsWithOneTurn_3 : decode cX0_pointsWithOneTurn 3 = .ok (.istore_n 2, 1) := by decide +kernel
theorem dX0_pointsWithOneTurn_4 : decode cX0_pointsWithOneTurn 4 = .ok (.iload_n 2, 1) := by decide +kernel
theorem dX0_pointsWithOneTurn_5 : decode cX0_pointsWithOneTurn 5 = .ok (.iconst 2, 1) := by decide +kernel
theorem dX0_pointsWithOneTurn_6 : decode cX0_pointsWithOneTurn 6 = .ok (.aload_n 0, 1) := by decide +kernel
theorem dX0_pointsWithOneTurn_7 : decode cX0_pointsWithOneTurn 7 = .ok (.getfield 21, 3) := by decide +kernel
theorem dX0_pointsWithOneTurn_10 : decode cX0_pointsWithOneTurn 10 = .ok (.imul, 1) := by decide +kernel
theorem dX0_pointsWithOneTurn_11 : decode cX0_pointsWithOneTurn 11 = .ok (.if_icmp .ge 31, 3) := by decide +kernel
theorem dX0_pointsWithOneTurn_14 : decode cX0_pointsWithOneTurn 14 = .ok (.aload_n 0, 1) := by decide +kernel
theorem dX0_pointsWithOneTurn_15 : decode cX0_pointsWithOneTurn 15 = .ok (.getfield 9, 3) := by decide +kernel
theorem dX0_pointsWithOneTurn_18 : decode cX0_pointsWithOneTurn 18 = .ok (.iload_n 2, 1) := by decide +kernel
theorem dX0_pointsWithOneTurn_19 : decode cX0_pointsWithOneTurn 19 = .ok (.iaload, 1) := by decide +kernel
theorem dX0_pointsWithOneTurn_20 : decode cX0_pointsWithOneTurn 20 = .ok (.iload_n 2, 1) := by decide +kernel
theorem dX0_pointsWithOneTurn_21 : decode cX0_pointsWithOneTurn 21 = .ok (.if_icmp .ne 15, 3) := by decide +kernel
theorem dX0_pointsWithOneTurn_24 : decode cX0_pointsWithOneTurn 24 = .ok (.aload_n 0, 1) := by decide +kernel
theorem dX0_pointsWithOneTurn_25 : decode cX0_pointsWithOneTurn 25 = .ok (.iload_n 2, 1) := by decide +kernel
theorem dX0_pointsWithOneTurn_26 : decode cX0_pointsWithOneTurn 26 = .ok (.invokevirtual 36, 3) := by decide +kernel
theorem dX0_pointsWithOneTurn_29 : decode cX0_pointsWithOneTurn 29 = .ok (.iconst 1, 1) := by decide +kernel
theorem dX0_pointsWithOneTurn_30 : decode cX0_pointsWithOneTurn 30 = .ok (.if_icmp .ne 6, 3) := by decide +kernel
theorem dX0_pointsWithOneTurn_33 : decode cX0_pointsWithOneTurn 33 = .ok (.iinc 1 1, 3) := by decide +kernel
theorem dX0_pointsWithOneTurn_36 : decode cX0_pointsWithOneTurn 36 = .ok (.iinc 2 1, 3) := by decide +kernel
theorem dX0_pointsWithOneTurn_39 : decode cX0_pointsWithOneTurn 39 = .ok (.goto (-35), 3) := by decide +kernel
theorem dX0_pointsWithOneTurn_42 : decode cX0_pointsWithOneTurn 42 = .ok (.iload_n 1, 1) := by decide +kernel
theorem dX0_pointsWithOneTurn_43 : decode cX0_pointsWithOneTurn 43 = .ok (.ireturn, 1) := by decide +kernel
theorem dX0_turnsAt_0 : decode cX0_turnsAt 0 = .ok (.iconst 0, 1) := by decide +kernel
theorem dX0_turnsAt_1 : decode cX0_turnsAt 1 = .ok (.istore_n 2, 1) := by decide +kernel
theorem dX0_turnsAt_2 : decode cX0_turnsAt 2 = .ok (.iconst 1, 1) := by decide +kernel
theorem dX0_turnsAt_3 : decode cX0_turnsAt 3 = .ok (.istore_n 3, 1) := by decide +kernel
theorem dX0_turnsAt_4 : decode cX0_turnsAt 4 = .ok (.iload_n 3, 1) := by decide +kernel
theorem dX0_turnsAt_5 : decode cX0_turnsAt 5 = .ok (.aload_n 0, 1) := by decide +kernel
theorem dX0_turnsAt_6 : decode cX0_turnsAt 6 = .ok (.getfield 21, 3) := by decide +kernel
theorem dX0_turnsAt_9 : decode cX0_turnsAt 9 = .ok (.if_icmp .ge 27, 3) := by decide +kernel
theorem dX0_turnsAt_12 : decode cX0_turnsAt 12 = .ok (.aload_n 0, 1) := by decide +kernel
theorem dX0_turnsAt_13 : decode cX0_turnsAt 13 = .ok (.getfield 9, 3) := by decide +kernel
theorem dX0_turnsAt_16 : decode cX0_turnsAt 16 = .ok (.iload_n 3, 1) := by decide +kernel
theorem dX0_turnsAt_17 : decode cX0_turnsAt 17 = .ok (.iaload, 1) := by decide +kernel
theorem dX0_turnsAt_18 : decode cX0_turnsAt 18 = .ok (.aload_n 0, 1) := by decide +kernel
theorem dX0_turnsAt_19 : decode cX0_turnsAt 19 = .ok (.getfield 9, 3) := by decide +kernel
theorem dX0_turnsAt_22 : decode cX0_turnsAt 22 = .ok (.iload_n 1, 1) := by decide +kernel
theorem dX0_turnsAt_23 : decode cX0_turnsAt 23 = .ok (.iaload, 1) := by decide +kernel
theorem dX0_turnsAt_24 : decode cX0_turnsAt 24 = .ok (.if_icmp .ne 6, 3) := by decide +kernel
theorem dX0_turnsAt_27 : decode cX0_turnsAt 27 = .ok (.iinc 2 1, 3) := by decide +kernel
theorem dX0_turnsAt_30 : decode cX0_turnsAt 30 = .ok (.iinc 3 1, 3) := by decide +kernel
theorem dX0_turnsAt_33 : decode cX0_turnsAt 33 = .ok (.goto (-29), 3) := by decide +kernel
theorem dX0_turnsAt_36 : decode cX0_turnsAt 36 = .ok (.iload_n 2, 1) := by decide +kernel
theorem dX0_turnsAt_37 : decode cX0_turnsAt 37 = .ok (.ireturn, 1) := by decide +kernel
theorem dX0_cornerBelow_0 : decode cX0_cornerBelow 0 = .ok (.iload_n 1, 1) := by decide +kernel
theorem dX0_cornerBelow_1 : decode cX0_cornerBelow 1 = .ok (.ifCond .ne 7, 3) := by decide +kernel
theorem dX0_cornerBelow_4 : decode cX0_cornerBelow 4 = .ok (.iconst 0, 1) := by decide +kernel
theorem dX0_cornerBelow_5 : decode cX0_cornerBelow 5 = .ok (.goto 24, 3) := by decide +kernel
theorem dX0_cornerBelow_8 : decode cX0_cornerBelow 8 = .ok (.iload_n 1, 1) := by decide +kernel
theorem dX0_cornerBelow_9 : decode cX0_cornerBelow 9 = .ok (.aload_n 0, 1) := by decide +kernel
theorem dX0_cornerBelow_10 : decode cX0_cornerBelow 10 = .ok (.getfield 21, 3) := by decide +kernel
theorem dX0_cornerBelow_13 : decode cX0_cornerBelow 13 = .ok (.if_icmp .ne 10, 3) := by decide +kernel
theorem dX0_cornerBelow_16 : decode cX0_cornerBelow 16 = .ok (.aload_n 0, 1) := by decide +kernel
theorem dX0_cornerBelow_17 : decode cX0_cornerBelow 17 = .ok (.getfield 21, 3) := by decide +kernel
theorem dX0_cornerBelow_20 : decode cX0_cornerBelow 20 = .ok (.goto 9, 3) := by decide +kernel
theorem dX0_cornerBelow_23 : decode cX0_cornerBelow 23 = .ok (.aload_n 0, 1) := by decide +kernel
theorem dX0_cornerBelow_24 : decode cX0_cornerBelow 24 = .ok (.getfield 21, 3) := by decide +kernel
theorem dX0_cornerBelow_27 : decode cX0_cornerBelow 27 = .ok (.iload_n 1, 1) := by decide +kernel
theorem dX0_cornerBelow_28 : decode cX0_cornerBelow 28 = .ok (.iadd, 1) := by decide +kernel
theorem dX0_cornerBelow_29 : decode cX0_cornerBelow 29 = .ok (.ireturn, 1) := by decide +kernel
theorem dX0_join_0 : decode cX0_join 0 = .ok (.aload_n 0, 1) := by decide +kernel
theorem dX0_join_1 : decode cX0_join 1 = .ok (.getfield 9, 3) := by decide +kernel
theorem dX0_join_4 : decode cX0_join 4 = .ok (.iload_n 1, 1) := by decide +kernel
theorem dX0_join_5 : decode cX0_join 5 = .ok (.iaload, 1) := by decide +kernel
theorem dX0_join_6 : decode cX0_join 6 = .ok (.istore_n 3, 1) := by decide +kernel
theorem dX0_join_7 : decode cX0_join 7 = .ok (.aload_n 0, 1) := by decide +kernel
theorem dX0_join_8 : decode cX0_join 8 = .ok (.getfield 9, 3) := by decide +kernel
theorem dX0_join_11 : decode cX0_join 11 = .ok (.iload_n 2, 1) := by decide +kernel
theorem dX0_join_12 : decode cX0_join 12 = .ok (.iaload, 1) := by decide +kernel
theorem dX0_join_13 : decode cX0_join 13 = .ok (.istore 4, 2) := by decide +kernel
theorem dX0_join_15 : decode cX0_join 15 = .ok (.iconst 0, 1) := by decide +kernel
theorem dX0_join_16 : decode cX0_join 16 = .ok (.istore 5, 2) := by decide +kernel
theorem dX0_join_18 : decode cX0_join 18 = .ok (.iload 5, 2) := by decide +kernel
theorem dX0_join_20 : decode cX0_join 20 = .ok (.iconst 2, 1) := by decide +kernel
theorem dX0_join_21 : decode cX0_join 21 = .ok (.aload_n 0, 1) := by decide +kernel
theorem dX0_join_22 : decode cX0_join 22 = .ok (.getfield 21, 3) := by decide +kernel
theorem dX0_join_25 : decode cX0_join 25 = .ok (.imul, 1) := by decide +kernel
theorem dX0_join_26 : decode cX0_join 26 = .ok (.if_icmp .ge 29, 3) := by decide +kernel
theorem dX0_join_29 : decode cX0_join 29 = .ok (.aload_n 0, 1) := by decide +kernel
theorem dX0_join_30 : decode cX0_join 30 = .ok (.getfield 9, 3) := by decide +kernel
theorem dX0_join_33 : decode cX0_join 33 = .ok (.iload 5, 2) := by decide +kernel
theorem dX0_join_35 : decode cX0_join 35 = .ok (.iaload, 1) := by decide +kernel
theorem dX0_join_36 : decode cX0_join 36 = .ok (.iload 4, 2) := by decide +kernel
theorem dX0_join_38 : decode cX0_join 38 = .ok (.if_icmp .ne 11, 3) := by decide +kernel
theorem dX0_join_41 : decode cX0_join 41 = .ok (.aload_n 0, 1) := by decide +kernel
theorem dX0_join_42 : decode cX0_join 42 = .ok (.getfield 9, 3) := by decide +kernel
theorem dX0_join_45 : decode cX0_join 45 = .ok (.iload 5, 2) := by decide +kernel
theorem dX0_join_47 : decode cX0_join 47 = .ok (.iload_n 3, 1) := by decide +kernel
theorem dX0_join_48 : decode cX0_join 48 = .ok (.iastore, 1) := by decide +kernel
theorem dX0_join_49 : decode cX0_join 49 = .ok (.iinc 5 1, 3) := by decide +kernel
theorem dX0_join_52 : decode cX0_join 52 = .ok (.goto (-34), 3) := by decide +kernel
theorem dX0_join_55 : decode cX0_join 55 = .ok (.return_, 1) := by decide +kernel
theorem dX1_init_0 : decode cX1_init 0 = .ok (.aload_n 0, 1) := by decide +kernel
theorem dX1_init_1 : decode cX1_init 1 = .ok (.invokespecial 3, 3) := by decide +kernel
theorem dX1_init_4 : decode cX1_init 4 = .ok (.aload_n 0, 1) := by decide +kernel
theorem dX1_init_5 : decode cX1_init 5 = .ok (.bipush 8, 2) := by decide +kernel
theorem dX1_init_7 : decode cX1_init 7 = .ok (.newarray .int, 2) := by decide +kernel
theorem dX1_init_9 : decode cX1_init 9 = .ok (.putfield 9, 3) := by decide +kernel
theorem dX1_init_12 : decode cX1_init 12 = .ok (.aload_n 0, 1) := by decide +kernel
theorem dX1_init_13 : decode cX1_init 13 = .ok (.bipush 8, 2) := by decide +kernel
theorem dX1_init_15 : decode cX1_init 15 = .ok (.newarray .int, 2) := by decide +kernel
theorem dX1_init_17 : decode cX1_init 17 = .ok (.putfield 15, 3) := by decide +kernel
theorem dX1_init_20 : decode cX1_init 20 = .ok (.aload_n 0, 1) := by decide +kernel
theorem dX1_init_21 : decode cX1_init 21 = .ok (.bipush 8, 2) := by decide +kernel
theorem dX1_init_23 : decode cX1_init 23 = .ok (.newarray .int, 2) := by decide +kernel
theorem dX1_init_25 : decode cX1_init 25 = .ok (.putfield 18, 3) := by decide +kernel
theorem dX1_init_28 : decode cX1_init 28 = .ok (.aload_n 0, 1) := by decide +kernel
theorem dX1_init_29 : decode cX1_init 29 = .ok (.sipush 2000, 3) := by decide +kernel
theorem dX1_init_32 : decode cX1_init 32 = .ok (.newarray .int, 2) := by decide +kernel
theorem dX1_init_34 : decode cX1_init 34 = .ok (.putfield 21, 3) := by decide +kernel
theorem dX1_init_37 : decode cX1_init 37 = .ok (.aload_n 0, 1) := by decide +kernel
theorem dX1_init_38 : decode cX1_init 38 = .ok (.sipush 2000, 3) := by decide +kernel
theorem dX1_init_41 : decode cX1_init 41 = .ok (.newarray .int, 2) := by decide +kernel
theorem dX1_init_43 : decode cX1_init 43 = .ok (.putfield 24, 3) := by decide +kernel
theorem dX1_init_46 : decode cX1_init 46 = .ok (.return_, 1) := by decide +kernel
theorem dX1_tell_0 : decode cX1_tell 0 = .ok (.aload_n 0, 1) := by decide +kernel
theorem dX1_tell_1 : decode cX1_tell 1 = .ok (.aload_n 1, 1) := by decide +kernel
theorem dX1_tell_2 : decode cX1_tell 2 = .ok (.invokevirtual 27, 3) := by decide +kernel
theorem dX1_tell_5 : decode cX1_tell 5 = .ok (.aload_n 0, 1) := by decide +kernel
theorem dX1_tell_6 : decode cX1_tell 6 = .ok (.iconst 0, 1) := by decide +kernel
theorem dX1_tell_7 : decode cX1_tell 7 = .ok (.putfield 31, 3) := by decide +kernel
theorem dX1_tell_10 : decode cX1_tell 10 = .ok (.iconst 0, 1) := by decide +kernel
theorem dX1_tell_11 : decode cX1_tell 11 = .ok (.istore_n 3, 1) := by decide +kernel
theorem dX1_tell_12 : decode cX1_tell 12 = .ok (.iload_n 3, 1) := by decide +kernel
theorem dX1_tell_13 : decode cX1_tell 13 = .ok (.iload_n 2, 1) := by decide +kernel
theorem dX1_tell_14 : decode cX1_tell 14 = .ok (.if_icmp .ge 47, 3) := by decide +kernel
theorem dX1_tell_17 : decode cX1_tell 17 = .ok (.aload_n 0, 1) := by decide +kernel
theorem dX1_tell_18 : decode cX1_tell 18 = .ok (.getfield 31, 3) := by decide +kernel
theorem dX1_tell_21 : decode cX1_tell 21 = .ok (.bipush 8, 2) := by decide +kernel
theorem dX1_tell_23 : decode cX1_tell 23 = .ok (.if_icmp .ge 38, 3) := by decide +kernel
theorem dX1_tell_26 : decode cX1_tell 26 = .ok (.aload_n 0, 1) := by decide +kernel
theorem dX1_tell_27 : decode cX1_tell 27 = .ok (.getfield 24, 3) := by decide +kernel
theorem dX1_tell_30 : decode cX1_tell 30 = .ok (.iload_n 3, 1) := by decide +kernel
theorem dX1_tell_31 : decode cX1_tell 31 = .ok (.iaload, 1) := by decide +kernel
theorem dX1_tell_32 : decode cX1_tell 32 = .ok (.ifCond .le 23, 3) := by decide +kernel
theorem dX1_tell_35 : decode cX1_tell 35 = .ok (.aload_n 0, 1) := by decide +kernel
theorem dX1_tell_36 : decode cX1_tell 36 = .ok (.iload_n 3, 1) := by decide +kernel
theorem dX1_tell_37 : decode cX1_tell 37 = .ok (.iload_n 2, 1) := by decide +kernel
theorem dX1_tell_38 : decode cX1_tell 38 = .ok (.invokevirtual 35, 3) := by decide +kernel
theorem dX1_tell_41 : decode cX1_tell 41 = .ok (.aload_n 0, 1) := by decide +kernel
theorem dX1_tell_42 : decode cX1_tell 42 = .ok (.invokevirtual 39, 3) := by decide +kernel
theorem dX1_tell_45 : decode cX1_tell 45 = .ok (.aload_n 0, 1) := by decide +kernel
theorem dX1_tell_46 : decode cX1_tell 46 = .ok (.dup, 1) := by decide +kernel
theorem dX1_tell_47 : decode cX1_tell 47 = .ok (.getfield 31, 3) := by decide +kernel
theorem dX1_tell_50 : decode cX1_tell 50 = .ok (.iconst 1, 1) := by decide +kernel
theorem dX1_tell_51 : decode cX1_tell 51 = .ok (.iadd, 1) := by decide +kernel
theorem dX1_tell_52 : decode cX1_tell 52 = .ok (.putfield 31, 3) := by decide +kernel
theorem dX1_tell_55 : decode cX1_tell 55 = .ok (.iinc 3 1, 3) := by decide +kernel
theorem dX1_tell_58 : decode cX1_tell 58 = .ok (.goto (-46), 3) := by decide +kernel
theorem dX1_tell_61 : decode cX1_tell 61 = .ok (.return_, 1) := by decide +kernel
theorem dX1_drawPieces_0 : decode cX1_drawPieces 0 = .ok (.iconst 0, 1) := by decide +kernel
theorem dX1_drawPieces_1 : decode cX1_drawPieces 1 = .ok (.istore_n 2, 1) := by decide +kernel
theorem dX1_drawPieces_2 : decode cX1_drawPieces 2 = .ok (.iload_n 2, 1) := by decide +kernel
theorem dX1_drawPieces_3 : decode cX1_drawPieces 3 = .ok (.aload_n 1, 1) := by decide +kernel
theorem dX1_drawPieces_4 : decode cX1_drawPieces 4 = .ok (.getfield 42, 3) := by decide +kernel
theorem dX1_drawPieces_7 : decode cX1_drawPieces 7 = .ok (.if_icmp .ge 77, 3) := by decide +kernel
theorem dX1_drawPieces_10 : decode cX1_drawPieces 10 = .ok (.aload_n 1, 1) := by decide +kernel
theorem dX1_drawPieces_11 : decode cX1_drawPieces 11 = .ok (.getfield 45, 3) := by decide +kernel
theorem dX1_drawPieces_14 : decode cX1_drawPieces 14 = .ok (.iload_n 2, 1) := by decide +kernel
theorem dX1_drawPieces_15 : decode cX1_drawPieces 15 = .ok (.iconst 1, 1) := by decide +kernel
theorem dX1_drawPieces_16 : decode cX1_drawPieces 16 = .ok (.iadd, 1) := by decide +kernel
theorem dX1_drawPieces_17 : decode cX1_drawPieces 17 = .ok (.laload, 1) := by decide +kernel
theorem dX1_drawPieces_18 : decode cX1_drawPieces 18 = .ok (.l2i, 1) := by decide +kernel
theorem dX1_drawPieces_19 : decode cX1_drawPieces 19 = .ok (.istore_n 3, 1) := by decide +kernel
theorem dX1_drawPieces_20 : decode cX1_drawPieces 20 = .ok (.aload_n 1, 1) := by decide +kernel
theorem dX1_drawPieces_21 : decode cX1_drawPieces 21 = .ok (.getfield 49, 3) := by decide +kernel
theorem dX1_drawPieces_24 : decode cX1_drawPieces 24 = .ok (.aload_n 1, 1) := by decide +kernel
theorem dX1_drawPieces_25 : decode cX1_drawPieces 25 = .ok (.getfield 52, 3) := by decide +kernel
theorem dX1_drawPieces_28 : decode cX1_drawPieces 28 = .ok (.iload_n 2, 1) := by decide +kernel
theorem dX1_drawPieces_29 : decode cX1_drawPieces 29 = .ok (.iaload, 1) := by decide +kernel
theorem dX1_drawPieces_30 : decode cX1_drawPieces 30 = .ok (.laload, 1) := by decide +kernel
theorem dX1_drawPieces_31 : decode cX1_drawPieces 31 = .ok (.l2i, 1) := by decide +kernel
theorem dX1_drawPieces_32 : decode cX1_drawPieces 32 = .ok (.istore 4, 2) := by decide +kernel
theorem dX1_drawPieces_34 : decode cX1_drawPieces 34 = .ok (.aload_n 1, 1) := by decide +kernel
theorem dX1_drawPieces_35 : decode cX1_drawPieces 35 = .ok (.getfield 45, 3) := by decide +kernel
theorem dX1_drawPieces_38 : decode cX1_drawPieces 38 = .ok (.iload_n 2, 1) := by decide +kernel
theorem dX1_drawPieces_39 : decode cX1_drawPieces 39 = .ok (.laload, 1) := by decide +kernel
theorem dX1_drawPieces_40 : decode cX1_drawPieces 40 = .ok (.l2i, 1) := by decide +kernel
theorem dX1_drawPieces_41 : decode cX1_drawPieces 41 = .ok (.istore 5, 2) := by decide +kernel
theorem dX1_drawPieces_43 : decode cX1_drawPieces 43 = .ok (.iload 5, 2) := by decide +kernel
theorem dX1_drawPieces_45 : decode cX1_drawPieces 45 = .ok (.iload_n 3, 1) := by decide +kernel
theorem dX1_drawPieces_46 : decode cX1_drawPieces 46 = .ok (.if_icmp .ge 32, 3) := by decide +kernel
theorem dX1_drawPieces_49 : decode cX1_drawPieces 49 = .ok (.aload_n 0, 1) := by decide +kernel
theorem dX1_drawPieces_50 : decode cX1_drawPieces 50 = .ok (.getfield 21, 3) := by decide +kernel
theorem dX1_drawPieces_53 : decode cX1_drawPieces 53 = .ok (.iload 5, 2) := by decide +kernel
theorem dX1_drawPieces_55 : decode cX1_drawPieces 55 = .ok (.iload 5, 2) := by decide +kernel
theorem dX1_drawPieces_57 : decode cX1_drawPieces 57 = .ok (.iload 4, 2) := by decide +kernel
theorem dX1_drawPieces_59 : decode cX1_drawPieces 59 = .ok (.iadd, 1) := by decide +kernel
theorem dX1_drawPieces_60 : decode cX1_drawPieces 60 = .ok (.iastore, 1) := by decide +kernel
theorem dX1_drawPieces_61 : decode cX1_drawPieces 61 = .ok (.aload_n 0, 1) := by decide +kernel
theorem dX1_drawPieces_62 : decode cX1_drawPieces 62 = .ok (.getfield 24, 3) := by decide +kernel
theorem dX1_drawPieces_65 : decode cX1_drawPieces 65 = .ok (.iload 5, 2) := by decide +kernel
theorem dX1_drawPieces_67 : decode cX1_drawPieces 67 = .ok (.iload_n 3, 1) := by decide +kernel
theorem dX1_drawPieces_68 : decode cX1_drawPieces 68 = .ok (.iload 5, 2) := by decide +kernel
theorem dX1_drawPieces_70 : decode cX1_drawPieces 70 = .ok (.isub, 1) := by decide +kernel
theorem dX1_drawPieces_71 : decode cX1_drawPieces 71 = .ok (.iastore, 1) := by decide +kernel
theorem dX1_drawPieces_72 : decode cX1_drawPieces 72 = .ok (.iinc 5 1, 3) := by decide +kernel
theorem dX1_drawPieces_75 : decode cX1_drawPieces 75 = .ok (.goto (-32), 3) := by decide +kernel
theorem dX1_drawPieces_78 : decode cX1_drawPieces 78 = .ok (.iinc 2 1, 3) := by decide +kernel
theorem dX1_drawPieces_81 : decode cX1_drawPieces 81 = .ok (.goto (-79), 3) := by decide +kernel
theorem dX1_drawPieces_84 : decode cX1_drawPieces 84 = .ok (.return_, 1) := by decide +kernel
theorem dX1_measure_0 : decode cX1_measure 0 = .ok (.iload_n 2, 1) := by decide +kernel
theorem dX1_measure_1 : decode cX1_measure 1 = .ok (.istore_n 3, 1) := by decide +kernel
theorem dX1_measure_2 : decode cX1_measure 2 = .ok (.iconst 0, 1) := by decide +kernel
theorem dX1_measure_3 : decode cX1_measure 3 = .ok (.istore 4, 2) := by decide +kernel
theorem dX1_measure_5 : decode cX1_measure 5 = .ok (.iload_n 1, 1) := by decide +kernel
theorem dX1_measure_6 : decode cX1_measure 6 = .ok (.istore 5, 2) := by decide +kernel
theorem dX1_measure_8 : decode cX1_measure 8 = .ok (.iload_n 3, 1) := by decide +kernel
theorem dX1_measure_9 : decode cX1_measure 9 = .ok (.aload_n 0, 1) := by decide +kernel
theorem dX1_measure_10 : decode cX1_measure 10 = .ok (.getfield 24, 3) := by decide +kernel
theorem dX1_measure_13 : decode cX1_measure 13 = .ok (.iload 5, 2) := by decide +kernel
theorem dX1_measure_15 : decode cX1_measure 15 = .ok (.iaload, 1) := by decide +kernel
theorem dX1_measure_16 : decode cX1_measure 16 = .ok (.invokestatic 55, 3) := by decide +kernel
theorem dX1_measure_19 : decode cX1_measure 19 = .ok (.istore_n 3, 1) := by decide +kernel
theorem dX1_measure_20 : decode cX1_measure 20 = .ok (.aload_n 0, 1) := by decide +kernel
theorem dX1_measure_21 : decode cX1_measure 21 = .ok (.getfield 21, 3) := by decide +kernel
theorem dX1_measure_24 : decode cX1_measure 24 = .ok (.iload 5, 2) := by decide +kernel
theorem dX1_measure_26 : decode cX1_measure 26 = .ok (.iaload, 1) := by decide +kernel
theorem dX1_measure_27 : decode cX1_measure 27 = .ok (.istore 5, 2) := by decide +kernel
theorem dX1_measure_29 : decode cX1_measure 29 = .ok (.iinc 4 1, 3) := by decide +kernel
theorem dX1_measure_32 : decode cX1_measure 32 = .ok (.iload 5, 2) := by decide +kernel
theorem dX1_measure_34 : decode cX1_measure 34 = .ok (.iload_n 1, 1) := by decide +kernel
theorem dX1_measure_35 : decode cX1_measure 35 = .ok (.if_icmp .eq 9, 3) := by decide +kernel
theorem dX1_measure_38 : decode cX1_measure 38 = .ok (.iload 4, 2) := by decide +kernel
theorem dX1_measure_40 : decode cX1_measure 40 = .ok (.iload_n 2, 1) := by decide +kernel
theorem dX1_measure_41 : decode cX1_measure 41 = .ok (.if_icmp .lt (-33), 3) := by decide +kernel
theorem dX1_measure_44 : decode cX1_measure 44 = .ok (.aload_n 0, 1) := by decide +kernel
theorem dX1_measure_45 : decode cX1_measure 45 = .ok (.getfield 9, 3) := by decide +kernel
theorem dX1_measure_48 : decode cX1_measure 48 = .ok (.aload_n 0, 1) := by decide +kernel
theorem dX1_measure_49 : decode cX1_measure 49 = .ok (.getfield 31, 3) := by decide +kernel
theorem dX1_measure_52 : decode cX1_measure 52 = .ok (.iload_n 3, 1) := by decide +kernel
theorem dX1_measure_53 : decode cX1_measure 53 = .ok (.iastore, 1) := by decide +kernel
theorem dX1_measure_54 : decode cX1_measure 54 = .ok (.aload_n 0, 1) := by decide +kernel
theorem dX1_measure_55 : decode cX1_measure 55 = .ok (.getfield 15, 3) := by decide +kernel
theorem dX1_measure_58 : decode cX1_measure 58 = .ok (.aload_n 0, 1) := by decide +kernel
theorem dX1_measure_59 : decode cX1_measure 59 = .ok (.getfield 31, 3) := by decide +kernel
theorem dX1_measure_62 : decode cX1_measure 62 = .ok (.iload 4, 2) := by decide +kernel
theorem dX1_measure_64 : decode cX1_measure 64 = .ok (.iastore, 1) := by decide +kernel
theorem dX1_measure_65 : decode cX1_measure 65 = .ok (.aload_n 0, 1) := by decide +kernel
theorem dX1_measure_66 : decode cX1_measure 66 = .ok (.getfield 18, 3) := by decide +kernel
theorem dX1_measure_69 : decode cX1_measure 69 = .ok (.aload_n 0, 1) := by decide +kernel
theorem dX1_measure_70 : decode cX1_measure 70 = .ok (.getfield 31, 3) := by decide +kernel
theorem dX1_measure_73 : decode cX1_measure 73 = .ok (.iload_n 1, 1) := by decide +kernel
theorem dX1_measure_74 : decode cX1_measure 74 = .ok (.iastore, 1) := by decide +kernel
theorem dX1_measure_75 : decode cX1_measure 75 = .ok (.return_, 1) := by decide +kernel
theorem dX1_takeOut_0 : decode cX1_takeOut 0 = .ok (.aload_n 0, 1) := by decide +kernel
theorem dX1_takeOut_1 : decode cX1_takeOut 1 = .ok (.getfield 18, 3) := by decide +kernel
theorem dX1_takeOut_4 : decode cX1_takeOut 4 = .ok (.aload_n 0, 1) := by decide +kernel
theorem dX1_takeOut_5 : decode cX1_takeOut 5 = .ok (.getfield 31, 3) := by decide +kernel
theorem dX1_takeOut_8 : decode cX1_takeOut 8 = .ok (.iaload, 1) := by decide +kernel
theorem dX1_takeOut_9 : decode cX1_takeOut 9 = .ok (.istore_n 1, 1) := by decide +kernel
theorem dX1_takeOut_10 : decode cX1_takeOut 10 = .ok (.iconst 0, 1) := by decide +kernel
theorem dX1_takeOut_11 : decode cX1_takeOut 11 = .ok (.istore_n 2, 1) := by decide +kernel
theorem dX1_takeOut_12 : decode cX1_takeOut 12 = .ok (.iload_n 2, 1) := by decide +kernel
theorem dX1_takeOut_13 : decode cX1_takeOut 13 = .ok (.aload_n 0, 1) := by decide +kernel
theorem dX1_takeOut_14 : decode cX1_takeOut 14 = .ok (.getfield 15, 3) := by decide +kernel
theorem dX1_takeOut_17 : decode cX1_takeOut 17 = .ok (.aload_n 0, 1) := by decide +kernel
theorem dX1_takeOut_18 : decode cX1_takeOut 18 = .ok (.getfield 31, 3) := by decide +kernel
theorem dX1_takeOut_21 : decode cX1_takeOut 21 = .ok (.iaload, 1) := by decide +kernel
theorem dX1_takeOut_22 : decode cX1_takeOut 22 = .ok (.if_icmp .ge 46, 3) := by decide +kernel
theorem dX1_takeOut_25 : decode cX1_takeOut 25 = .ok (.iconst 0, 1) := by decide +kernel
theorem dX1_takeOut_26 : decode cX1_takeOut 26 = .ok (.istore_n 3, 1) := by decide +kernel
theorem dX1_takeOut_27 : decode cX1_takeOut 27 = .ok (.iload_n 3, 1) := by decide +kernel
theorem dX1_takeOut_28 : decode cX1_takeOut 28 = .ok (.aload_n 0, 1) := by decide +kernel
theorem dX1_takeOut_29 : decode cX1_takeOut 29 = .ok (.getfield 9, 3) := by decide +kernel
theorem dX1_takeOut_32 : decode cX1_takeOut 32 = .ok (.aload_n 0, 1) := by decide +kernel
theorem dX1_takeOut_33 : decode cX1_takeOut 33 = .ok (.getfield 31, 3) := by decide +kernel
theorem dX1_takeOut_36 : decode cX1_takeOut 36 = .ok (.iaload, 1) := by decide +kernel
theorem dX1_takeOut_37 : decode cX1_takeOut 37 = .ok (.if_icmp .ge 18, 3) := by decide +kernel
theorem dX1_takeOut_40 : decode cX1_takeOut 40 = .ok (.aload_n 0, 1) := by decide +kernel
theorem dX1_takeOut_41 : decode cX1_takeOut 41 = .ok (.getfield 24, 3) := by decide +kernel
theorem dX1_takeOut_44 : decode cX1_takeOut 44 = .ok (.iload_n 1, 1) := by decide +kernel
theorem dX1_takeOut_45 : decode cX1_takeOut 45 = .ok (.iload_n 3, 1) := by decide +kernel
theorem dX1_takeOut_46 : decode cX1_takeOut 46 = .ok (.iadd, 1) := by decide +kernel
theorem dX1_takeOut_47 : decode cX1_takeOut 47 = .ok (.iconst 0, 1) := by decide +kernel
theorem dX1_takeOut_48 : decode cX1_takeOut 48 = .ok (.iastore, 1) := by decide +kernel
theorem dX1_takeOut_49 : decode cX1_takeOut 49 = .ok (.iinc 3 1, 3) := by decide +kernel
theorem dX1_takeOut_52 : decode cX1_takeOut 52 = .ok (.goto (-25), 3) := by decide +kernel
theorem dX1_takeOut_55 : decode cX1_takeOut 55 = .ok (.aload_n 0, 1) := by decide +kernel
theorem dX1_takeOut_56 : decode cX1_takeOut 56 = .ok (.getfield 21, 3) := by decide +kernel
theorem dX1_takeOut_59 : decode cX1_takeOut 59 = .ok (.iload_n 1, 1) := by decide +kernel
theorem dX1_takeOut_60 : decode cX1_takeOut 60 = .ok (.iaload, 1) := by decide +kernel
theorem dX1_takeOut_61 : decode cX1_takeOut 61 = .ok (.istore_n 1, 1) := by decide +kernel
theorem dX1_takeOut_62 : decode cX1_takeOut 62 = .ok (.iinc 2 1, 3) := by decide +kernel
theorem dX1_takeOut_65 : decode cX1_takeOut 65 = .ok (.goto (-53), 3) := by decide +kernel
theorem dX1_takeOut_68 : decode cX1_takeOut 68 = .ok (.return_, 1) := by decide +kernel
theorem dX2_init_0 : decode cX2_init 0 = .ok (.aload_n 0, 1) := by decide +kernel
theorem dX2_init_1 : decode cX2_init 1 = .ok (.invokespecial 3, 3) := by decide +kernel
theorem dX2_init_4 : decode cX2_init 4 = .ok (.aload_n 0, 1) := by decide +kernel
theorem dX2_init_5 : decode cX2_init 5 = .ok (.sipush 720, 3) := by decide +kernel
theorem dX2_init_8 : decode cX2_init 8 = .ok (.newarray .boolean, 2) := by decide +kernel
theorem dX2_init_10 : decode cX2_init 10 = .ok (.putfield 9, 3) := by decide +kernel
theorem dX2_init_13 : decode cX2_init 13 = .ok (.aload_n 0, 1) := by decide +kernel
theorem dX2_init_14 : decode cX2_init 14 = .ok (.sipush 720, 3) := by decide +kernel
theorem dX2_init_17 : decode cX2_init 17 = .ok (.newarray .int, 2) := by decide +kernel
theorem dX2_init_19 : decode cX2_init 19 = .ok (.putfield 15, 3) := by decide +kernel
theorem dX2_init_22 : decode cX2_init 22 = .ok (.aload_n 0, 1) := by decide +kernel
theorem dX2_init_23 : decode cX2_init 23 = .ok (.bipush 6, 2) := by decide +kernel
theorem dX2_init_25 : decode cX2_init 25 = .ok (.newarray .int, 2) := by decide +kernel
theorem dX2_init_27 : decode cX2_init 27 = .ok (.putfield 19, 3) := by decide +kernel
theorem dX2_init_30 : decode cX2_init 30 = .ok (.aload_n 0, 1) := by decide +kernel
theorem dX2_init_31 : decode cX2_init 31 = .ok (.bipush 6, 2) := by decide +kernel
theorem dX2_init_33 : decode cX2_init 33 = .ok (.newarray .int, 2) := by decide +kernel
theorem dX2_init_35 : decode cX2_init 35 = .ok (.putfield 22, 3) := by decide +kernel
theorem dX2_init_38 : decode cX2_init 38 = .ok (.return_, 1) := by decide +kernel
theorem dX2_countFrom_0 : decode cX2_countFrom 0 = .ok (.aload_n 0, 1) := by decide +kernel
theorem dX2_countFrom_1 : decode cX2_countFrom 1 = .ok (.aload_n 1, 1) := by decide +kernel
theorem dX2_countFrom_2 : decode cX2_countFrom 2 = .ok (.getfield 25, 3) := by decide +kernel
theorem dX2_countFrom_5 : decode cX2_countFrom 5 = .ok (.putfield 31, 3) := by decide +kernel
theorem dX2_countFrom_8 : decode cX2_countFrom 8 = .ok (.aload_n 0, 1) := by decide +kernel
theorem dX2_countFrom_9 : decode cX2_countFrom 9 = .ok (.iconst 0, 1) := by decide +kernel
theorem dX2_countFrom_10 : decode cX2_countFrom 10 = .ok (.putfield 32, 3) := by decide +kernel
theorem dX2_countFrom_13 : decode cX2_countFrom 13 = .ok (.iconst 0, 1) := by decide +kernel
theorem dX2_countFrom_14 : decode cX2_countFrom 14 = .ok (.istore_n 2, 1) := by decide +kernel
theorem dX2_countFrom_15 : decode cX2_countFrom 15 = .ok (.iload_n 2, 1) := by decide +kernel
theorem dX2_countFrom_16 : decode cX2_countFrom 16 = .ok (.sipush 720, 3) := by decide +kernel
theorem dX2_countFrom_19 : decode cX2_countFrom 19 = .ok (.if_icmp .ge 16, 3) := by decide +kernel
theorem dX2_countFrom_22 : decode cX2_countFrom 22 = .ok (.aload_n 0, 1) := by decide +kernel
theorem dX2_countFrom_23 : decode cX2_countFrom 23 = .ok (.getfield 9, 3) := by decide +kernel
theorem dX2_countFrom_26 : decode cX2_countFrom 26 = .ok (.iload_n 2, 1) := by decide +kernel
theorem dX2_countFrom_27 : decode cX2_countFrom 27 = .ok (.iconst 0, 1) := by decide +kernel
theorem dX2_countFrom_28 : decode cX2_countFrom 28 = .ok (.bastore, 1) := by decide +kernel
theorem dX2_countFrom_29 : decode cX2_countFrom 29 = .ok (.iinc 2 1, 3) := by decide +kernel
theorem dX2_countFrom_32 : decode cX2_countFrom 32 = .ok (.goto (-17), 3) := by decide +kernel
theorem dX2_countFrom_35 : decode cX2_countFrom 35 = .ok (.aload_n 0, 1) := by decide +kernel
theorem dX2_countFrom_36 : decode cX2_countFrom 36 = .ok (.aload_n 1, 1) := by decide +kernel
theorem dX2_countFrom_37 : decode cX2_countFrom 37 = .ok (.invokevirtual 35, 3) := by decide +kernel
theorem dX2_countFrom_40 : decode cX2_countFrom 40 = .ok (.aload_n 0, 1) := by decide +kernel
theorem dX2_countFrom_41 : decode cX2_countFrom 41 = .ok (.invokevirtual 39, 3) := by decide +kernel
theorem dX2_countFrom_44 : decode cX2_countFrom 44 = .ok (.iconst 0, 1) := by decide +kernel
theorem dX2_countFrom_45 : decode cX2_countFrom 45 = .ok (.istore_n 2, 1) := by decide +kernel
theorem dX2_countFrom_46 : decode cX2_countFrom 46 = .ok (.iload_n 2, 1) := by decide +kernel
theorem dX2_countFrom_47 : decode cX2_countFrom 47 = .ok (.aload_n 0, 1) := by decide +kernel
theorem dX2_countFrom_48 : decode cX2_countFrom 48 = .ok (.getfield 32, 3) := by decide +kernel
theorem dX2_countFrom_51 : decode cX2_countFrom 51 = .ok (.if_icmp .ge 62, 3) := by decide +kernel
theorem dX2_countFrom_54 : decode cX2_countFrom 54 = .ok (.iload_n 2, 1) := by decide +kernel
theorem dX2_countFrom_55 : decode cX2_countFrom 55 = .ok (.sipush 720, 3) := by decide +kernel
theorem dX2_countFrom_58 : decode cX2_countFrom 58 = .ok (.if_icmp .ge 55, 3) := by decide +kernel
theorem dX2_countFrom_61 : decode cX2_countFrom 61 = .ok (.aload_n 0, 1) := by decide +kernel
theorem dX2_countFrom_62 : decode cX2_countFrom 62 = .ok (.aload_n 0, 1) := by decide +kernel
theorem dX2_countFrom_63 : decode cX2_countFrom 63 = .ok (.getfield 15, 3) := by decide +kernel
theorem dX2_countFrom_66 : decode cX2_countFrom 66 = .ok (.iload_n 2, 1) := by decide +kernel
theorem dX2_countFrom_67 : decode cX2_countFrom 67 = .ok (.iaload, 1) := by decide +kernel
theorem dX2_countFrom_68 : decode cX2_countFrom 68 = .ok (.invokevirtual 42, 3) := by decide +kernel
theorem dX2_countFrom_71 : decode cX2_countFrom 71 = .ok (.aload_n 0, 1) := by decide +kernel
theorem dX2_countFrom_72 : decode cX2_countFrom 72 = .ok (.getfield 19, 3) := by decide +kernel
theorem dX2_countFrom_75 : decode cX2_countFrom 75 = .ok (.aload_n 0, 1) := by decide +kernel
theorem dX2_countFrom_76 : decode cX2_countFrom 76 = .ok (.getfield 31, 3) := by decide +kernel
theorem dX2_countFrom_79 : decode cX2_countFrom 79 = .ok (.iconst 1, 1) := by decide +kernel
theorem dX2_countFrom_80 : decode cX2_countFrom 80 = .ok (.isub, 1) := by decide +kernel
theorem dX2_countFrom_81 : decode cX2_countFrom 81 = .ok (.iaload, 1) := by decide +kernel
theorem dX2_countFrom_82 : decode cX2_countFrom 82 = .ok (.aload_n 0, 1) := by decide +kernel
theorem dX2_countFrom_83 : decode cX2_countFrom 83 = .ok (.getfield 31, 3) := by decide +kernel
theorem dX2_countFrom_86 : decode cX2_countFrom 86 = .ok (.iconst 1, 1) := by decide +kernel
theorem dX2_countFrom_87 : decode cX2_countFrom 87 = .ok (.isub, 1) := by decide +kernel
theorem dX2_countFrom_88 : decode cX2_countFrom 88 = .ok (.if_icmp .eq 19, 3) := by decide +kernel
theorem dX2_countFrom_91 : decode cX2_countFrom 91 = .ok (.aload_n 0, 1) := by decide +kernel
theorem dX2_countFrom_92 : decode cX2_countFrom 92 = .ok (.invokevirtual 46, 3) := by decide +kernel
theorem dX2_countFrom_95 : decode cX2_countFrom 95 = .ok (.aload_n 0, 1) := by decide +kernel
theorem dX2_countFrom_96 : decode cX2_countFrom 96 = .ok (.invokevirtual 39, 3) := by decide +kernel
theorem dX2_countFrom_99 : decode cX2_countFrom 99 = .ok (.aload_n 0, 1) := by decide +kernel
theorem dX2_countFrom_100 : decode cX2_countFrom 100 = .ok (.invokevirtual 49, 3) := by decide +kernel
theorem dX2_countFrom_103 : decode cX2_countFrom 103 = .ok (.aload_n 0, 1) := by decide +kernel
theorem dX2_countFrom_104 : decode cX2_countFrom 104 = .ok (.invokevirtual 39, 3) := by decide +kernel
theorem dX2_countFrom_107 : decode cX2_countFrom 107 = .ok (.iinc 2 1, 3) := by decide +kernel
theorem dX2_countFrom_110 : decode cX2_countFrom 110 = .ok (.goto (-64), 3) := by decide +kernel
theorem dX2_countFrom_113 : decode cX2_countFrom 113 = .ok (.aload_n 0, 1) := by decide +kernel
theorem dX2_countFrom_114 : decode cX2_countFrom 114 = .ok (.getfield 32, 3) := by decide +kernel
theorem dX2_countFrom_117 : decode cX2_countFrom 117 = .ok (.ireturn, 1) := by decide +kernel
theorem dX2_nameByPlaceAbove_0 : decode cX2_nameByPlaceAbove 0 = .ok (.iconst 0, 1) := by decide +kernel
theorem dX2_nameByPlaceAbove_1 : decode cX2_nameByPlaceAbove 1 = .ok (.istore_n 2, 1) := by decide +kernel
theorem dX2_nameByPlaceAbove_2 : decode cX2_nameByPlaceAbove 2 = .ok (.iload_n 2, 1) := by decide +kernel
theorem dX2_nameByPlaceAbove_3 : decode cX2_nameByPlaceAbove 3 = .ok (.aload_n 0, 1) := by decide +kernel
theorem dX2_nameByPlaceAbove_4 : decode cX2_nameByPlaceAbove 4 = .ok (.getfield 31, 3) := by decide +kernel
theorem dX2_nameByPlaceAbove_7 : decode cX2_nameByPlaceAbove 7 = .ok (.if_icmp .ge 47, 3) := by decide +kernel
theorem dX2_nameByPlaceAbove_10 : decode cX2_nameByPlaceAbove 10 = .ok (.iconst 0, 1) := by decide +kernel
theorem dX2_nameByPlaceAbove_11 : decode cX2_nameByPlaceAbove 11 = .ok (.istore_n 3, 1) := by decide +kernel
theorem dX2_nameByPlaceAbove_12 : decode cX2_nameByPlaceAbove 12 = .ok (.iload_n 3, 1) := by decide +kernel
theorem dX2_nameByPlaceAbove_13 : decode cX2_nameByPlaceAbove 13 = .ok (.aload_n 0, 1) := by decide +kernel
theorem dX2_nameByPlaceAbove_14 : decode cX2_nameByPlaceAbove 14 = .ok (.getfield 31, 3) := by decide +kernel
theorem dX2_nameByPlaceAbove_17 : decode cX2_nameByPlaceAbove 17 = .ok (.if_icmp .ge 31, 3) := by decide +kernel
theorem dX2_nameByPlaceAbove_20 : decode cX2_nameByPlaceAbove 20 = .ok (.aload_n 1, 1) := by decide +kernel
theorem dX2_nameByPlaceAbove_21 : decode cX2_nameByPlaceAbove 21 = .ok (.getfield 52, 3) := by decide +kernel
theorem dX2_nameByPlaceAbove_24 : decode cX2_nameByPlaceAbove 24 = .ok (.iload_n 3, 1) := by decide +kernel
theorem dX2_nameByPlaceAbove_25 : decode cX2_nameByPlaceAbove 25 = .ok (.iaload, 1) := by decide +kernel
theorem dX2_nameByPlaceAbove_26 : decode cX2_nameByPlaceAbove 26 = .ok (.aload_n 1, 1) := by decide +kernel
theorem dX2_nameByPlaceAbove_27 : decode cX2_nameByPlaceAbove 27 = .ok (.getfield 55, 3) := by decide +kernel
theorem dX2_nameByPlaceAbove_30 : decode cX2_nameByPlaceAbove 30 = .ok (.iload_n 2, 1) := by decide +kernel
theorem dX2_nameByPlaceAbove_31 : decode cX2_nameByPlaceAbove 31 = .ok (.iaload, 1) := by decide +kernel
theorem dX2_nameByPlaceAbove_32 : decode cX2_nameByPlaceAbove 32 = .ok (.if_icmp .ne 10, 3) := by decide +kernel
theorem dX2_nameByPlaceAbove_35 : decode cX2_nameByPlaceAbove 35 = .ok (.aload_n 0, 1) := by decide +kernel
theorem dX2_nameByPlaceAbove_36 : decode cX2_nameByPlaceAbove 36 = .ok (.getfield 22, 3) := by decide +kernel
theorem dX2_nameByPlaceAbove_39 : decode cX2_nameByPlaceAbove 39 = .ok (.iload_n 3, 1) := by decide +kernel
theorem dX2_nameByPlaceAbove_40 : decode cX2_nameByPlaceAbove 40 = .ok (.iload_n 2, 1) := by decide +kernel
theorem dX2_nameByPlaceAbove_41 : decode cX2_nameByPlaceAbove 41 = .ok (.iastore, 1) := by decide +kernel
theorem dX2_nameByPlaceAbove_42 : decode cX2_nameByPlaceAbove 42 = .ok (.iinc 3 1, 3) := by decide +kernel
theorem dX2_nameByPlaceAbove_45 : decode cX2_nameByPlaceAbove 45 = .ok (.goto (-33), 3) := by decide +kernel
theorem dX2_nameByPlaceAbove_48 : decode cX2_nameByPlaceAbove 48 = .ok (.iinc 2 1, 3) := by decide +kernel
theorem dX2_nameByPlaceAbove_51 : decode cX2_nameByPlaceAbove 51 = .ok (.goto (-49), 3) := by decide +kernel
theorem dX2_nameByPlaceAbove_54 : decode cX2_nameByPlaceAbove 54 = .ok (.return_, 1) := by decide +kernel
theorem dX2_letUWin_0 : decode cX2_letUWin 0 = .ok (.aload_n 0, 1) := by decide +kernel
theorem dX2_letUWin_1 : decode cX2_letUWin 1 = .ok (.getfield 31, 3) := by decide +kernel
theorem dX2_letUWin_4 : decode cX2_letUWin 4 = .ok (.iconst 1, 1) := by decide +kernel
theorem dX2_letUWin_5 : decode cX2_letUWin 5 = .ok (.isub, 1) := by decide +kernel
theorem dX2_letUWin_6 : decode cX2_letUWin 6 = .ok (.istore_n 1, 1) := by decide +kernel
theorem dX2_letUWin_7 : decode cX2_letUWin 7 = .ok (.aload_n 0, 1) := by decide +kernel
theorem dX2_letUWin_8 : decode cX2_letUWin 8 = .ok (.getfield 19, 3) := by decide +kernel
theorem dX2_letUWin_11 : decode cX2_letUWin 11 = .ok (.aload_n 0, 1) := by decide +kernel
theorem dX2_letUWin_12 : decode cX2_letUWin 12 = .ok (.getfield 31, 3) := by decide +kernel
theorem dX2_letUWin_15 : decode cX2_letUWin 15 = .ok (.iconst 1, 1) := by decide +kernel
theorem dX2_letUWin_16 : decode cX2_letUWin 16 = .ok (.isub, 1) := by decide +kernel
theorem dX2_letUWin_17 : decode cX2_letUWin 17 = .ok (.iaload, 1) := by decide +kernel
theorem dX2_letUWin_18 : decode cX2_letUWin 18 = .ok (.istore_n 2, 1) := by decide +kernel
theorem dX2_letUWin_19 : decode cX2_letUWin 19 = .ok (.iconst 0, 1) := by decide +kernel
theorem dX2_letUWin_20 : decode cX2_letUWin 20 = .ok (.istore_n 3, 1) := by decide +kernel
theorem dX2_letUWin_21 : decode cX2_letUWin 21 = .ok (.iconst 0, 1) := by decide +kernel
theorem dX2_letUWin_22 : decode cX2_letUWin 22 = .ok (.istore 4, 2) := by decide +kernel
theorem dX2_letUWin_24 : decode cX2_letUWin 24 = .ok (.iload 4, 2) := by decide +kernel
theorem dX2_letUWin_26 : decode cX2_letUWin 26 = .ok (.aload_n 0, 1) := by decide +kernel
theorem dX2_letUWin_27 : decode cX2_letUWin 27 = .ok (.getfield 31, 3) := by decide +kernel
theorem dX2_letUWin_30 : decode cX2_letUWin 30 = .ok (.iconst 1, 1) := by decide +kernel
theorem dX2_letUWin_31 : decode cX2_letUWin 31 = .ok (.isub, 1) := by decide +kernel
theorem dX2_letUWin_32 : decode cX2_letUWin 32 = .ok (.if_icmp .ge 46, 3) := by decide +kernel
theorem dX2_letUWin_35 : decode cX2_letUWin 35 = .ok (.aload_n 0, 1) := by decide +kernel
theorem dX2_letUWin_36 : decode cX2_letUWin 36 = .ok (.getfield 22, 3) := by decide +kernel
theorem dX2_letUWin_39 : decode cX2_letUWin 39 = .ok (.iload_n 3, 1) := by decide +kernel
theorem dX2_letUWin_40 : decode cX2_letUWin 40 = .ok (.aload_n 0, 1) := by decide +kernel
theorem dX2_letUWin_41 : decode cX2_letUWin 41 = .ok (.getfield 19, 3) := by decide +kernel
theorem dX2_letUWin_44 : decode cX2_letUWin 44 = .ok (.iload 4, 2) := by decide +kernel
theorem dX2_letUWin_46 : decode cX2_letUWin 46 = .ok (.iaload, 1) := by decide +kernel
theorem dX2_letUWin_47 : decode cX2_letUWin 47 = .ok (.iastore, 1) := by decide +kernel
theorem dX2_letUWin_48 : decode cX2_letUWin 48 = .ok (.iinc 3 1, 3) := by decide +kernel
theorem dX2_letUWin_51 : decode cX2_letUWin 51 = .ok (.aload_n 0, 1) := by decide +kernel
theorem dX2_letUWin_52 : decode cX2_letUWin 52 = .ok (.getfield 19, 3) := by decide +kernel
theorem dX2_letUWin_55 : decode cX2_letUWin 55 = .ok (.iload 4, 2) := by decide +kernel
theorem dX2_letUWin_57 : decode cX2_letUWin 57 = .ok (.iaload, 1) := by decide +kernel
theorem dX2_letUWin_58 : decode cX2_letUWin 58 = .ok (.iload_n 1, 1) := by decide +kernel
theorem dX2_letUWin_59 : decode cX2_letUWin 59 = .ok (.if_icmp .ne 13, 3) := by decide +kernel
theorem dX2_letUWin_62 : decode cX2_letUWin 62 = .ok (.aload_n 0, 1) := by decide +kernel
theorem dX2_letUWin_63 : decode cX2_letUWin 63 = .ok (.getfield 22, 3) := by decide +kernel
theorem dX2_letUWin_66 : decode cX2_letUWin 66 = .ok (.iload_n 3, 1) := by decide +kernel
theorem dX2_letUWin_67 : decode cX2_letUWin 67 = .ok (.iload_n 2, 1) := by decide +kernel
theorem dX2_letUWin_68 : decode cX2_letUWin 68 = .ok (.iastore, 1) := by decide +kernel
theorem dX2_letUWin_69 : decode cX2_letUWin 69 = .ok (.iinc 3 1, 3) := by decide +kernel
theorem dX2_letUWin_72 : decode cX2_letUWin 72 = .ok (.iinc 4 1, 3) := by decide +kernel
theorem dX2_letUWin_75 : decode cX2_letUWin 75 = .ok (.goto (-51), 3) := by decide +kernel
theorem dX2_letUWin_78 : decode cX2_letUWin 78 = .ok (.return_, 1) := by decide +kernel
theorem dX2_letVWin_0 : decode cX2_letVWin 0 = .ok (.aload_n 0, 1) := by decide +kernel
theorem dX2_letVWin_1 : decode cX2_letVWin 1 = .ok (.getfield 31, 3) := by decide +kernel
theorem dX2_letVWin_4 : decode cX2_letVWin 4 = .ok (.iconst 1, 1) := by decide +kernel
theorem dX2_letVWin_5 : decode cX2_letVWin 5 = .ok (.isub, 1) := by decide +kernel
theorem dX2_letVWin_6 : decode cX2_letVWin 6 = .ok (.istore_n 1, 1) := by decide +kernel
theorem dX2_letVWin_7 : decode cX2_letVWin 7 = .ok (.aload_n 0, 1) := by decide +kernel
theorem dX2_letVWin_8 : decode cX2_letVWin 8 = .ok (.getfield 19, 3) := by decide +kernel
theorem dX2_letVWin_11 : decode cX2_letVWin 11 = .ok (.aload_n 0, 1) := by decide +kernel
theorem dX2_letVWin_12 : decode cX2_letVWin 12 = .ok (.getfield 31, 3) := by decide +kernel
theorem dX2_letVWin_15 : decode cX2_letVWin 15 = .ok (.iconst 1, 1) := by decide +kernel
theorem dX2_letVWin_16 : decode cX2_letVWin 16 = .ok (.isub, 1) := by decide +kernel
theorem dX2_letVWin_17 : decode cX2_letVWin 17 = .ok (.iaload, 1) := by decide +kernel
theorem dX2_letVWin_18 : decode cX2_letVWin 18 = .ok (.istore_n 2, 1) := by decide +kernel
theorem dX2_letVWin_19 : decode cX2_letVWin 19 = .ok (.iconst 0, 1) := by decide +kernel
theorem dX2_letVWin_20 : decode cX2_letVWin 20 = .ok (.istore_n 3, 1) := by decide +kernel
theorem dX2_letVWin_21 : decode cX2_letVWin 21 = .ok (.iload_n 3, 1) := by decide +kernel
theorem dX2_letVWin_22 : decode cX2_letVWin 22 = .ok (.aload_n 0, 1) := by decide +kernel
theorem dX2_letVWin_23 : decode cX2_letVWin 23 = .ok (.getfield 31, 3) := by decide +kernel
theorem dX2_letVWin_26 : decode cX2_letVWin 26 = .ok (.if_icmp .ge 50, 3) := by decide +kernel
theorem dX2_letVWin_29 : decode cX2_letVWin 29 = .ok (.aload_n 0, 1) := by decide +kernel
theorem dX2_letVWin_30 : decode cX2_letVWin 30 = .ok (.getfield 19, 3) := by decide +kernel
theorem dX2_letVWin_33 : decode cX2_letVWin 33 = .ok (.iload_n 3, 1) := by decide +kernel
theorem dX2_letVWin_34 : decode cX2_letVWin 34 = .ok (.iaload, 1) := by decide +kernel
theorem dX2_letVWin_35 : decode cX2_letVWin 35 = .ok (.istore 4, 2) := by decide +kernel
theorem dX2_letVWin_37 : decode cX2_letVWin 37 = .ok (.aload_n 0, 1) := by decide +kernel
theorem dX2_letVWin_38 : decode cX2_letVWin 38 = .ok (.getfield 22, 3) := by decide +kernel
theorem dX2_letVWin_41 : decode cX2_letVWin 41 = .ok (.iload_n 3, 1) := by decide +kernel
theorem dX2_letVWin_42 : decode cX2_letVWin 42 = .ok (.iload 4, 2) := by decide +kernel
theorem dX2_letVWin_44 : decode cX2_letVWin 44 = .ok (.iload_n 2, 1) := by decide +kernel
theorem dX2_letVWin_45 : decode cX2_letVWin 45 = .ok (.if_icmp .gt 8, 3) := by decide +kernel
theorem dX2_letVWin_48 : decode cX2_letVWin 48 = .ok (.iload 4, 2) := by decide +kernel
theorem dX2_letVWin_50 : decode cX2_letVWin 50 = .ok (.goto 19, 3) := by decide +kernel
theorem dX2_letVWin_53 : decode cX2_letVWin 53 = .ok (.iload 4, 2) := by decide +kernel
theorem dX2_letVWin_55 : decode cX2_letVWin 55 = .ok (.iload_n 1, 1) := by decide +kernel
theorem dX2_letVWin_56 : decode cX2_letVWin 56 = .ok (.if_icmp .ne 9, 3) := by decide +kernel
theorem dX2_letVWin_59 : decode cX2_letVWin 59 = .ok (.iload_n 2, 1) := by decide +kernel
theorem dX2_letVWin_60 : decode cX2_letVWin 60 = .ok (.iconst 1, 1) := by decide +kernel
theorem dX2_letVWin_61 : decode cX2_letVWin 61 = .ok (.iadd, 1) := by decide +kernel
theorem dX2_letVWin_62 : decode cX2_letVWin 62 = .ok (.goto 7, 3) := by decide +kernel
theorem dX2_letVWin_65 : decode cX2_letVWin 65 = .ok (.iload 4, 2) := by decide +kernel
theorem dX2_letVWin_67 : decode cX2_letVWin 67 = .ok (.iconst 1, 1) := by decide +kernel
theorem dX2_letVWin_68 : decode cX2_letVWin 68 = .ok (.iadd, 1) := by decide +kernel
theorem dX2_letVWin_69 : decode cX2_letVWin 69 = .ok (.iastore, 1) := by decide +kernel
theorem dX2_letVWin_70 : decode cX2_letVWin 70 = .ok (.iinc 3 1, 3) := by decide +kernel
theorem dX2_letVWin_73 : decode cX2_letVWin 73 = .ok (.goto (-52), 3) := by decide +kernel
theorem dX2_letVWin_76 : decode cX2_letVWin 76 = .ok (.return_, 1) := by decide +kernel
theorem dX2_takeNext_0 : decode cX2_takeNext 0 = .ok (.aload_n 0, 1) := by decide +kernel
theorem dX2_takeNext_1 : decode cX2_takeNext 1 = .ok (.invokevirtual 58, 3) := by decide +kernel
theorem dX2_takeNext_4 : decode cX2_takeNext 4 = .ok (.istore_n 1, 1) := by decide +kernel
theorem dX2_takeNext_5 : decode cX2_takeNext 5 = .ok (.aload_n 0, 1) := by decide +kernel
theorem dX2_takeNext_6 : decode cX2_takeNext 6 = .ok (.getfield 9, 3) := by decide +kernel
theorem dX2_takeNext_9 : decode cX2_takeNext 9 = .ok (.iload_n 1, 1) := by decide +kernel
theorem dX2_takeNext_10 : decode cX2_takeNext 10 = .ok (.baload, 1) := by decide +kernel
theorem dX2_takeNext_11 : decode cX2_takeNext 11 = .ok (.ifCond .ne 13, 3) := by decide +kernel
theorem dX2_takeNext_14 : decode cX2_takeNext 14 = .ok (.aload_n 0, 1) := by decide +kernel
theorem dX2_takeNext_15 : decode cX2_takeNext 15 = .ok (.getfield 32, 3) := by decide +kernel
theorem dX2_takeNext_18 : decode cX2_takeNext 18 = .ok (.sipush 720, 3) := by decide +kernel
theorem dX2_takeNext_21 : decode cX2_takeNext 21 = .ok (.if_icmp .lt 4, 3) := by decide +kernel
theorem dX2_takeNext_24 : decode cX2_takeNext 24 = .ok (.return_, 1) := by decide +kernel
theorem dX2_takeNext_25 : decode cX2_takeNext 25 = .ok (.aload_n 0, 1) := by decide +kernel
theorem dX2_takeNext_26 : decode cX2_takeNext 26 = .ok (.getfield 9, 3) := by decide +kernel
theorem dX2_takeNext_29 : decode cX2_takeNext 29 = .ok (.iload_n 1, 1) := by decide +kernel
theorem dX2_takeNext_30 : decode cX2_takeNext 30 = .ok (.iconst 1, 1) := by decide +kernel
theorem dX2_takeNext_31 : decode cX2_takeNext 31 = .ok (.bastore, 1) := by decide +kernel
theorem dX2_takeNext_32 : decode cX2_takeNext 32 = .ok (.aload_n 0, 1) := by decide +kernel
theorem dX2_takeNext_33 : decode cX2_takeNext 33 = .ok (.getfield 15, 3) := by decide +kernel
theorem dX2_takeNext_36 : decode cX2_takeNext 36 = .ok (.aload_n 0, 1) := by decide +kernel
theorem dX2_takeNext_37 : decode cX2_takeNext 37 = .ok (.getfield 32, 3) := by decide +kernel
theorem dX2_takeNext_40 : decode cX2_takeNext 40 = .ok (.aload_n 0, 1) := by decide +kernel
theorem dX2_takeNext_41 : decode cX2_takeNext 41 = .ok (.invokevirtual 62, 3) := by decide +kernel
theorem dX2_takeNext_44 : decode cX2_takeNext 44 = .ok (.iastore, 1) := by decide +kernel
theorem dX2_takeNext_45 : decode cX2_takeNext 45 = .ok (.aload_n 0, 1) := by decide +kernel
theorem dX2_takeNext_46 : decode cX2_takeNext 46 = .ok (.dup, 1) := by decide +kernel
theorem dX2_takeNext_47 : decode cX2_takeNext 47 = .ok (.getfield 32, 3) := by decide +kernel
theorem dX2_takeNext_50 : decode cX2_takeNext 50 = .ok (.iconst 1, 1) := by decide +kernel
theorem dX2_takeNext_51 : decode cX2_takeNext 51 = .ok (.iadd, 1) := by decide +kernel
theorem dX2_takeNext_52 : decode cX2_takeNext 52 = .ok (.putfield 32, 3) := by decide +kernel
theorem dX2_takeNext_55 : decode cX2_takeNext 55 = .ok (.return_, 1) := by decide +kernel
theorem dX2_rankOfNext_0 : decode cX2_rankOfNext 0 = .ok (.iconst 0, 1) := by decide +kernel
theorem dX2_rankOfNext_1 : decode cX2_rankOfNext 1 = .ok (.istore_n 1, 1) := by decide +kernel
theorem dX2_rankOfNext_2 : decode cX2_rankOfNext 2 = .ok (.iconst 0, 1) := by decide +kernel
theorem dX2_rankOfNext_3 : decode cX2_rankOfNext 3 = .ok (.istore_n 2, 1) := by decide +kernel
theorem dX2_rankOfNext_4 : decode cX2_rankOfNext 4 = .ok (.iload_n 2, 1) := by decide +kernel
theorem dX2_rankOfNext_5 : decode cX2_rankOfNext 5 = .ok (.aload_n 0, 1) := by decide +kernel
theorem dX2_rankOfNext_6 : decode cX2_rankOfNext 6 = .ok (.getfield 31, 3) := by decide +kernel
theorem dX2_rankOfNext_9 : decode cX2_rankOfNext 9 = .ok (.if_icmp .ge 61, 3) := by decide +kernel
theorem dX2_rankOfNext_12 : decode cX2_rankOfNext 12 = .ok (.iconst 0, 1) := by decide +kernel
theorem dX2_rankOfNext_13 : decode cX2_rankOfNext 13 = .ok (.istore_n 3, 1) := by decide +kernel
theorem dX2_rankOfNext_14 : decode cX2_rankOfNext 14 = .ok (.iload_n 2, 1) := by decide +kernel
theorem dX2_rankOfNext_15 : decode cX2_rankOfNext 15 = .ok (.iconst 1, 1) := by decide +kernel
theorem dX2_rankOfNext_16 : decode cX2_rankOfNext 16 = .ok (.iadd, 1) := by decide +kernel
theorem dX2_rankOfNext_17 : decode cX2_rankOfNext 17 = .ok (.istore 4, 2) := by decide +kernel
theorem dX2_rankOfNext_19 : decode cX2_rankOfNext 19 = .ok (.iload 4, 2) := by decide +kernel
theorem dX2_rankOfNext_21 : decode cX2_rankOfNext 21 = .ok (.aload_n 0, 1) := by decide +kernel
theorem dX2_rankOfNext_22 : decode cX2_rankOfNext 22 = .ok (.getfield 31, 3) := by decide +kernel
theorem dX2_rankOfNext_25 : decode cX2_rankOfNext 25 = .ok (.if_icmp .ge 28, 3) := by decide +kernel
theorem dX2_rankOfNext_28 : decode cX2_rankOfNext 28 = .ok (.aload_n 0, 1) := by decide +kernel
theorem dX2_rankOfNext_29 : decode cX2_rankOfNext 29 = .ok (.getfield 22, 3) := by decide +kernel
theorem dX2_rankOfNext_32 : decode cX2_rankOfNext 32 = .ok (.iload 4, 2) := by decide +kernel
theorem dX2_rankOfNext_34 : decode cX2_rankOfNext 34 = .ok (.iaload, 1) := by decide +kernel
theorem dX2_rankOfNext_35 : decode cX2_rankOfNext 35 = .ok (.aload_n 0, 1) := by decide +kernel
theorem dX2_rankOfNext_36 : decode cX2_rankOfNext 36 = .ok (.getfield 22, 3) := by decide +kernel
theorem dX2_rankOfNext_39 : decode cX2_rankOfNext 39 = .ok (.iload_n 2, 1) := by decide +kernel
theorem dX2_rankOfNext_40 : decode cX2_rankOfNext 40 = .ok (.iaload, 1) := by decide +kernel
theorem dX2_rankOfNext_41 : decode cX2_rankOfNext 41 = .ok (.if_icmp .ge 6, 3) := by decide +kernel
theorem dX2_rankOfNext_44 : decode cX2_rankOfNext 44 = .ok (.iinc 3 1, 3) := by decide +kernel
theorem dX2_rankOfNext_47 : decode cX2_rankOfNext 47 = .ok (.iinc 4 1, 3) := by decide +kernel
theorem dX2_rankOfNext_50 : decode cX2_rankOfNext 50 = .ok (.goto (-31), 3) := by decide +kernel
theorem dX2_rankOfNext_53 : decode cX2_rankOfNext 53 = .ok (.iload_n 1, 1) := by decide +kernel
theorem dX2_rankOfNext_54 : decode cX2_rankOfNext 54 = .ok (.aload_n 0, 1) := by decide +kernel
theorem dX2_rankOfNext_55 : decode cX2_rankOfNext 55 = .ok (.getfield 31, 3) := by decide +kernel
theorem dX2_rankOfNext_58 : decode cX2_rankOfNext 58 = .ok (.iload_n 2, 1) := by decide +kernel
theorem dX2_rankOfNext_59 : decode cX2_rankOfNext 59 = .ok (.isub, 1) := by decide +kernel
theorem dX2_rankOfNext_60 : decode cX2_rankOfNext 60 = .ok (.imul, 1) := by decide +kernel
theorem dX2_rankOfNext_61 : decode cX2_rankOfNext 61 = .ok (.iload_n 3, 1) := by decide +kernel
theorem dX2_rankOfNext_62 : decode cX2_rankOfNext 62 = .ok (.iadd, 1) := by decide +kernel
theorem dX2_rankOfNext_63 : decode cX2_rankOfNext 63 = .ok (.istore_n 1, 1) := by decide +kernel
theorem dX2_rankOfNext_64 : decode cX2_rankOfNext 64 = .ok (.iinc 2 1, 3) := by decide +kernel
theorem dX2_rankOfNext_67 : decode cX2_rankOfNext 67 = .ok (.goto (-63), 3) := by decide +kernel
theorem dX2_rankOfNext_70 : decode cX2_rankOfNext 70 = .ok (.iload_n 1, 1) := by decide +kernel
theorem dX2_rankOfNext_71 : decode cX2_rankOfNext 71 = .ok (.ireturn, 1) := by decide +kernel
theorem dX2_packNext_0 : decode cX2_packNext 0 = .ok (.iconst 0, 1) := by decide +kernel
theorem dX2_packNext_1 : decode cX2_packNext 1 = .ok (.istore_n 1, 1) := by decide +kernel
theorem dX2_packNext_2 : decode cX2_packNext 2 = .ok (.iconst 0, 1) := by decide +kernel
theorem dX2_packNext_3 : decode cX2_packNext 3 = .ok (.istore_n 2, 1) := by decide +kernel
theorem dX2_packNext_4 : decode cX2_packNext 4 = .ok (.iload_n 2, 1) := by decide +kernel
theorem dX2_packNext_5 : decode cX2_packNext 5 = .ok (.aload_n 0, 1) := by decide +kernel
theorem dX2_packNext_6 : decode cX2_packNext 6 = .ok (.getfield 31, 3) := by decide +kernel
theorem dX2_packNext_9 : decode cX2_packNext 9 = .ok (.if_icmp .ge 22, 3) := by decide +kernel
theorem dX2_packNext_12 : decode cX2_packNext 12 = .ok (.iload_n 1, 1) := by decide +kernel
theorem dX2_packNext_13 : decode cX2_packNext 13 = .ok (.aload_n 0, 1) := by decide +kernel
theorem dX2_packNext_14 : decode cX2_packNext 14 = .ok (.getfield 22, 3) := by decide +kernel
theorem dX2_packNext_17 : decode cX2_packNext 17 = .ok (.iload_n 2, 1) := by decide +kernel
theorem dX2_packNext_18 : decode cX2_packNext 18 = .ok (.iaload, 1) := by decide +kernel
theorem dX2_packNext_19 : decode cX2_packNext 19 = .ok (.iconst 4, 1) := by decide +kernel
theorem dX2_packNext_20 : decode cX2_packNext 20 = .ok (.iload_n 2, 1) := by decide +kernel
theorem dX2_packNext_21 : decode cX2_packNext 21 = .ok (.imul, 1) := by decide +kernel
theorem dX2_packNext_22 : decode cX2_packNext 22 = .ok (.ishl, 1) := by decide +kernel
theorem dX2_packNext_23 : decode cX2_packNext 23 = .ok (.ior, 1) := by decide +kernel
theorem dX2_packNext_24 : decode cX2_packNext 24 = .ok (.istore_n 1, 1) := by decide +kernel
theorem dX2_packNext_25 : decode cX2_packNext 25 = .ok (.iinc 2 1, 3) := by decide +kernel
theorem dX2_packNext_28 : decode cX2_packNext 28 = .ok (.goto (-24), 3) := by decide +kernel
theorem dX2_packNext_31 : decode cX2_packNext 31 = .ok (.iload_n 1, 1) := by decide +kernel
theorem dX2_packNext_32 : decode cX2_packNext 32 = .ok (.ireturn, 1) := by decide +kernel
theorem dX2_unpack_0 : decode cX2_unpack 0 = .ok (.iconst 0, 1) := by decide +kernel
theorem dX2_unpack_1 : decode cX2_unpack 1 = .ok (.istore_n 2, 1) := by decide +kernel
theorem dX2_unpack_2 : decode cX2_unpack 2 = .ok (.iload_n 2, 1) := by decide +kernel
theorem dX2_unpack_3 : decode cX2_unpack 3 = .ok (.aload_n 0, 1) := by decide +kernel
theorem dX2_unpack_4 : decode cX2_unpack 4 = .ok (.getfield 31, 3) := by decide +kernel
theorem dX2_unpack_7 : decode cX2_unpack 7 = .ok (.if_icmp .ge 23, 3) := by decide +kernel
theorem dX2_unpack_10 : decode cX2_unpack 10 = .ok (.aload_n 0, 1) := by decide +kernel
theorem dX2_unpack_11 : decode cX2_unpack 11 = .ok (.getfield 19, 3) := by decide +kernel
theorem dX2_unpack_14 : decode cX2_unpack 14 = .ok (.iload_n 2, 1) := by decide +kernel
theorem dX2_unpack_15 : decode cX2_unpack 15 = .ok (.iload_n 1, 1) := by decide +kernel
theorem dX2_unpack_16 : decode cX2_unpack 16 = .ok (.iconst 4, 1) := by decide +kernel
theorem dX2_unpack_17 : decode cX2_unpack 17 = .ok (.iload_n 2, 1) := by decide +kernel
theorem dX2_unpack_18 : decode cX2_unpack 18 = .ok (.imul, 1) := by decide +kernel
theorem dX2_unpack_19 : decode cX2_unpack 19 = .ok (.iushr, 1) := by decide +kernel
theorem dX2_unpack_20 : decode cX2_unpack 20 = .ok (.bipush 15, 2) := by decide +kernel
theorem dX2_unpack_22 : decode cX2_unpack 22 = .ok (.iand, 1) := by decide +kernel
theorem dX2_unpack_23 : decode cX2_unpack 23 = .ok (.iastore, 1) := by decide +kernel
theorem dX2_unpack_24 : decode cX2_unpack 24 = .ok (.iinc 2 1, 3) := by decide +kernel
theorem dX2_unpack_27 : decode cX2_unpack 27 = .ok (.goto (-25), 3) := by decide +kernel
theorem dX2_unpack_30 : decode cX2_unpack 30 = .ok (.return_, 1) := by decide +kernel
theorem dX3_init_0 : decode cX3_init 0 = .ok (.aload_n 0, 1) := by decide +kernel
theorem dX3_init_1 : decode cX3_init 1 = .ok (.invokespecial 3, 3) := by decide +kernel
theorem dX3_init_4 : decode cX3_init 4 = .ok (.aload_n 0, 1) := by decide +kernel
theorem dX3_init_5 : decode cX3_init 5 = .ok (.bipush 8, 2) := by decide +kernel
theorem dX3_init_7 : decode cX3_init 7 = .ok (.newarray .int, 2) := by decide +kernel
theorem dX3_init_9 : decode cX3_init 9 = .ok (.putfield 9, 3) := by decide +kernel
theorem dX3_init_12 : decode cX3_init 12 = .ok (.aload_n 0, 1) := by decide +kernel
theorem dX3_init_13 : decode cX3_init 13 = .ok (.bipush 8, 2) := by decide +kernel
theorem dX3_init_15 : decode cX3_init 15 = .ok (.newarray .int, 2) := by decide +kernel
theorem dX3_init_17 : decode cX3_init 17 = .ok (.putfield 15, 3) := by decide +kernel
theorem dX3_init_20 : decode cX3_init 20 = .ok (.aload_n 0, 1) := by decide +kernel
theorem dX3_init_21 : decode cX3_init 21 = .ok (.bipush 8, 2) := by decide +kernel
theorem dX3_init_23 : decode cX3_init 23 = .ok (.newarray .int, 2) := by decide +kernel
theorem dX3_init_25 : decode cX3_init 25 = .ok (.putfield 18, 3) := by decide +kernel
theorem dX3_init_28 : decode cX3_init 28 = .ok (.aload_n 0, 1) := by decide +kernel
theorem dX3_init_29 : decode cX3_init 29 = .ok (.bipush 8, 2) := by decide +kernel
theorem dX3_init_31 : decode cX3_init 31 = .ok (.newarray .int, 2) := by decide +kernel
theorem dX3_init_33 : decode cX3_init 33 = .ok (.putfield 21, 3) := by decide +kernel
theorem dX3_init_36 : decode cX3_init 36 = .ok (.aload_n 0, 1) := by decide +kernel
theorem dX3_init_37 : decode cX3_init 37 = .ok (.bipush 64, 2) := by decide +kernel
theorem dX3_init_39 : decode cX3_init 39 = .ok (.newarray .long, 2) := by decide +kernel
theorem dX3_init_41 : decode cX3_init 41 = .ok (.putfield 24, 3) := by decide +kernel
theorem dX3_init_44 : decode cX3_init 44 = .ok (.return_, 1) := by decide +kernel
theorem dX3_layFrom_0 : decode cX3_layFrom 0 = .ok (.aload_n 0, 1) := by decide +kernel
theorem dX3_layFrom_1 : decode cX3_layFrom 1 = .ok (.aload_n 1, 1) := by decide +kernel
theorem dX3_layFrom_2 : decode cX3_layFrom 2 = .ok (.getfield 28, 3) := by decide +kernel
theorem dX3_layFrom_5 : decode cX3_layFrom 5 = .ok (.putfield 34, 3) := by decide +kernel
theorem dX3_layFrom_8 : decode cX3_layFrom 8 = .ok (.aload_n 0, 1) := by decide +kernel
theorem dX3_layFrom_9 : decode cX3_layFrom 9 = .ok (.iload_n 2, 1) := by decide +kernel
theorem dX3_layFrom_10 : decode cX3_layFrom 10 = .ok (.putfield 35, 3) := by decide +kernel
theorem dX3_layFrom_13 : decode cX3_layFrom 13 = .ok (.aload_n 0, 1) := by decide +kernel
theorem dX3_layFrom_14 : decode cX3_layFrom 14 = .ok (.iconst 0, 1) := by decide +kernel
theorem dX3_layFrom_15 : decode cX3_layFrom 15 = .ok (.putfield 38, 3) := by decide +kernel
theorem dX3_layFrom_18 : decode cX3_layFrom 18 = .ok (.aload_n 0, 1) := by decide +kernel
theorem dX3_layFrom_19 : decode cX3_layFrom 19 = .ok (.iconst 0, 1) := by decide +kernel
theorem dX3_layFrom_20 : decode cX3_layFrom 20 = .ok (.putfield 41, 3) := by decide +kernel
theorem dX3_layFrom_23 : decode cX3_layFrom 23 = .ok (.iconst 0, 1) := by decide +kernel
theorem dX3_layFrom_24 : decode cX3_layFrom 24 = .ok (.istore_n 3, 1) := by decide +kernel
theorem dX3_layFrom_25 : decode cX3_layFrom 25 = .ok (.iload_n 3, 1) := by decide +kernel
theorem dX3_layFrom_26 : decode cX3_layFrom 26 = .ok (.aload_n 0, 1) := by decide +kernel
theorem dX3_layFrom_27 : decode cX3_layFrom 27 = .ok (.getfield 34, 3) := by decide +kernel
theorem dX3_layFrom_30 : decode cX3_layFrom 30 = .ok (.if_icmp .ge 93, 3) := by decide +kernel
theorem dX3_layFrom_33 : decode cX3_layFrom 33 = .ok (.aload_n 0, 1) := by decide +kernel
theorem dX3_layFrom_34 : decode cX3_layFrom 34 = .ok (.getfield 9, 3) := by decide +kernel
theorem dX3_layFrom_37 : decode cX3_layFrom 37 = .ok (.iload_n 3, 1) := by decide +kernel
theorem dX3_layFrom_38 : decode cX3_layFrom 38 = .ok (.aload_n 1, 1) := by decide +kernel
theorem dX3_layFrom_39 : decode cX3_layFrom 39 = .ok (.getfield 44, 3) := by decide +kernel
theorem dX3_layFrom_42 : decode cX3_layFrom 42 = .ok (.iload_n 3, 1) := by decide +kernel
theorem dX3_layFrom_43 : decode cX3_layFrom 43 = .ok (.iaload, 1) := by decide +kernel
theorem dX3_layFrom_44 : decode cX3_layFrom 44 = .ok (.iastore, 1) := by decide +kernel
theorem dX3_layFrom_45 : decode cX3_layFrom 45 = .ok (.aload_n 0, 1) := by decide +kernel
theorem dX3_layFrom_46 : decode cX3_layFrom 46 = .ok (.getfield 15, 3) := by decide +kernel
theorem dX3_layFrom_49 : decode cX3_layFrom 49 = .ok (.iload_n 3, 1) := by decide +kernel
theorem dX3_layFrom_50 : decode cX3_layFrom 50 = .ok (.aload_n 1, 1) := by decide +kernel
theorem dX3_layFrom_51 : decode cX3_layFrom 51 = .ok (.getfield 45, 3) := by decide +kernel
theorem dX3_layFrom_54 : decode cX3_layFrom 54 = .ok (.iload_n 3, 1) := by decide +kernel
theorem dX3_layFrom_55 : decode cX3_layFrom 55 = .ok (.iaload, 1) := by decide +kernel
theorem dX3_layFrom_56 : decode cX3_layFrom 56 = .ok (.iastore, 1) := by decide +kernel
theorem dX3_layFrom_57 : decode cX3_layFrom 57 = .ok (.aload_n 0, 1) := by decide +kernel
theorem dX3_layFrom_58 : decode cX3_layFrom 58 = .ok (.getfield 18, 3) := by decide +kernel
theorem dX3_layFrom_61 : decode cX3_layFrom 61 = .ok (.iload_n 3, 1) := by decide +kernel
theorem dX3_layFrom_62 : decode cX3_layFrom 62 = .ok (.iload_n 3, 1) := by decide +kernel
theorem dX3_layFrom_63 : decode cX3_layFrom 63 = .ok (.iastore, 1) := by decide +kernel
theorem dX3_layFrom_64 : decode cX3_layFrom 64 = .ok (.aload_n 0, 1) := by decide +kernel
theorem dX3_layFrom_65 : decode cX3_layFrom 65 = .ok (.getfield 21, 3) := by decide +kernel
theorem dX3_layFrom_68 : decode cX3_layFrom 68 = .ok (.iload_n 3, 1) := by decide +kernel
theorem dX3_layFrom_69 : decode cX3_layFrom 69 = .ok (.aload_n 1, 1) := by decide +kernel
theorem dX3_layFrom_70 : decode cX3_layFrom 70 = .ok (.getfield 46, 3) := by decide +kernel
theorem dX3_layFrom_73 : decode cX3_layFrom 73 = .ok (.iload_n 3, 1) := by decide +kernel
theorem dX3_layFrom_74 : decode cX3_layFrom 74 = .ok (.iaload, 1) := by decide +kernel
theorem dX3_layFrom_75 : decode cX3_layFrom 75 = .ok (.iastore, 1) := by decide +kernel
theorem dX3_layFrom_76 : decode cX3_layFrom 76 = .ok (.iconst 0, 1) := by decide +kernel
theorem dX3_layFrom_77 : decode cX3_layFrom 77 = .ok (.istore 4, 2) := by decide +kernel
theorem dX3_layFrom_79 : decode cX3_layFrom 79 = .ok (.iload 4, 2) := by decide +kernel
theorem dX3_layFrom_81 : decode cX3_layFrom 81 = .ok (.aload_n 0, 1) := by decide +kernel
theorem dX3_layFrom_82 : decode cX3_layFrom 82 = .ok (.getfield 34, 3) := by decide +kernel
theorem dX3_layFrom_85 : decode cX3_layFrom 85 = .ok (.if_icmp .ge 32, 3) := by decide +kernel
theorem dX3_layFrom_88 : decode cX3_layFrom 88 = .ok (.aload_n 0, 1) := by decide +kernel
theorem dX3_layFrom_89 : decode cX3_layFrom 89 = .ok (.getfield 24, 3) := by decide +kernel
theorem dX3_layFrom_92 : decode cX3_layFrom 92 = .ok (.iload_n 3, 1) := by decide +kernel
theorem dX3_layFrom_93 : decode cX3_layFrom 93 = .ok (.bipush 8, 2) := by decide +kernel
theorem dX3_layFrom_95 : decode cX3_layFrom 95 = .ok (.imul, 1) := by decide +kernel
theorem dX3_layFrom_96 : decode cX3_layFrom 96 = .ok (.iload 4, 2) := by decide +kernel
theorem dX3_layFrom_98 : decode cX3_layFrom 98 = .ok (.iadd, 1) := by decide +kernel
theorem dX3_layFrom_99 : decode cX3_layFrom 99 = .ok (.iload_n 3, 1) := by decide +kernel
theorem dX3_layFrom_100 : decode cX3_layFrom 100 = .ok (.iload 4, 2) := by decide +kernel
theorem dX3_layFrom_102 : decode cX3_layFrom 102 = .ok (.if_icmp .ne 7, 3) := by decide +kernel
theorem dX3_layFrom_105 : decode cX3_layFrom 105 = .ok (.lconst 1, 1) := by decide +kernel
theorem dX3_layFrom_106 : decode cX3_layFrom 106 = .ok (.goto 4, 3) := by decide +kernel
theorem dX3_layFrom_109 : decode cX3_layFrom 109 = .ok (.lconst 0, 1) := by decide +kernel
theorem dX3_layFrom_110 : decode cX3_layFrom 110 = .ok (.lastore, 1) := by decide +kernel
theorem dX3_layFrom_111 : decode cX3_layFrom 111 = .ok (.iinc 4 1, 3) := by decide +kernel
theorem dX3_layFrom_114 : decode cX3_layFrom 114 = .ok (.goto (-35), 3) := by decide +kernel
theorem dX3_layFrom_117 : decode cX3_layFrom 117 = .ok (.iinc 3 1, 3) := by decide +kernel
theorem dX3_layFrom_120 : decode cX3_layFrom 120 = .ok (.goto (-95), 3) := by decide +kernel
theorem dX3_layFrom_123 : decode cX3_layFrom 123 = .ok (.return_, 1) := by decide +kernel
theorem dX3_copyFrom_0 : decode cX3_copyFrom 0 = .ok (.aload_n 0, 1) := by decide +kernel
theorem dX3_copyFrom_1 : decode cX3_copyFrom 1 = .ok (.aload_n 1, 1) := by decide +kernel
theorem dX3_copyFrom_2 : decode cX3_copyFrom 2 = .ok (.getfield 34, 3) := by decide +kernel
theorem dX3_copyFrom_5 : decode cX3_copyFrom 5 = .ok (.putfield 34, 3) := by decide +kernel
theorem dX3_copyFrom_8 : decode cX3_copyFrom 8 = .ok (.aload_n 0, 1) := by decide +kernel
theorem dX3_copyFrom_9 : decode cX3_copyFrom 9 = .ok (.aload_n 1, 1) := by decide +kernel
theorem dX3_copyFrom_10 : decode cX3_copyFrom 10 = .ok (.getfield 35, 3) := by decide +kernel
theorem dX3_copyFrom_13 : decode cX3_copyFrom 13 = .ok (.putfield 35, 3) := by decide +kernel
theorem dX3_copyFrom_16 : decode cX3_copyFrom 16 = .ok (.aload_n 0, 1) := by decide +kernel
theorem dX3_copyFrom_17 : decode cX3_copyFrom 17 = .ok (.aload_n 1, 1) := by decide +kernel
theorem dX3_copyFrom_18 : decode cX3_copyFrom 18 = .ok (.getfield 38, 3) := by decide +kernel
theorem dX3_copyFrom_21 : decode cX3_copyFrom 21 = .ok (.putfield 38, 3) := by decide +kernel
theorem dX3_copyFrom_24 : decode cX3_copyFrom 24 = .ok (.aload_n 0, 1) := by decide +kernel
theorem dX3_copyFrom_25 : decode cX3_copyFrom 25 = .ok (.aload_n 1, 1) := by decide +kernel
theorem dX3_copyFrom_26 : decode cX3_copyFrom 26 = .ok (.getfield 41, 3) := by decide +kernel
theorem dX3_copyFrom_29 : decode cX3_copyFrom 29 = .ok (.putfield 41, 3) := by decide +kernel
theorem dX3_copyFrom_32 : decode cX3_copyFrom 32 = .ok (.aload_n 1, 1) := by decide +kernel
theorem dX3_copyFrom_33 : decode cX3_copyFrom 33 = .ok (.getfield 9, 3) := by decide +kernel
theorem dX3_copyFrom_36 : decode cX3_copyFrom 36 = .ok (.iconst 0, 1) := by decide +kernel
theorem dX3_copyFrom_37 : decode cX3_copyFrom 37 = .ok (.aload_n 0, 1) := by decide +kernel
theorem dX3_copyFrom_38 : decode cX3_copyFrom 38 = .ok (.getfield 9, 3) := by decide +kernel
theorem dX3_copyFrom_41 : decode cX3_copyFrom 41 = .ok (.iconst 0, 1) := by decide +kernel
theorem dX3_copyFrom_42 : decode cX3_copyFrom 42 = .ok (.bipush 8, 2) := by decide +kernel
theorem dX3_copyFrom_44 : decode cX3_copyFrom 44 = .ok (.invokestatic 47, 3) := by decide +kernel
theorem dX3_copyFrom_47 : decode cX3_copyFrom 47 = .ok (.aload_n 1, 1) := by decide +kernel
theorem dX3_copyFrom_48 : decode cX3_copyFrom 48 = .ok (.getfield 15, 3) := by decide +kernel
theorem dX3_copyFrom_51 : decode cX3_copyFrom 51 = .ok (.iconst 0, 1) := by decide +kernel
theorem dX3_copyFrom_52 : decode cX3_copyFrom 52 = .ok (.aload_n 0, 1) := by decide +kernel
theorem dX3_copyFrom_53 : decode cX3_copyFrom 53 = .ok (.getfield 15, 3) := by decide +kernel
theorem dX3_copyFrom_56 : decode cX3_copyFrom 56 = .ok (.iconst 0, 1) := by decide +kernel
theorem dX3_copyFrom_57 : decode cX3_copyFrom 57 = .ok (.bipush 8, 2) := by decide +kernel
theorem dX3_copyFrom_59 : decode cX3_copyFrom 59 = .ok (.invokestatic 47, 3) := by decide +kernel
theorem dX3_copyFrom_62 : decode cX3_copyFrom 62 = .ok (.aload_n 1, 1) := by decide +kernel
theorem dX3_copyFrom_63 : decode cX3_copyFrom 63 = .ok (.getfield 18, 3) := by decide +kernel
theorem dX3_copyFrom_66 : decode cX3_copyFrom 66 = .ok (.iconst 0, 1) := by decide +kernel
theorem dX3_copyFrom_67 : decode cX3_copyFrom 67 = .ok (.aload_n 0, 1) := by decide +kernel
theorem dX3_copyFrom_68 : decode cX3_copyFrom 68 = .ok (.getfield 18, 3) := by decide +kernel
theorem dX3_copyFrom_71 : decode cX3_copyFrom 71 = .ok (.iconst 0, 1) := by decide +kernel
theorem dX3_copyFrom_72 : decode cX3_copyFrom 72 = .ok (.bipush 8, 2) := by decide +kernel
theorem dX3_copyFrom_74 : decode cX3_copyFrom 74 = .ok (.invokestatic 47, 3) := by decide +kernel
theorem dX3_copyFrom_77 : decode cX3_copyFrom 77 = .ok (.aload_n 1, 1) := by decide +kernel
theorem dX3_copyFrom_78 : decode cX3_copyFrom 78 = .ok (.getfield 21, 3) := by decide +kernel
theorem dX3_copyFrom_81 : decode cX3_copyFrom 81 = .ok (.iconst 0, 1) := by decide +kernel
theorem dX3_copyFrom_82 : decode cX3_copyFrom 82 = .ok (.aload_n 0, 1) := by decide +kernel
theorem dX3_copyFrom_83 : decode cX3_copyFrom 83 = .ok (.getfield 21, 3) := by decide +kernel
theorem dX3_copyFrom_86 : decode cX3_copyFrom 86 = .ok (.iconst 0, 1) := by decide +kernel
theorem dX3_copyFrom_87 : decode cX3_copyFrom 87 = .ok (.bipush 8, 2) := by decide +kernel
theorem dX3_copyFrom_89 : decode cX3_copyFrom 89 = .ok (.invokestatic 47, 3) := by decide +kernel
theorem dX3_copyFrom_92 : decode cX3_copyFrom 92 = .ok (.aload_n 1, 1) := by decide +kernel
theorem dX3_copyFrom_93 : decode cX3_copyFrom 93 = .ok (.getfield 24, 3) := by decide +kernel
theorem dX3_copyFrom_96 : decode cX3_copyFrom 96 = .ok (.iconst 0, 1) := by decide +kernel
theorem dX3_copyFrom_97 : decode cX3_copyFrom 97 = .ok (.aload_n 0, 1) := by decide +kernel
theorem dX3_copyFrom_98 : decode cX3_copyFrom 98 = .ok (.getfield 24, 3) := by decide +kernel
theorem dX3_copyFrom_101 : decode cX3_copyFrom 101 = .ok (.iconst 0, 1) := by decide +kernel
theorem dX3_copyFrom_102 : decode cX3_copyFrom 102 = .ok (.bipush 64, 2) := by decide +kernel
theorem dX3_copyFrom_104 : decode cX3_copyFrom 104 = .ok (.invokestatic 47, 3) := by decide +kernel
theorem dX3_copyFrom_107 : decode cX3_copyFrom 107 = .ok (.return_, 1) := by decide +kernel
theorem dX3_partedAt_0 : decode cX3_partedAt 0 = .ok (.iconst 0, 1) := by decide +kernel
theorem dX3_partedAt_1 : decode cX3_partedAt 1 = .ok (.istore_n 1, 1) := by decide +kernel
theorem dX3_partedAt_2 : decode cX3_partedAt 2 = .ok (.iconst 0, 1) := by decide +kernel
theorem dX3_partedAt_3 : decode cX3_partedAt 3 = .ok (.istore_n 2, 1) := by decide +kernel
theorem dX3_partedAt_4 : decode cX3_partedAt 4 = .ok (.iconst 1, 1) := by decide +kernel
theorem dX3_partedAt_5 : decode cX3_partedAt 5 = .ok (.istore_n 3, 1) := by decide +kernel
theorem dX3_partedAt_6 : decode cX3_partedAt 6 = .ok (.iload_n 3, 1) := by decide +kernel
theorem dX3_partedAt_7 : decode cX3_partedAt 7 = .ok (.aload_n 0, 1) := by decide +kernel
theorem dX3_partedAt_8 : decode cX3_partedAt 8 = .ok (.getfield 34, 3) := by decide +kernel
theorem dX3_partedAt_11 : decode cX3_partedAt 11 = .ok (.if_icmp .ge 42, 3) := by decide +kernel
theorem dX3_partedAt_14 : decode cX3_partedAt 14 = .ok (.iload_n 1, 1) := by decide +kernel
theorem dX3_partedAt_15 : decode cX3_partedAt 15 = .ok (.iconst 1, 1) := by decide +kernel
theorem dX3_partedAt_16 : decode cX3_partedAt 16 = .ok (.aload_n 0, 1) := by decide +kernel
theorem dX3_partedAt_17 : decode cX3_partedAt 17 = .ok (.getfield 18, 3) := by decide +kernel
theorem dX3_partedAt_20 : decode cX3_partedAt 20 = .ok (.iload_n 3, 1) := by decide +kernel
theorem dX3_partedAt_21 : decode cX3_partedAt 21 = .ok (.iconst 1, 1) := by decide +kernel
theorem dX3_partedAt_22 : decode cX3_partedAt 22 = .ok (.isub, 1) := by decide +kernel
theorem dX3_partedAt_23 : decode cX3_partedAt 23 = .ok (.iaload, 1) := by decide +kernel
theorem dX3_partedAt_24 : decode cX3_partedAt 24 = .ok (.ishl, 1) := by decide +kernel
theorem dX3_partedAt_25 : decode cX3_partedAt 25 = .ok (.ior, 1) := by decide +kernel
theorem dX3_partedAt_26 : decode cX3_partedAt 26 = .ok (.istore_n 1, 1) := by decide +kernel
theorem dX3_partedAt_27 : decode cX3_partedAt 27 = .ok (.iload_n 2, 1) := by decide +kernel
theorem dX3_partedAt_28 : decode cX3_partedAt 28 = .ok (.iconst 1, 1) := by decide +kernel
theorem dX3_partedAt_29 : decode cX3_partedAt 29 = .ok (.aload_n 0, 1) := by decide +kernel
theorem dX3_partedAt_30 : decode cX3_partedAt 30 = .ok (.getfield 21, 3) := by decide +kernel
theorem dX3_partedAt_33 : decode cX3_partedAt 33 = .ok (.iload_n 3, 1) := by decide +kernel
theorem dX3_partedAt_34 : decode cX3_partedAt 34 = .ok (.iconst 1, 1) := by decide +kernel
theorem dX3_partedAt_35 : decode cX3_partedAt 35 = .ok (.isub, 1) := by decide +kernel
theorem dX3_partedAt_36 : decode cX3_partedAt 36 = .ok (.iaload, 1) := by decide +kernel
theorem dX3_partedAt_37 : decode cX3_partedAt 37 = .ok (.ishl, 1) := by decide +kernel
theorem dX3_partedAt_38 : decode cX3_partedAt 38 = .ok (.ior, 1) := by decide +kernel
theorem dX3_partedAt_39 : decode cX3_partedAt 39 = .ok (.istore_n 2, 1) := by decide +kernel
theorem dX3_partedAt_40 : decode cX3_partedAt 40 = .ok (.iload_n 1, 1) := by decide +kernel
theorem dX3_partedAt_41 : decode cX3_partedAt 41 = .ok (.iload_n 2, 1) := by decide +kernel
theorem dX3_partedAt_42 : decode cX3_partedAt 42 = .ok (.if_icmp .ne 5, 3) := by decide +kernel
theorem dX3_partedAt_45 : decode cX3_partedAt 45 = .ok (.iload_n 3, 1) := by decide +kernel
theorem dX3_partedAt_46 : decode cX3_partedAt 46 = .ok (.ireturn, 1) := by decide +kernel
theorem dX3_partedAt_47 : decode cX3_partedAt 47 = .ok (.iinc 3 1, 3) := by decide +kernel
theorem dX3_partedAt_50 : decode cX3_partedAt 50 = .ok (.goto (-44), 3) := by decide +kernel
theorem dX3_partedAt_53 : decode cX3_partedAt 53 = .ok (.iconst 0, 1) := by decide +kernel
theorem dX3_partedAt_54 : decode cX3_partedAt 54 = .ok (.ireturn, 1) := by decide +kernel
theorem dX3_advance_0 : decode cX3_advance 0 = .ok (.aload_n 0, 1) := by decide +kernel
theorem dX3_advance_1 : decode cX3_advance 1 = .ok (.getfield 34, 3) := by decide +kernel
theorem dX3_advance_4 : decode cX3_advance 4 = .ok (.ifCond .ne 5, 3) := by decide +kernel
theorem dX3_advance_7 : decode cX3_advance 7 = .ok (.iconst (-1), 1) := by decide +kernel
theorem dX3_advance_8 : decode cX3_advance 8 = .ok (.ireturn, 1) := by decide +kernel
theorem dX3_advance_9 : decode cX3_advance 9 = .ok (.aload_n 0, 1) := by decide +kernel
theorem dX3_advance_10 : decode cX3_advance 10 = .ok (.getfield 18, 3) := by decide +kernel
theorem dX3_advance_13 : decode cX3_advance 13 = .ok (.aload_n 0, 1) := by decide +kernel
theorem dX3_advance_14 : decode cX3_advance 14 = .ok (.getfield 34, 3) := by decide +kernel
theorem dX3_advance_17 : decode cX3_advance 17 = .ok (.iconst 1, 1) := by decide +kernel
theorem dX3_advance_18 : decode cX3_advance 18 = .ok (.isub, 1) := by decide +kernel
theorem dX3_advance_19 : decode cX3_advance 19 = .ok (.iaload, 1) := by decide +kernel
theorem dX3_advance_20 : decode cX3_advance 20 = .ok (.istore_n 1, 1) := by decide +kernel
theorem dX3_advance_21 : decode cX3_advance 21 = .ok (.aload_n 0, 1) := by decide +kernel
theorem dX3_advance_22 : decode cX3_advance 22 = .ok (.getfield 21, 3) := by decide +kernel
theorem dX3_advance_25 : decode cX3_advance 25 = .ok (.aload_n 0, 1) := by decide +kernel
theorem dX3_advance_26 : decode cX3_advance 26 = .ok (.getfield 34, 3) := by decide +kernel
theorem dX3_advance_29 : decode cX3_advance 29 = .ok (.iconst 1, 1) := by decide +kernel
theorem dX3_advance_30 : decode cX3_advance 30 = .ok (.isub, 1) := by decide +kernel
theorem dX3_advance_31 : decode cX3_advance 31 = .ok (.iaload, 1) := by decide +kernel
theorem dX3_advance_32 : decode cX3_advance 32 = .ok (.istore_n 2, 1) := by decide +kernel
theorem dX3_advance_33 : decode cX3_advance 33 = .ok (.iload_n 1, 1) := by decide +kernel
theorem dX3_advance_34 : decode cX3_advance 34 = .ok (.iload_n 2, 1) := by decide +kernel
theorem dX3_advance_35 : decode cX3_advance 35 = .ok (.if_icmp .ne 6, 3) := by decide +kernel
theorem dX3_advance_38 : decode cX3_advance 38 = .ok (.bipush (-2), 2) := by decide +kernel
theorem dX3_advance_40 : decode cX3_advance 40 = .ok (.ireturn, 1) := by decide +kernel
theorem dX3_advance_41 : decode cX3_advance 41 = .ok (.aload_n 0, 1) := by decide +kernel
theorem dX3_advance_42 : decode cX3_advance 42 = .ok (.getfield 9, 3) := by decide +kernel
theorem dX3_advance_45 : decode cX3_advance 45 = .ok (.iload_n 1, 1) := by decide +kernel
theorem dX3_advance_46 : decode cX3_advance 46 = .ok (.iaload, 1) := by decide +kernel
theorem dX3_advance_47 : decode cX3_advance 47 = .ok (.aload_n 0, 1) := by decide +kernel
theorem dX3_advance_48 : decode cX3_advance 48 = .ok (.getfield 9, 3) := by decide +kernel
theorem dX3_advance_51 : decode cX3_advance 51 = .ok (.iload_n 2, 1) := by decide +kernel
theorem dX3_advance_52 : decode cX3_advance 52 = .ok (.iaload, 1) := by decide +kernel
theorem dX3_advance_53 : decode cX3_advance 53 = .ok (.isub, 1) := by decide +kernel
theorem dX3_advance_54 : decode cX3_advance 54 = .ok (.i2l, 1) := by decide +kernel
theorem dX3_advance_55 : decode cX3_advance 55 = .ok (.aload_n 0, 1) := by decide +kernel
theorem dX3_advance_56 : decode cX3_advance 56 = .ok (.getfield 15, 3) := by decide +kernel
theorem dX3_advance_59 : decode cX3_advance 59 = .ok (.iload_n 1, 1) := by decide +kernel
theorem dX3_advance_60 : decode cX3_advance 60 = .ok (.iaload, 1) := by decide +kernel
theorem dX3_advance_61 : decode cX3_advance 61 = .ok (.aload_n 0, 1) := by decide +kernel
theorem dX3_advance_62 : decode cX3_advance 62 = .ok (.getfield 15, 3) := by decide +kernel
theorem dX3_advance_65 : decode cX3_advance 65 = .ok (.iload_n 2, 1) := by decide +kernel
theorem dX3_advance_66 : decode cX3_advance 66 = .ok (.iaload, 1) := by decide +kernel
theorem dX3_advance_67 : decode cX3_advance 67 = .ok (.isub, 1) := by decide +kernel
theorem dX3_advance_68 : decode cX3_advance 68 = .ok (.i2l, 1) := by decide +kernel
theorem dX3_advance_69 : decode cX3_advance 69 = .ok (.aload_n 0, 1) := by decide +kernel
theorem dX3_advance_70 : decode cX3_advance 70 = .ok (.getfield 35, 3) := by decide +kernel
theorem dX3_advance_73 : decode cX3_advance 73 = .ok (.invokestatic 53, 3) := by decide +kernel
theorem dX3_advance_76 : decode cX3_advance 76 = .ok (.istore_n 3, 1) := by decide +kernel
theorem dX3_advance_77 : decode cX3_advance 77 = .ok (.iload_n 3, 1) := by decide +kernel
theorem dX3_advance_78 : decode cX3_advance 78 = .ok (.ifCond .ne 6, 3) := by decide +kernel
theorem dX3_advance_81 : decode cX3_advance 81 = .ok (.bipush (-3), 2) := by decide +kernel
theorem dX3_advance_83 : decode cX3_advance 83 = .ok (.ireturn, 1) := by decide +kernel
theorem dX3_advance_84 : decode cX3_advance 84 = .ok (.iload_n 3, 1) := by decide +kernel
theorem dX3_advance_85 : decode cX3_advance 85 = .ok (.ifCond .le 7, 3) := by decide +kernel
theorem dX3_advance_88 : decode cX3_advance 88 = .ok (.iconst 1, 1) := by decide +kernel
theorem dX3_advance_89 : decode cX3_advance 89 = .ok (.goto 4, 3) := by decide +kernel
theorem dX3_advance_92 : decode cX3_advance 92 = .ok (.iconst 0, 1) := by decide +kernel
theorem dX3_advance_93 : decode cX3_advance 93 = .ok (.istore 4, 2) := by decide +kernel
theorem dX3_advance_95 : decode cX3_advance 95 = .ok (.iload 4, 2) := by decide +kernel
theorem dX3_advance_97 : decode cX3_advance 97 = .ok (.ifCond .eq 7, 3) := by decide +kernel
theorem dX3_advance_100 : decode cX3_advance 100 = .ok (.iload_n 1, 1) := by decide +kernel
theorem dX3_advance_101 : decode cX3_advance 101 = .ok (.goto 4, 3) := by decide +kernel
theorem dX3_advance_104 : decode cX3_advance 104 = .ok (.iload_n 2, 1) := by decide +kernel
theorem dX3_advance_105 : decode cX3_advance 105 = .ok (.istore 5, 2) := by decide +kernel
theorem dX3_advance_107 : decode cX3_advance 107 = .ok (.iload 4, 2) := by decide +kernel
theorem dX3_advance_109 : decode cX3_advance 109 = .ok (.ifCond .eq 7, 3) := by decide +kernel
theorem dX3_advance_112 : decode cX3_advance 112 = .ok (.iload_n 2, 1) := by decide +kernel
theorem dX3_advance_113 : decode cX3_advance 113 = .ok (.goto 4, 3) := by decide +kernel
theorem dX3_advance_116 : decode cX3_advance 116 = .ok (.iload_n 1, 1) := by decide +kernel
theorem dX3_advance_117 : decode cX3_advance 117 = .ok (.istore 6, 2) := by decide +kernel
theorem dX3_advance_119 : decode cX3_advance 119 = .ok (.aload_n 0, 1) := by decide +kernel
theorem dX3_advance_120 : decode cX3_advance 120 = .ok (.iload 5, 2) := by decide +kernel
theorem dX3_advance_122 : decode cX3_advance 122 = .ok (.iload 6, 2) := by decide +kernel
theorem dX3_advance_124 : decode cX3_advance 124 = .ok (.invokevirtual 57, 3) := by decide +kernel
theorem dX3_advance_127 : decode cX3_advance 127 = .ok (.ifCond .eq 6, 3) := by decide +kernel
theorem dX3_advance_130 : decode cX3_advance 130 = .ok (.bipush (-4), 2) := by decide +kernel
theorem dX3_advance_132 : decode cX3_advance 132 = .ok (.ireturn, 1) := by decide +kernel
theorem dX3_advance_133 : decode cX3_advance 133 = .ok (.aload_n 0, 1) := by decide +kernel
theorem dX3_advance_134 : decode cX3_advance 134 = .ok (.iload 5, 2) := by decide +kernel
theorem dX3_advance_136 : decode cX3_advance 136 = .ok (.iload 6, 2) := by decide +kernel
theorem dX3_advance_138 : decode cX3_advance 138 = .ok (.invokevirtual 61, 3) := by decide +kernel
theorem dX3_advance_141 : decode cX3_advance 141 = .ok (.aload_n 0, 1) := by decide +kernel
theorem dX3_advance_142 : decode cX3_advance 142 = .ok (.iload 5, 2) := by decide +kernel
theorem dX3_advance_144 : decode cX3_advance 144 = .ok (.iload 4, 2) := by decide +kernel
theorem dX3_advance_146 : decode cX3_advance 146 = .ok (.ifCond .eq 10, 3) := by decide +kernel
theorem dX3_advance_149 : decode cX3_advance 149 = .ok (.aload_n 0, 1) := by decide +kernel
theorem dX3_advance_150 : decode cX3_advance 150 = .ok (.getfield 21, 3) := by decide +kernel
theorem dX3_advance_153 : decode cX3_advance 153 = .ok (.goto 7, 3) := by decide +kernel
theorem dX3_advance_156 : decode cX3_advance 156 = .ok (.aload_n 0, 1) := by decide +kernel
theorem dX3_advance_157 : decode cX3_advance 157 = .ok (.getfield 18, 3) := by decide +kernel
theorem dX3_advance_160 : decode cX3_advance 160 = .ok (.invokevirtual 65, 3) := by decide +kernel
theorem dX3_advance_163 : decode cX3_advance 163 = .ok (.aload_n 0, 1) := by decide +kernel
theorem dX3_advance_164 : decode cX3_advance 164 = .ok (.dup, 1) := by decide +kernel
theorem dX3_advance_165 : decode cX3_advance 165 = .ok (.getfield 38, 3) := by decide +kernel
theorem dX3_advance_168 : decode cX3_advance 168 = .ok (.iconst 1, 1) := by decide +kernel
theorem dX3_advance_169 : decode cX3_advance 169 = .ok (.iadd, 1) := by decide +kernel
theorem dX3_advance_170 : decode cX3_advance 170 = .ok (.putfield 38, 3) := by decide +kernel
theorem dX3_advance_173 : decode cX3_advance 173 = .ok (.aload_n 0, 1) := by decide +kernel
theorem dX3_advance_174 : decode cX3_advance 174 = .ok (.dup, 1) := by decide +kernel
theorem dX3_advance_175 : decode cX3_advance 175 = .ok (.getfield 41, 3) := by decide +kernel
theorem dX3_advance_178 : decode cX3_advance 178 = .ok (.iload 4, 2) := by decide +kernel
theorem dX3_advance_180 : decode cX3_advance 180 = .ok (.ifCond .eq 7, 3) := by decide +kernel
theorem dX3_advance_183 : decode cX3_advance 183 = .ok (.iconst 1, 1) := by decide +kernel
theorem dX3_advance_184 : decode cX3_advance 184 = .ok (.goto 4, 3) := by decide +kernel
theorem dX3_advance_187 : decode cX3_advance 187 = .ok (.iconst 0, 1) := by decide +kernel
theorem dX3_advance_188 : decode cX3_advance 188 = .ok (.iadd, 1) := by decide +kernel
theorem dX3_advance_189 : decode cX3_advance 189 = .ok (.putfield 41, 3) := by decide +kernel
theorem dX3_advance_192 : decode cX3_advance 192 = .ok (.iload 4, 2) := by decide +kernel
theorem dX3_advance_194 : decode cX3_advance 194 = .ok (.ifCond .eq 7, 3) := by decide +kernel
theorem dX3_advance_197 : decode cX3_advance 197 = .ok (.iconst 1, 1) := by decide +kernel
theorem dX3_advance_198 : decode cX3_advance 198 = .ok (.goto 4, 3) := by decide +kernel
theorem dX3_advance_201 : decode cX3_advance 201 = .ok (.iconst 0, 1) := by decide +kernel
theorem dX3_advance_202 : decode cX3_advance 202 = .ok (.ireturn, 1) := by decide +kernel
theorem dX3_hasOrdersOf_0 : decode cX3_hasOrdersOf 0 = .ok (.iconst 0, 1) := by decide +kernel
theorem dX3_hasOrdersOf_1 : decode cX3_hasOrdersOf 1 = .ok (.istore_n 2, 1) := by decide +kernel
theorem dX3_hasOrdersOf_2 : decode cX3_hasOrdersOf 2 = .ok (.iload_n 2, 1) := by decide +kernel
theorem dX3_hasOrdersOf_3 : decode cX3_hasOrdersOf 3 = .ok (.aload_n 0, 1) := by decide +kernel
theorem dX3_hasOrdersOf_4 : decode cX3_hasOrdersOf 4 = .ok (.getfield 34, 3) := by decide +kernel
theorem dX3_hasOrdersOf_7 : decode cX3_hasOrdersOf 7 = .ok (.if_icmp .ge 41, 3) := by decide +kernel
theorem dX3_hasOrdersOf_10 : decode cX3_hasOrdersOf 10 = .ok (.aload_n 0, 1) := by decide +kernel
theorem dX3_hasOrdersOf_11 : decode cX3_hasOrdersOf 11 = .ok (.getfield 18, 3) := by decide +kernel
theorem dX3_hasOrdersOf_14 : decode cX3_hasOrdersOf 14 = .ok (.iload_n 2, 1) := by decide +kernel
theorem dX3_hasOrdersOf_15 : decode cX3_hasOrdersOf 15 = .ok (.iaload, 1) := by decide +kernel
theorem dX3_hasOrdersOf_16 : decode cX3_hasOrdersOf 16 = .ok (.aload_n 1, 1) := by decide +kernel
theorem dX3_hasOrdersOf_17 : decode cX3_hasOrdersOf 17 = .ok (.getfield 18, 3) := by decide +kernel
theorem dX3_hasOrdersOf_20 : decode cX3_hasOrdersOf 20 = .ok (.iload_n 2, 1) := by decide +kernel
theorem dX3_hasOrdersOf_21 : decode cX3_hasOrdersOf 21 = .ok (.iaload, 1) := by decide +kernel
theorem dX3_hasOrdersOf_22 : decode cX3_hasOrdersOf 22 = .ok (.if_icmp .ne 18, 3) := by decide +kernel
theorem dX3_hasOrdersOf_25 : decode cX3_hasOrdersOf 25 = .ok (.aload_n 0, 1) := by decide +kernel
theorem dX3_hasOrdersOf_26 : decode cX3_hasOrdersOf 26 = .ok (.getfield 21, 3) := by decide +kernel
theorem dX3_hasOrdersOf_29 : decode cX3_hasOrdersOf 29 = .ok (.iload_n 2, 1) := by decide +kernel
theorem dX3_hasOrdersOf_30 : decode cX3_hasOrdersOf 30 = .ok (.iaload, 1) := by decide +kernel
theorem dX3_hasOrdersOf_31 : decode cX3_hasOrdersOf 31 = .ok (.aload_n 1, 1) := by decide +kernel
theorem dX3_hasOrdersOf_32 : decode cX3_hasOrdersOf 32 = .ok (.getfield 21, 3) := by decide +kernel
theorem dX3_hasOrdersOf_35 : decode cX3_hasOrdersOf 35 = .ok (.iload_n 2, 1) := by decide +kernel
theorem dX3_hasOrdersOf_36 : decode cX3_hasOrdersOf 36 = .ok (.iaload, 1) := by decide +kernel
theorem dX3_hasOrdersOf_37 : decode cX3_hasOrdersOf 37 = .ok (.if_icmp .eq 5, 3) := by decide +kernel
theorem dX3_hasOrdersOf_40 : decode cX3_hasOrdersOf 40 = .ok (.iconst 0, 1) := by decide +kernel
theorem dX3_hasOrdersOf_41 : decode cX3_hasOrdersOf 41 = .ok (.ireturn, 1) := by decide +kernel
theorem dX3_hasOrdersOf_42 : decode cX3_hasOrdersOf 42 = .ok (.iinc 2 1, 3) := by decide +kernel
theorem dX3_hasOrdersOf_45 : decode cX3_hasOrdersOf 45 = .ok (.goto (-43), 3) := by decide +kernel
theorem dX3_hasOrdersOf_48 : decode cX3_hasOrdersOf 48 = .ok (.iconst 1, 1) := by decide +kernel
theorem dX3_hasOrdersOf_49 : decode cX3_hasOrdersOf 49 = .ok (.ireturn, 1) := by decide +kernel
theorem dX3_hasSharesOf_0 : decode cX3_hasSharesOf 0 = .ok (.iconst 1, 1) := by decide +kernel
theorem dX3_hasSharesOf_1 : decode cX3_hasSharesOf 1 = .ok (.istore_n 2, 1) := by decide +kernel
theorem dX3_hasSharesOf_2 : decode cX3_hasSharesOf 2 = .ok (.iload_n 2, 1) := by decide +kernel
theorem dX3_hasSharesOf_3 : decode cX3_hasSharesOf 3 = .ok (.aload_n 0, 1) := by decide +kernel
theorem dX3_hasSharesOf_4 : decode cX3_hasSharesOf 4 = .ok (.getfield 34, 3) := by decide +kernel
theorem dX3_hasSharesOf_7 : decode cX3_hasSharesOf 7 = .ok (.if_icmp .ge 43, 3) := by decide +kernel
theorem dX3_hasSharesOf_10 : decode cX3_hasSharesOf 10 = .ok (.aload_n 0, 1) := by decide +kernel
theorem dX3_hasSharesOf_11 : decode cX3_hasSharesOf 11 = .ok (.iload_n 2, 1) := by decide +kernel
theorem dX3_hasSharesOf_12 : decode cX3_hasSharesOf 12 = .ok (.aload_n 1, 1) := by decide +kernel
theorem dX3_hasSharesOf_13 : decode cX3_hasSharesOf 13 = .ok (.invokevirtual 69, 3) := by decide +kernel
theorem dX3_hasSharesOf_16 : decode cX3_hasSharesOf 16 = .ok (.aload_n 1, 1) := by decide +kernel
theorem dX3_hasSharesOf_17 : decode cX3_hasSharesOf 17 = .ok (.iload_n 2, 1) := by decide +kernel
theorem dX3_hasSharesOf_18 : decode cX3_hasSharesOf 18 = .ok (.aload_n 0, 1) := by decide +kernel
theorem dX3_hasSharesOf_19 : decode cX3_hasSharesOf 19 = .ok (.invokevirtual 69, 3) := by decide +kernel
theorem dX3_hasSharesOf_22 : decode cX3_hasSharesOf 22 = .ok (.lcmp, 1) := by decide +kernel
theorem dX3_hasSharesOf_23 : decode cX3_hasSharesOf 23 = .ok (.ifCond .ne 19, 3) := by decide +kernel
theorem dX3_hasSharesOf_26 : decode cX3_hasSharesOf 26 = .ok (.aload_n 0, 1) := by decide +kernel
theorem dX3_hasSharesOf_27 : decode cX3_hasSharesOf 27 = .ok (.iload_n 2, 1) := by decide +kernel
theorem dX3_hasSharesOf_28 : decode cX3_hasSharesOf 28 = .ok (.aload_n 1, 1) := by decide +kernel
theorem dX3_hasSharesOf_29 : decode cX3_hasSharesOf 29 = .ok (.invokevirtual 73, 3) := by decide +kernel
theorem dX3_hasSharesOf_32 : decode cX3_hasSharesOf 32 = .ok (.aload_n 1, 1) := by decide +kernel
theorem dX3_hasSharesOf_33 : decode cX3_hasSharesOf 33 = .ok (.iload_n 2, 1) := by decide +kernel
theorem dX3_hasSharesOf_34 : decode cX3_hasSharesOf 34 = .ok (.aload_n 0, 1) := by decide +kernel
theorem dX3_hasSharesOf_35 : decode cX3_hasSharesOf 35 = .ok (.invokevirtual 73, 3) := by decide +kernel
theorem dX3_hasSharesOf_38 : decode cX3_hasSharesOf 38 = .ok (.lcmp, 1) := by decide +kernel
theorem dX3_hasSharesOf_39 : decode cX3_hasSharesOf 39 = .ok (.ifCond .eq 5, 3) := by decide +kernel
theorem dX3_hasSharesOf_42 : decode cX3_hasSharesOf 42 = .ok (.iconst 0, 1) := by decide +kernel
theorem dX3_hasSharesOf_43 : decode cX3_hasSharesOf 43 = .ok (.ireturn, 1) := by decide +kernel
theorem dX3_hasSharesOf_44 : decode cX3_hasSharesOf 44 = .ok (.iinc 2 1, 3) := by decide +kernel
theorem dX3_hasSharesOf_47 : decode cX3_hasSharesOf 47 = .ok (.goto (-45), 3) := by decide +kernel
theorem dX3_hasSharesOf_50 : decode cX3_hasSharesOf 50 = .ok (.iconst 1, 1) := by decide +kernel
theorem dX3_hasSharesOf_51 : decode cX3_hasSharesOf 51 = .ok (.ireturn, 1) := by decide +kernel
theorem dX3_productA_0 : decode cX3_productA 0 = .ok (.aload_n 0, 1) := by decide +kernel
theorem dX3_productA_1 : decode cX3_productA 1 = .ok (.getfield 9, 3) := by decide +kernel
theorem dX3_productA_4 : decode cX3_productA 4 = .ok (.iload_n 1, 1) := by decide +kernel
theorem dX3_productA_5 : decode cX3_productA 5 = .ok (.iaload, 1) := by decide +kernel
theorem dX3_productA_6 : decode cX3_productA 6 = .ok (.i2l, 1) := by decide +kernel
theorem dX3_productA_7 : decode cX3_productA 7 = .ok (.aload_n 2, 1) := by decide +kernel
theorem dX3_productA_8 : decode cX3_productA 8 = .ok (.getfield 9, 3) := by decide +kernel
theorem dX3_productA_11 : decode cX3_productA 11 = .ok (.iconst 0, 1) := by decide +kernel
theorem dX3_productA_12 : decode cX3_productA 12 = .ok (.iaload, 1) := by decide +kernel
theorem dX3_productA_13 : decode cX3_productA 13 = .ok (.i2l, 1) := by decide +kernel
theorem dX3_productA_14 : decode cX3_productA 14 = .ok (.lmul, 1) := by decide +kernel
theorem dX3_productA_15 : decode cX3_productA 15 = .ok (.aload_n 0, 1) := by decide +kernel
theorem dX3_productA_16 : decode cX3_productA 16 = .ok (.getfield 35, 3) := by decide +kernel
theorem dX3_productA_19 : decode cX3_productA 19 = .ok (.i2l, 1) := by decide +kernel
theorem dX3_productA_20 : decode cX3_productA 20 = .ok (.aload_n 0, 1) := by decide +kernel
theorem dX3_productA_21 : decode cX3_productA 21 = .ok (.getfield 15, 3) := by decide +kernel
theorem dX3_productA_24 : decode cX3_productA 24 = .ok (.iload_n 1, 1) := by decide +kernel
theorem dX3_productA_25 : decode cX3_productA 25 = .ok (.iaload, 1) := by decide +kernel
theorem dX3_productA_26 : decode cX3_productA 26 = .ok (.i2l, 1) := by decide +kernel
theorem dX3_productA_27 : decode cX3_productA 27 = .ok (.lmul, 1) := by decide +kernel
theorem dX3_productA_28 : decode cX3_productA 28 = .ok (.aload_n 2, 1) := by decide +kernel
theorem dX3_productA_29 : decode cX3_productA 29 = .ok (.getfield 15, 3) := by decide +kernel
theorem dX3_productA_32 : decode cX3_productA 32 = .ok (.iconst 0, 1) := by decide +kernel
theorem dX3_productA_33 : decode cX3_productA 33 = .ok (.iaload, 1) := by decide +kernel
theorem dX3_productA_34 : decode cX3_productA 34 = .ok (.i2l, 1) := by decide +kernel
theorem dX3_productA_35 : decode cX3_productA 35 = .ok (.lmul, 1) := by decide +kernel
theorem dX3_productA_36 : decode cX3_productA 36 = .ok (.ladd, 1) := by decide +kernel
theorem dX3_productA_37 : decode cX3_productA 37 = .ok (.lreturn, 1) := by decide +kernel
theorem dX3_productB_0 : decode cX3_productB 0 = .ok (.aload_n 0, 1) := by decide +kernel
theorem dX3_productB_1 : decode cX3_productB 1 = .ok (.getfield 9, 3) := by decide +kernel
theorem dX3_productB_4 : decode cX3_productB 4 = .ok (.iload_n 1, 1) := by decide +kernel
theorem dX3_productB_5 : decode cX3_productB 5 = .ok (.iaload, 1) := by decide +kernel
theorem dX3_productB_6 : decode cX3_productB 6 = .ok (.i2l, 1) := by decide +kernel
theorem dX3_productB_7 : decode cX3_productB 7 = .ok (.aload_n 2, 1) := by decide +kernel
theorem dX3_productB_8 : decode cX3_productB 8 = .ok (.getfield 15, 3) := by decide +kernel
theorem dX3_productB_11 : decode cX3_productB 11 = .ok (.iconst 0, 1) := by decide +kernel
theorem dX3_productB_12 : decode cX3_productB 12 = .ok (.iaload, 1) := by decide +kernel
theorem dX3_productB_13 : decode cX3_productB 13 = .ok (.i2l, 1) := by decide +kernel
theorem dX3_productB_14 : decode cX3_productB 14 = .ok (.lmul, 1) := by decide +kernel
theorem dX3_productB_15 : decode cX3_productB 15 = .ok (.aload_n 0, 1) := by decide +kernel
theorem dX3_productB_16 : decode cX3_productB 16 = .ok (.getfield 15, 3) := by decide +kernel
theorem dX3_productB_19 : decode cX3_productB 19 = .ok (.iload_n 1, 1) := by decide +kernel
theorem dX3_productB_20 : decode cX3_productB 20 = .ok (.iaload, 1) := by decide +kernel
theorem dX3_productB_21 : decode cX3_productB 21 = .ok (.i2l, 1) := by decide +kernel
theorem dX3_productB_22 : decode cX3_productB 22 = .ok (.aload_n 2, 1) := by decide +kernel
theorem dX3_productB_23 : decode cX3_productB 23 = .ok (.getfield 9, 3) := by decide +kernel
theorem dX3_productB_26 : decode cX3_productB 26 = .ok (.iconst 0, 1) := by decide +kernel
theorem dX3_productB_27 : decode cX3_productB 27 = .ok (.iaload, 1) := by decide +kernel
theorem dX3_productB_28 : decode cX3_productB 28 = .ok (.i2l, 1) := by decide +kernel
theorem dX3_productB_29 : decode cX3_productB 29 = .ok (.lmul, 1) := by decide +kernel
theorem dX3_productB_30 : decode cX3_productB 30 = .ok (.ladd, 1) := by decide +kernel
theorem dX3_productB_31 : decode cX3_productB 31 = .ok (.lreturn, 1) := by decide +kernel
theorem dX3_isSpentBy_0 : decode cX3_isSpentBy 0 = .ok (.aload_n 0, 1) := by decide +kernel
theorem dX3_isSpentBy_1 : decode cX3_isSpentBy 1 = .ok (.getfield 9, 3) := by decide +kernel
theorem dX3_isSpentBy_4 : decode cX3_isSpentBy 4 = .ok (.iload_n 1, 1) := by decide +kernel
theorem dX3_isSpentBy_5 : decode cX3_isSpentBy 5 = .ok (.iaload, 1) := by decide +kernel
theorem dX3_isSpentBy_6 : decode cX3_isSpentBy 6 = .ok (.aload_n 0, 1) := by decide +kernel
theorem dX3_isSpentBy_7 : decode cX3_isSpentBy 7 = .ok (.getfield 9, 3) := by decide +kernel
theorem dX3_isSpentBy_10 : decode cX3_isSpentBy 10 = .ok (.iload_n 2, 1) := by decide +kernel
theorem dX3_isSpentBy_11 : decode cX3_isSpentBy 11 = .ok (.iaload, 1) := by decide +kernel
theorem dX3_isSpentBy_12 : decode cX3_isSpentBy 12 = .ok (.isub, 1) := by decide +kernel
theorem dX3_isSpentBy_13 : decode cX3_isSpentBy 13 = .ok (.i2l, 1) := by decide +kernel
theorem dX3_isSpentBy_14 : decode cX3_isSpentBy 14 = .ok (.sipush 16384, 3) := by decide +kernel
theorem dX3_isSpentBy_17 : decode cX3_isSpentBy 17 = .ok (.invokestatic 76, 3) := by decide +kernel
theorem dX3_isSpentBy_20 : decode cX3_isSpentBy 20 = .ok (.ifCond .eq 26, 3) := by decide +kernel
theorem dX3_isSpentBy_23 : decode cX3_isSpentBy 23 = .ok (.aload_n 0, 1) := by decide +kernel
theorem dX3_isSpentBy_24 : decode cX3_isSpentBy 24 = .ok (.getfield 15, 3) := by decide +kernel
theorem dX3_isSpentBy_27 : decode cX3_isSpentBy 27 = .ok (.iload_n 1, 1) := by decide +kernel
theorem dX3_isSpentBy_28 : decode cX3_isSpentBy 28 = .ok (.iaload, 1) := by decide +kernel
theorem dX3_isSpentBy_29 : decode cX3_isSpentBy 29 = .ok (.aload_n 0, 1) := by decide +kernel
theorem dX3_isSpentBy_30 : decode cX3_isSpentBy 30 = .ok (.getfield 15, 3) := by decide +kernel
theorem dX3_isSpentBy_33 : decode cX3_isSpentBy 33 = .ok (.iload_n 2, 1) := by decide +kernel
theorem dX3_isSpentBy_34 : decode cX3_isSpentBy 34 = .ok (.iaload, 1) := by decide +kernel
theorem dX3_isSpentBy_35 : decode cX3_isSpentBy 35 = .ok (.isub, 1) := by decide +kernel
theorem dX3_isSpentBy_36 : decode cX3_isSpentBy 36 = .ok (.i2l, 1) := by decide +kernel
theorem dX3_isSpentBy_37 : decode cX3_isSpentBy 37 = .ok (.sipush 16384, 3) := by decide +kernel
theorem dX3_isSpentBy_40 : decode cX3_isSpentBy 40 = .ok (.invokestatic 76, 3) := by decide +kernel
theorem dX3_isSpentBy_43 : decode cX3_isSpentBy 43 = .ok (.ifCond .ne 5, 3) := by decide +kernel
theorem dX3_isSpentBy_46 : decode cX3_isSpentBy 46 = .ok (.iconst 1, 1) := by decide +kernel
theorem dX3_isSpentBy_47 : decode cX3_isSpentBy 47 = .ok (.ireturn, 1) := by decide +kernel
theorem dX3_isSpentBy_48 : decode cX3_isSpentBy 48 = .ok (.iconst 0, 1) := by decide +kernel
theorem dX3_isSpentBy_49 : decode cX3_isSpentBy 49 = .ok (.istore_n 3, 1) := by decide +kernel
theorem dX3_isSpentBy_50 : decode cX3_isSpentBy 50 = .ok (.iload_n 3, 1) := by decide +kernel
theorem dX3_isSpentBy_51 : decode cX3_isSpentBy 51 = .ok (.aload_n 0, 1) := by decide +kernel
theorem dX3_isSpentBy_52 : decode cX3_isSpentBy 52 = .ok (.getfield 34, 3) := by decide +kernel
theorem dX3_isSpentBy_55 : decode cX3_isSpentBy 55 = .ok (.if_icmp .ge 43, 3) := by decide +kernel
theorem dX3_isSpentBy_58 : decode cX3_isSpentBy 58 = .ok (.iload_n 3, 1) := by decide +kernel
theorem dX3_isSpentBy_59 : decode cX3_isSpentBy 59 = .ok (.bipush 8, 2) := by decide +kernel
theorem dX3_isSpentBy_61 : decode cX3_isSpentBy 61 = .ok (.imul, 1) := by decide +kernel
theorem dX3_isSpentBy_62 : decode cX3_isSpentBy 62 = .ok (.istore 4, 2) := by decide +kernel
theorem dX3_isSpentBy_64 : decode cX3_isSpentBy 64 = .ok (.aload_n 0, 1) := by decide +kernel
theorem dX3_isSpentBy_65 : decode cX3_isSpentBy 65 = .ok (.getfield 24, 3) := by decide +kernel
theorem dX3_isSpentBy_68 : decode cX3_isSpentBy 68 = .ok (.iload 4, 2) := by decide +kernel
theorem dX3_isSpentBy_70 : decode cX3_isSpentBy 70 = .ok (.iload_n 1, 1) := by decide +kernel
theorem dX3_isSpentBy_71 : decode cX3_isSpentBy 71 = .ok (.iadd, 1) := by decide +kernel
theorem dX3_isSpentBy_72 : decode cX3_isSpentBy 72 = .ok (.laload, 1) := by decide +kernel
theorem dX3_isSpentBy_73 : decode cX3_isSpentBy 73 = .ok (.aload_n 0, 1) := by decide +kernel
theorem dX3_isSpentBy_74 : decode cX3_isSpentBy 74 = .ok (.getfield 24, 3) := by decide +kernel
theorem dX3_isSpentBy_77 : decode cX3_isSpentBy 77 = .ok (.iload 4, 2) := by decide +kernel
theorem dX3_isSpentBy_79 : decode cX3_isSpentBy 79 = .ok (.iload_n 2, 1) := by decide +kernel
theorem dX3_isSpentBy_80 : decode cX3_isSpentBy 80 = .ok (.iadd, 1) := by decide +kernel
theorem dX3_isSpentBy_81 : decode cX3_isSpentBy 81 = .ok (.laload, 1) := by decide +kernel
theorem dX3_isSpentBy_82 : decode cX3_isSpentBy 82 = .ok (.ladd, 1) := by decide +kernel
theorem dX3_isSpentBy_83 : decode cX3_isSpentBy 83 = .ok (.ldc2_w 80, 3) := by decide +kernel
theorem dX3_isSpentBy_86 : decode cX3_isSpentBy 86 = .ok (.lcmp, 1) := by decide +kernel
theorem dX3_isSpentBy_87 : decode cX3_isSpentBy 87 = .ok (.ifCond .le 5, 3) := by decide +kernel
theorem dX3_isSpentBy_90 : decode cX3_isSpentBy 90 = .ok (.iconst 1, 1) := by decide +kernel
theorem dX3_isSpentBy_91 : decode cX3_isSpentBy 91 = .ok (.ireturn, 1) := by decide +kernel
theorem dX3_isSpentBy_92 : decode cX3_isSpentBy 92 = .ok (.iinc 3 1, 3) := by decide +kernel
theorem dX3_isSpentBy_95 : decode cX3_isSpentBy 95 = .ok (.goto (-45), 3) := by decide +kernel
theorem dX3_isSpentBy_98 : decode cX3_isSpentBy 98 = .ok (.iconst 0, 1) := by decide +kernel
theorem dX3_isSpentBy_99 : decode cX3_isSpentBy 99 = .ok (.ireturn, 1) := by decide +kernel
theorem dX3_shorten_0 : decode cX3_shorten 0 = .ok (.aload_n 0, 1) := by decide +kernel
theorem dX3_shorten_1 : decode cX3_shorten 1 = .ok (.getfield 9, 3) := by decide +kernel
theorem dX3_shorten_4 : decode cX3_shorten 4 = .ok (.iload_n 1, 1) := by decide +kernel
theorem dX3_shorten_5 : decode cX3_shorten 5 = .ok (.dup2, 1) := by decide +kernel
theorem dX3_shorten_6 : decode cX3_shorten 6 = .ok (.iaload, 1) := by decide +kernel
theorem dX3_shorten_7 : decode cX3_shorten 7 = .ok (.aload_n 0, 1) := by decide +kernel
theorem dX3_shorten_8 : decode cX3_shorten 8 = .ok (.getfield 9, 3) := by decide +kernel
theorem dX3_shorten_11 : decode cX3_shorten 11 = .ok (.iload_n 2, 1) := by decide +kernel
theorem dX3_shorten_12 : decode cX3_shorten 12 = .ok (.iaload, 1) := by decide +kernel
theorem dX3_shorten_13 : decode cX3_shorten 13 = .ok (.isub, 1) := by decide +kernel
theorem dX3_shorten_14 : decode cX3_shorten 14 = .ok (.iastore, 1) := by decide +kernel
theorem dX3_shorten_15 : decode cX3_shorten 15 = .ok (.aload_n 0, 1) := by decide +kernel
theorem dX3_shorten_16 : decode cX3_shorten 16 = .ok (.getfield 15, 3) := by decide +kernel
theorem dX3_shorten_19 : decode cX3_shorten 19 = .ok (.iload_n 1, 1) := by decide +kernel
theorem dX3_shorten_20 : decode cX3_shorten 20 = .ok (.dup2, 1) := by decide +kernel
theorem dX3_shorten_21 : decode cX3_shorten 21 = .ok (.iaload, 1) := by decide +kernel
theorem dX3_shorten_22 : decode cX3_shorten 22 = .ok (.aload_n 0, 1) := by decide +kernel
theorem dX3_shorten_23 : decode cX3_shorten 23 = .ok (.getfield 15, 3) := by decide +kernel
theorem dX3_shorten_26 : decode cX3_shorten 26 = .ok (.iload_n 2, 1) := by decide +kernel
theorem dX3_shorten_27 : decode cX3_shorten 27 = .ok (.iaload, 1) := by decide +kernel
theorem dX3_shorten_28 : decode cX3_shorten 28 = .ok (.isub, 1) := by decide +kernel
theorem dX3_shorten_29 : decode cX3_shorten 29 = .ok (.iastore, 1) := by decide +kernel
theorem dX3_shorten_30 : decode cX3_shorten 30 = .ok (.iconst 0, 1) := by decide +kernel
theorem dX3_shorten_31 : decode cX3_shorten 31 = .ok (.istore_n 3, 1) := by decide +kernel
theorem dX3_shorten_32 : decode cX3_shorten 32 = .ok (.iload_n 3, 1) := by decide +kernel
theorem dX3_shorten_33 : decode cX3_shorten 33 = .ok (.aload_n 0, 1) := by decide +kernel
theorem dX3_shorten_34 : decode cX3_shorten 34 = .ok (.getfield 34, 3) := by decide +kernel
theorem dX3_shorten_37 : decode cX3_shorten 37 = .ok (.if_icmp .ge 36, 3) := by decide +kernel
theorem dX3_shorten_40 : decode cX3_shorten 40 = .ok (.iload_n 3, 1) := by decide +kernel
theorem dX3_shorten_41 : decode cX3_shorten 41 = .ok (.bipush 8, 2) := by decide +kernel
theorem dX3_shorten_43 : decode cX3_shorten 43 = .ok (.imul, 1) := by decide +kernel
theorem dX3_shorten_44 : decode cX3_shorten 44 = .ok (.istore 4, 2) := by decide +kernel
theorem dX3_shorten_46 : decode cX3_shorten 46 = .ok (.aload_n 0, 1) := by decide +kernel
theorem dX3_shorten_47 : decode cX3_shorten 47 = .ok (.getfield 24, 3) := by decide +kernel
theorem dX3_shorten_50 : decode cX3_shorten 50 = .ok (.iload 4, 2) := by decide +kernel
theorem dX3_shorten_52 : decode cX3_shorten 52 = .ok (.iload_n 2, 1) := by decide +kernel
theorem dX3_shorten_53 : decode cX3_shorten 53 = .ok (.iadd, 1) := by decide +kernel
theorem dX3_shorten_54 : decode cX3_shorten 54 = .ok (.dup2, 1) := by decide +kernel
theorem dX3_shorten_55 : decode cX3_shorten 55 = .ok (.laload, 1) := by decide +kernel
theorem dX3_shorten_56 : decode cX3_shorten 56 = .ok (.aload_n 0, 1) := by decide +kernel
theorem dX3_shorten_57 : decode cX3_shorten 57 = .ok (.getfield 24, 3) := by decide +kernel
theorem dX3_shorten_60 : decode cX3_shorten 60 = .ok (.iload 4, 2) := by decide +kernel
theorem dX3_shorten_62 : decode cX3_shorten 62 = .ok (.iload_n 1, 1) := by decide +kernel
theorem dX3_shorten_63 : decode cX3_shorten 63 = .ok (.iadd, 1) := by decide +kernel
theorem dX3_shorten_64 : decode cX3_shorten 64 = .ok (.laload, 1) := by decide +kernel
theorem dX3_shorten_65 : decode cX3_shorten 65 = .ok (.ladd, 1) := by decide +kernel
theorem dX3_shorten_66 : decode cX3_shorten 66 = .ok (.lastore, 1) := by decide +kernel
theorem dX3_shorten_67 : decode cX3_shorten 67 = .ok (.iinc 3 1, 3) := by decide +kernel
theorem dX3_shorten_70 : decode cX3_shorten 70 = .ok (.goto (-38), 3) := by decide +kernel
theorem dX3_shorten_73 : decode cX3_shorten 73 = .ok (.return_, 1) := by decide +kernel
theorem dX3_bringLastBehind_0 : decode cX3_bringLastBehind 0 = .ok (.aload_n 2, 1) := by decide +kernel
theorem dX3_bringLastBehind_1 : decode cX3_bringLastBehind 1 = .ok (.aload_n 0, 1) := by decide +kernel
theorem dX3_bringLastBehind_2 : decode cX3_bringLastBehind 2 = .ok (.getfield 34, 3) := by decide +kernel
theorem dX3_bringLastBehind_5 : decode cX3_bringLastBehind 5 = .ok (.iconst 1, 1) := by decide +kernel
theorem dX3_bringLastBehind_6 : decode cX3_bringLastBehind 6 = .ok (.isub, 1) := by decide +kernel
theorem dX3_bringLastBehind_7 : decode cX3_bringLastBehind 7 = .ok (.iaload, 1) := by decide +kernel
theorem dX3_bringLastBehind_8 : decode cX3_bringLastBehind 8 = .ok (.istore_n 3, 1) := by decide +kernel
theorem dX3_bringLastBehind_9 : decode cX3_bringLastBehind 9 = .ok (.aload_n 0, 1) := by decide +kernel
theorem dX3_bringLastBehind_10 : decode cX3_bringLastBehind 10 = .ok (.getfield 34, 3) := by decide +kernel
theorem dX3_bringLastBehind_13 : decode cX3_bringLastBehind 13 = .ok (.iconst 1, 1) := by decide +kernel
theorem dX3_bringLastBehind_14 : decode cX3_bringLastBehind 14 = .ok (.isub, 1) := by decide +kernel
theorem dX3_bringLastBehind_15 : decode cX3_bringLastBehind 15 = .ok (.istore 4, 2) := by decide +kernel
theorem dX3_bringLastBehind_17 : decode cX3_bringLastBehind 17 = .ok (.iload 4, 2) := by decide +kernel
theorem dX3_bringLastBehind_19 : decode cX3_bringLastBehind 19 = .ok (.ifCond .le 29, 3) := by decide +kernel
theorem dX3_bringLastBehind_22 : decode cX3_bringLastBehind 22 = .ok (.aload_n 2, 1) := by decide +kernel
theorem dX3_bringLastBehind_23 : decode cX3_bringLastBehind 23 = .ok (.iload 4, 2) := by decide +kernel
theorem dX3_bringLastBehind_25 : decode cX3_bringLastBehind 25 = .ok (.iconst 1, 1) := by decide +kernel
theorem dX3_bringLastBehind_26 : decode cX3_bringLastBehind 26 = .ok (.isub, 1) := by decide +kernel
theorem dX3_bringLastBehind_27 : decode cX3_bringLastBehind 27 = .ok (.iaload, 1) := by decide +kernel
theorem dX3_bringLastBehind_28 : decode cX3_bringLastBehind 28 = .ok (.iload_n 1, 1) := by decide +kernel
theorem dX3_bringLastBehind_29 : decode cX3_bringLastBehind 29 = .ok (.if_icmp .eq 19, 3) := by decide +kernel
theorem dX3_bringLastBehind_32 : decode cX3_bringLastBehind 32 = .ok (.aload_n 2, 1) := by decide +kernel
theorem dX3_bringLastBehind_33 : decode cX3_bringLastBehind 33 = .ok (.iload 4, 2) := by decide +kernel
theorem dX3_bringLastBehind_35 : decode cX3_bringLastBehind 35 = .ok (.aload_n 2, 1) := by decide +kernel
theorem dX3_bringLastBehind_36 : decode cX3_bringLastBehind 36 = .ok (.iload 4, 2) := by decide +kernel
theorem dX3_bringLastBehind_38 : decode cX3_bringLastBehind 38 = .ok (.iconst 1, 1) := by decide +kernel
theorem dX3_bringLastBehind_39 : decode cX3_bringLastBehind 39 = .ok (.isub, 1) := by decide +kernel
theorem dX3_bringLastBehind_40 : decode cX3_bringLastBehind 40 = .ok (.iaload, 1) := by decide +kernel
theorem dX3_bringLastBehind_41 : decode cX3_bringLastBehind 41 = .ok (.iastore, 1) := by decide +kernel
theorem dX3_bringLastBehind_42 : decode cX3_bringLastBehind 42 = .ok (.iinc 4 (-1), 3) := by decide +kernel
theorem dX3_bringLastBehind_45 : decode cX3_bringLastBehind 45 = .ok (.goto (-28), 3) := by decide +kernel
theorem dX3_bringLastBehind_48 : decode cX3_bringLastBehind 48 = .ok (.aload_n 2, 1) := by decide +kernel
theorem dX3_bringLastBehind_49 : decode cX3_bringLastBehind 49 = .ok (.iload 4, 2) := by decide +kernel
theorem dX3_bringLastBehind_51 : decode cX3_bringLastBehind 51 = .ok (.iload_n 3, 1) := by decide +kernel
theorem dX3_bringLastBehind_52 : decode cX3_bringLastBehind 52 = .ok (.iastore, 1) := by decide +kernel
theorem dX3_bringLastBehind_53 : decode cX3_bringLastBehind 53 = .ok (.return_, 1) := by decide +kernel
theorem dX4_init_0 : decode cX4_init 0 = .ok (.aload_n 0, 1) := by decide +kernel
theorem dX4_init_1 : decode cX4_init 1 = .ok (.invokespecial 3, 3) := by decide +kernel
theorem dX4_init_4 : decode cX4_init 4 = .ok (.aload_n 0, 1) := by decide +kernel
theorem dX4_init_5 : decode cX4_init 5 = .ok (.bipush 8, 2) := by decide +kernel
theorem dX4_init_7 : decode cX4_init 7 = .ok (.newarray .int, 2) := by decide +kernel
theorem dX4_init_9 : decode cX4_init 9 = .ok (.putfield 9, 3) := by decide +kernel
theorem dX4_init_12 : decode cX4_init 12 = .ok (.aload_n 0, 1) := by decide +kernel
theorem dX4_init_13 : decode cX4_init 13 = .ok (.bipush 8, 2) := by decide +kernel
theorem dX4_init_15 : decode cX4_init 15 = .ok (.newarray .int, 2) := by decide +kernel
theorem dX4_init_17 : decode cX4_init 17 = .ok (.putfield 15, 3) := by decide +kernel
theorem dX4_init_20 : decode cX4_init 20 = .ok (.aload_n 0, 1) := by decide +kernel
theorem dX4_init_21 : decode cX4_init 21 = .ok (.bipush 8, 2) := by decide +kernel
theorem dX4_init_23 : decode cX4_init 23 = .ok (.newarray .int, 2) := by decide +kernel
theorem dX4_init_25 : decode cX4_init 25 = .ok (.putfield 18, 3) := by decide +kernel
theorem dX4_init_28 : decode cX4_init 28 = .ok (.return_, 1) := by decide +kernel
theorem dX4_clear_0 : decode cX4_clear 0 = .ok (.aload_n 0, 1) := by decide +kernel
theorem dX4_clear_1 : decode cX4_clear 1 = .ok (.iconst 0, 1) := by decide +kernel
theorem dX4_clear_2 : decode cX4_clear 2 = .ok (.putfield 21, 3) := by decide +kernel
theorem dX4_clear_5 : decode cX4_clear 5 = .ok (.iconst 0, 1) := by decide +kernel
theorem dX4_clear_6 : decode cX4_clear 6 = .ok (.istore_n 1, 1) := by decide +kernel
theorem dX4_clear_7 : decode cX4_clear 7 = .ok (.iload_n 1, 1) := by decide +kernel
theorem dX4_clear_8 : decode cX4_clear 8 = .ok (.bipush 8, 2) := by decide +kernel
theorem dX4_clear_10 : decode cX4_clear 10 = .ok (.if_icmp .ge 23, 3) := by decide +kernel
theorem dX4_clear_13 : decode cX4_clear 13 = .ok (.aload_n 0, 1) := by decide +kernel
theorem dX4_clear_14 : decode cX4_clear 14 = .ok (.getfield 9, 3) := by decide +kernel
theorem dX4_clear_17 : decode cX4_clear 17 = .ok (.iload_n 1, 1) := by decide +kernel
theorem dX4_clear_18 : decode cX4_clear 18 = .ok (.iconst 0, 1) := by decide +kernel
theorem dX4_clear_19 : decode cX4_clear 19 = .ok (.iastore, 1) := by decide +kernel
theorem dX4_clear_20 : decode cX4_clear 20 = .ok (.aload_n 0, 1) := by decide +kernel
theorem dX4_clear_21 : decode cX4_clear 21 = .ok (.getfield 15, 3) := by decide +kernel
theorem dX4_clear_24 : decode cX4_clear 24 = .ok (.iload_n 1, 1) := by decide +kernel
theorem dX4_clear_25 : decode cX4_clear 25 = .ok (.iconst 0, 1) := by decide +kernel
theorem dX4_clear_26 : decode cX4_clear 26 = .ok (.iastore, 1) := by decide +kernel
theorem dX4_clear_27 : decode cX4_clear 27 = .ok (.iinc 1 1, 3) := by decide +kernel
theorem dX4_clear_30 : decode cX4_clear 30 = .ok (.goto (-23), 3) := by decide +kernel
theorem dX4_clear_33 : decode cX4_clear 33 = .ok (.return_, 1) := by decide +kernel
theorem dX4_takeOrder_0 : decode cX4_takeOrder 0 = .ok (.iload_n 1, 1) := by decide +kernel
theorem dX4_takeOrder_1 : decode cX4_takeOrder 1 = .ok (.iconst 2, 1) := by decide +kernel
theorem dX4_takeOrder_2 : decode cX4_takeOrder 2 = .ok (.if_icmp .lt 9, 3) := by decide +kernel
theorem dX4_takeOrder_5 : decode cX4_takeOrder 5 = .ok (.iload_n 1, 1) := by decide +kernel
theorem dX4_takeOrder_6 : decode cX4_takeOrder 6 = .ok (.bipush 8, 2) := by decide +kernel
theorem dX4_takeOrder_8 : decode cX4_takeOrder 8 = .ok (.if_icmp .le 5, 3) := by decide +kernel
theorem dX4_takeOrder_11 : decode cX4_takeOrder 11 = .ok (.iconst 0, 1) := by decide +kernel
theorem dX4_takeOrder_12 : decode cX4_takeOrder 12 = .ok (.ireturn, 1) := by decide +kernel
theorem dX4_takeOrder_13 : decode cX4_takeOrder 13 = .ok (.iconst 0, 1) := by decide +kernel
theorem dX4_takeOrder_14 : decode cX4_takeOrder 14 = .ok (.istore_n 3, 1) := by decide +kernel
theorem dX4_takeOrder_15 : decode cX4_takeOrder 15 = .ok (.iconst 0, 1) := by decide +kernel
theorem dX4_takeOrder_16 : decode cX4_takeOrder 16 = .ok (.istore 4, 2) := by decide +kernel
theorem dX4_takeOrder_18 : decode cX4_takeOrder 18 = .ok (.iload 4, 2) := by decide +kernel
theorem dX4_takeOrder_20 : decode cX4_takeOrder 20 = .ok (.iload_n 1, 1) := by decide +kernel
theorem dX4_takeOrder_21 : decode cX4_takeOrder 21 = .ok (.if_icmp .ge 20, 3) := by decide +kernel
theorem dX4_takeOrder_24 : decode cX4_takeOrder 24 = .ok (.iload_n 3, 1) := by decide +kernel
theorem dX4_takeOrder_25 : decode cX4_takeOrder 25 = .ok (.iconst 1, 1) := by decide +kernel
theorem dX4_takeOrder_26 : decode cX4_takeOrder 26 = .ok (.iload_n 2, 1) := by decide +kernel
theorem dX4_takeOrder_27 : decode cX4_takeOrder 27 = .ok (.iload 4, 2) := by decide +kernel
theorem dX4_takeOrder_29 : decode cX4_takeOrder 29 = .ok (.invokestatic 25, 3) := by decide +kernel
theorem dX4_takeOrder_32 : decode cX4_takeOrder 32 = .ok (.ishl, 1) := by decide +kernel
theorem dX4_takeOrder_33 : decode cX4_takeOrder 33 = .ok (.ior, 1) := by decide +kernel
theorem dX4_takeOrder_34 : decode cX4_takeOrder 34 = .ok (.istore_n 3, 1) := by decide +kernel
theorem dX4_takeOrder_35 : decode cX4_takeOrder 35 = .ok (.iinc 4 1, 3) := by decide +kernel
theorem dX4_takeOrder_38 : decode cX4_takeOrder 38 = .ok (.goto (-20), 3) := by decide +kernel
theorem dX4_takeOrder_41 : decode cX4_takeOrder 41 = .ok (.iload_n 3, 1) := by decide +kernel
theorem dX4_takeOrder_42 : decode cX4_takeOrder 42 = .ok (.iconst 1, 1) := by decide +kernel
theorem dX4_takeOrder_43 : decode cX4_takeOrder 43 = .ok (.iload_n 1, 1) := by decide +kernel
theorem dX4_takeOrder_44 : decode cX4_takeOrder 44 = .ok (.ishl, 1) := by decide +kernel
theorem dX4_takeOrder_45 : decode cX4_takeOrder 45 = .ok (.iconst 1, 1) := by decide +kernel
theorem dX4_takeOrder_46 : decode cX4_takeOrder 46 = .ok (.isub, 1) := by decide +kernel
theorem dX4_takeOrder_47 : decode cX4_takeOrder 47 = .ok (.if_icmp .eq 5, 3) := by decide +kernel
theorem dX4_takeOrder_50 : decode cX4_takeOrder 50 = .ok (.iconst 0, 1) := by decide +kernel
theorem dX4_takeOrder_51 : decode cX4_takeOrder 51 = .ok (.ireturn, 1) := by decide +kernel
theorem dX4_takeOrder_52 : decode cX4_takeOrder 52 = .ok (.iconst 0, 1) := by decide +kernel
theorem dX4_takeOrder_53 : decode cX4_takeOrder 53 = .ok (.istore 4, 2) := by decide +kernel
theorem dX4_takeOrder_55 : decode cX4_takeOrder 55 = .ok (.iload 4, 2) := by decide +kernel
theorem dX4_takeOrder_57 : decode cX4_takeOrder 57 = .ok (.iload_n 1, 1) := by decide +kernel
theorem dX4_takeOrder_58 : decode cX4_takeOrder 58 = .ok (.if_icmp .ge 22, 3) := by decide +kernel
theorem dX4_takeOrder_61 : decode cX4_takeOrder 61 = .ok (.aload_n 0, 1) := by decide +kernel
theorem dX4_takeOrder_62 : decode cX4_takeOrder 62 = .ok (.getfield 18, 3) := by decide +kernel
theorem dX4_takeOrder_65 : decode cX4_takeOrder 65 = .ok (.iload 4, 2) := by decide +kernel
theorem dX4_takeOrder_67 : decode cX4_takeOrder 67 = .ok (.iload_n 2, 1) := by decide +kernel
theorem dX4_takeOrder_68 : decode cX4_takeOrder 68 = .ok (.iload 4, 2) := by decide +kernel
theorem dX4_takeOrder_70 : decode cX4_takeOrder 70 = .ok (.invokestatic 25, 3) := by decide +kernel
theorem dX4_takeOrder_73 : decode cX4_takeOrder 73 = .ok (.iastore, 1) := by decide +kernel
theorem dX4_takeOrder_74 : decode cX4_takeOrder 74 = .ok (.iinc 4 1, 3) := by decide +kernel
theorem dX4_takeOrder_77 : decode cX4_takeOrder 77 = .ok (.goto (-22), 3) := by decide +kernel
theorem dX4_takeOrder_80 : decode cX4_takeOrder 80 = .ok (.aload_n 0, 1) := by decide +kernel
theorem dX4_takeOrder_81 : decode cX4_takeOrder 81 = .ok (.iload_n 1, 1) := by decide +kernel
theorem dX4_takeOrder_82 : decode cX4_takeOrder 82 = .ok (.putfield 21, 3) := by decide +kernel
theorem dX4_takeOrder_85 : decode cX4_takeOrder 85 = .ok (.iconst 1, 1) := by decide +kernel
theorem dX4_takeOrder_86 : decode cX4_takeOrder 86 = .ok (.ireturn, 1) := by decide +kernel
theorem dX4_hasAllLengths_0 : decode cX4_hasAllLengths 0 = .ok (.iconst 0, 1) := by decide +kernel
theorem dX4_hasAllLengths_1 : decode cX4_hasAllLengths 1 = .ok (.istore_n 1, 1) := by decide +kernel
theorem dX4_hasAllLengths_2 : decode cX4_hasAllLengths 2 = .ok (.iload_n 1, 1) := by decide +kernel
theorem dX4_hasAllLengths_3 : decode cX4_hasAllLengths 3 = .ok (.aload_n 0, 1) := by decide +kernel
theorem dX4_hasAllLengths_4 : decode cX4_hasAllLengths 4 = .ok (.getfield 21, 3) := by decide +kernel
theorem dX4_hasAllLengths_7 : decode cX4_hasAllLengths 7 = .ok (.if_icmp .ge 29, 3) := by decide +kernel
theorem dX4_hasAllLengths_10 : decode cX4_hasAllLengths 10 = .ok (.aload_n 0, 1) := by decide +kernel
theorem dX4_hasAllLengths_11 : decode cX4_hasAllLengths 11 = .ok (.getfield 9, 3) := by decide +kernel
theorem dX4_hasAllLengths_14 : decode cX4_hasAllLengths 14 = .ok (.iload_n 1, 1) := by decide +kernel
theorem dX4_hasAllLengths_15 : decode cX4_hasAllLengths 15 = .ok (.iaload, 1) := by decide +kernel
theorem dX4_hasAllLengths_16 : decode cX4_hasAllLengths 16 = .ok (.ifCond .ne 14, 3) := by decide +kernel
theorem dX4_hasAllLengths_19 : decode cX4_hasAllLengths 19 = .ok (.aload_n 0, 1) := by decide +kernel
theorem dX4_hasAllLengths_20 : decode cX4_hasAllLengths 20 = .ok (.getfield 15, 3) := by decide +kernel
theorem dX4_hasAllLengths_23 : decode cX4_hasAllLengths 23 = .ok (.iload_n 1, 1) := by decide +kernel
theorem dX4_hasAllLengths_24 : decode cX4_hasAllLengths 24 = .ok (.iaload, 1) := by decide +kernel
theorem dX4_hasAllLengths_25 : decode cX4_hasAllLengths 25 = .ok (.ifCond .ne 5, 3) := by decide +kernel
theorem dX4_hasAllLengths_28 : decode cX4_hasAllLengths 28 = .ok (.iconst 0, 1) := by decide +kernel
theorem dX4_hasAllLengths_29 : decode cX4_hasAllLengths 29 = .ok (.ireturn, 1) := by decide +kernel

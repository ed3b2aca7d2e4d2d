theorem dX0_putInOrder_56 : decode cX0_putInOrder 56 = .ok (.aload_n 0, 1) := by decide +kernel
theorem dX0_putInOrder_57 : decode cX0_putInOrder 57 = .ok (.getfield 12, 3) := by decide +kernel
theorem dX0_putInOrder_60 : decode cX0_putInOrder 60 = .ok (.invokevirtual 29, 3) := by decide +kernel
theorem dX0_putInOrder_63 : decode cX0_putInOrder 63 = .ok (.if_icmp .ge 13, 3) := by decide +kernel
theorem dX0_putInOrder_66 : decode cX0_putInOrder 66 = .ok (.aload_n 0, 1) := by decide +kernel
theorem dX0_putInOrder_67 : decode cX0_putInOrder 67 = .ok (.invokevirtual 79, 3) := by decide +kernel
theorem dX0_putInOrder_70 : decode cX0_putInOrder 70 = .ok (.iinc 1 1, 3) := by decide +kernel
theorem dX0_putInOrder_73 : decode cX0_putInOrder 73 = .ok (.goto (-30), 3) := by decide +kernel
theorem dX0_putInOrder_76 : decode cX0_putInOrder 76 = .ok (.return_, 1) := by decide +kernel
theorem dX0_reckonDelays_0 : decode cX0_reckonDelays 0 = .ok (.iconst 0, 1) := by decide +kernel
theorem dX0_reckonDelays_1 : decode cX0_reckonDelays 1 = .ok (.istore_n 1, 1) := by decide +kernel
theorem dX0_reckonDelays_2 : decode cX0_reckonDelays 2 = .ok (.iload_n 1, 1) := by decide +kernel
theorem dX0_reckonDelays_3 : decode cX0_reckonDelays 3 = .ok (.aload_n 0, 1) := by decide +kernel
theorem dX0_reckonDelays_4 : decode cX0_reckonDelays 4 = .ok (.getfield 24, 3) := by decide +kernel
theorem dX0_reckonDelays_7 : decode cX0_reckonDelays 7 = .ok (.invokevirtual 29, 3) := by decide +kernel
theorem dX0_reckonDelays_10 : decode cX0_reckonDelays 10 = .ok (.if_icmp .ge 34, 3) := by decide +kernel
theorem dX0_reckonDelays_13 : decode cX0_reckonDelays 13 = .ok (.aload_n 0, 1) := by decide +kernel
theorem dX0_reckonDelays_14 : decode cX0_reckonDelays 14 = .ok (.getfield 24, 3) := by decide +kernel
theorem dX0_reckonDelays_17 : decode cX0_reckonDelays 17 = .ok (.iload_n 1, 1) := by decide +kernel
theorem dX0_reckonDelays_18 : decode cX0_reckonDelays 18 = .ok (.invokevirtual 71, 3) := by decide +kernel
theorem dX0_reckonDelays_21 : decode cX0_reckonDelays 21 = .ok (.checkcast 27, 3) := by decide +kernel
theorem dX0_reckonDelays_24 : decode cX0_reckonDelays 24 = .ok (.astore_n 2, 1) := by decide +kernel
theorem dX0_reckonDelays_25 : decode cX0_reckonDelays 25 = .ok (.aload_n 2, 1) := by decide +kernel
theorem dX0_reckonDelays_26 : decode cX0_reckonDelays 26 = .ok (.aload_n 2, 1) := by decide +kernel
theorem dX0_reckonDelays_27 : decode cX0_reckonDelays 27 = .ok (.invokevirtual 95, 3) := by decide +kernel
theorem dX0_reckonDelays_30 : decode cX0_reckonDelays 30 = .ok (.putfield 98, 3) := by decide +kernel
theorem dX0_reckonDelays_33 : decode cX0_reckonDelays 33 = .ok (.aload_n 2, 1) := by decide +kernel
theorem dX0_reckonDelays_34 : decode cX0_reckonDelays 34 = .ok (.iconst 0, 1) := by decide +kernel
theorem dX0_reckonDelays_35 : decode cX0_reckonDelays 35 = .ok (.putfield 101, 3) := by decide +kernel
theorem dX0_reckonDelays_38 : decode cX0_reckonDelays 38 = .ok (.iinc 1 1, 3) := by decide +kernel
theorem dX0_reckonDelays_41 : decode cX0_reckonDelays 41 = .ok (.goto (-39), 3) := by decide +kernel
theorem dX0_reckonDelays_44 : decode cX0_reckonDelays 44 = .ok (.aload_n 0, 1) := by decide +kernel
theorem dX0_reckonDelays_45 : decode cX0_reckonDelays 45 = .ok (.getfield 24, 3) := by decide +kernel
theorem dX0_reckonDelays_48 : decode cX0_reckonDelays 48 = .ok (.invokevirtual 29, 3) := by decide +kernel
theorem dX0_reckonDelays_51 : decode cX0_reckonDelays 51 = .ok (.iconst 1, 1) := by decide +kernel
theorem dX0_reckonDelays_52 : decode cX0_reckonDelays 52 = .ok (.isub, 1) := by decide +kernel
theorem dX0_reckonDelays_53 : decode cX0_reckonDelays 53 = .ok (.istore_n 1, 1) := by decide +kernel
theorem dX0_reckonDelays_54 : decode cX0_reckonDelays 54 = .ok (.iload_n 1, 1) := by decide +kernel
theorem dX0_reckonDelays_55 : decode cX0_reckonDelays 55 = .ok (.ifCond .lt 23, 3) := by decide +kernel
theorem dX0_reckonDelays_58 : decode cX0_reckonDelays 58 = .ok (.aload_n 0, 1) := by decide +kernel
theorem dX0_reckonDelays_59 : decode cX0_reckonDelays 59 = .ok (.getfield 24, 3) := by decide +kernel
theorem dX0_reckonDelays_62 : decode cX0_reckonDelays 62 = .ok (.iload_n 1, 1) := by decide +kernel
theorem dX0_reckonDelays_63 : decode cX0_reckonDelays 63 = .ok (.invokevirtual 71, 3) := by decide +kernel
theorem dX0_reckonDelays_66 : decode cX0_reckonDelays 66 = .ok (.checkcast 27, 3) := by decide +kernel
theorem dX0_reckonDelays_69 : decode cX0_reckonDelays 69 = .ok (.invokevirtual 104, 3) := by decide +kernel
theorem dX0_reckonDelays_72 : decode cX0_reckonDelays 72 = .ok (.iinc 1 (-1), 3) := by decide +kernel
theorem dX0_reckonDelays_75 : decode cX0_reckonDelays 75 = .ok (.goto (-21), 3) := by decide +kernel
theorem dX0_reckonDelays_78 : decode cX0_reckonDelays 78 = .ok (.return_, 1) := by decide +kernel
theorem dX0_settle_0 : decode cX0_settle 0 = .ok (.iconst 0, 1) := by decide +kernel
theorem dX0_settle_1 : decode cX0_settle 1 = .ok (.istore_n 3, 1) := by decide +kernel
theorem dX0_settle_2 : decode cX0_settle 2 = .ok (.iload_n 3, 1) := by decide +kernel
theorem dX0_settle_3 : decode cX0_settle 3 = .ok (.aload_n 0, 1) := by decide +kernel
theorem dX0_settle_4 : decode cX0_settle 4 = .ok (.getfield 24, 3) := by decide +kernel
theorem dX0_settle_7 : decode cX0_settle 7 = .ok (.invokevirtual 29, 3) := by decide +kernel
theorem dX0_settle_10 : decode cX0_settle 10 = .ok (.if_icmp .ge 55, 3) := by decide +kernel
theorem dX0_settle_13 : decode cX0_settle 13 = .ok (.aload_n 0, 1) := by decide +kernel
theorem dX0_settle_14 : decode cX0_settle 14 = .ok (.getfield 24, 3) := by decide +kernel
theorem dX0_settle_17 : decode cX0_settle 17 = .ok (.iload_n 3, 1) := by decide +kernel
theorem dX0_settle_18 : decode cX0_settle 18 = .ok (.invokevirtual 71, 3) := by decide +kernel
theorem dX0_settle_21 : decode cX0_settle 21 = .ok (.checkcast 27, 3) := by decide +kernel
theorem dX0_settle_24 : decode cX0_settle 24 = .ok (.astore 4, 2) := by decide +kernel
theorem dX0_settle_26 : decode cX0_settle 26 = .ok (.aload 4, 2) := by decide +kernel
theorem dX0_settle_28 : decode cX0_settle 28 = .ok (.aload_n 1, 1) := by decide +kernel
theorem dX0_settle_29 : decode cX0_settle 29 = .ok (.if_acmp .ne 12, 3) := by decide +kernel
theorem dX0_settle_41 : decode cX0_settle 41 = .ok (.aload 4, 2) := by decide +kernel
theorem dX0_settle_43 : decode cX0_settle 43 = .ok (.invokevirtual 40, 3) := by decide +kernel
theorem dX0_settle_46 : decode cX0_settle 46 = .ok (.ifCond .ne 13, 3) := by decide +kernel
theorem dX0_settle_49 : decode cX0_settle 49 = .ok (.aload 4, 2) := by decide +kernel
theorem dX0_settle_51 : decode cX0_settle 51 = .ok (.aload 4, 2) := by decide +kernel
theorem dX0_settle_53 : decode cX0_settle 53 = .ok (.invokevirtual 162, 3) := by decide +kernel
theorem dX0_settle_56 : decode cX0_settle 56 = .ok (.putfield 155, 3) := by decide +kernel
theorem dX0_settle_59 : decode cX0_settle 59 = .ok (.iinc 3 1, 3) := by decide +kernel
theorem dX0_settle_62 : decode cX0_settle 62 = .ok (.goto (-60), 3) := by decide +kernel
theorem dX0_settle_65 : decode cX0_settle 65 = .ok (.return_, 1) := by decide +kernel
theorem dX0_settleAsNow_0 : decode cX0_settleAsNow 0 = .ok (.iconst 0, 1) := by decide +kernel
theorem dX0_settleAsNow_1 : decode cX0_settleAsNow 1 = .ok (.istore_n 1, 1) := by decide +kernel
theorem dX0_settleAsNow_2 : decode cX0_settleAsNow 2 = .ok (.iload_n 1, 1) := by decide +kernel
theorem dX0_settleAsNow_3 : decode cX0_settleAsNow 3 = .ok (.aload_n 0, 1) := by decide +kernel
theorem dX0_settleAsNow_4 : decode cX0_settleAsNow 4 = .ok (.getfield 18, 3) := by decide +kernel
theorem dX0_settleAsNow_7 : decode cX0_settleAsNow 7 = .ok (.invokevirtual 29, 3) := by decide +kernel
theorem dX0_settleAsNow_10 : decode cX0_settleAsNow 10 = .ok (.if_icmp .ge 29, 3) := by decide +kernel
theorem dX0_settleAsNow_39 : decode cX0_settleAsNow 39 = .ok (.aload_n 0, 1) := by decide +kernel
theorem dX0_settleAsNow_40 : decode cX0_settleAsNow 40 = .ok (.aconst_null, 1) := by decide +kernel
theorem dX0_settleAsNow_41 : decode cX0_settleAsNow 41 = .ok (.bipush 120, 2) := by decide +kernel
theorem dX0_settleAsNow_43 : decode cX0_settleAsNow 43 = .ok (.invokevirtual 158, 3) := by decide +kernel
theorem dX0_settleAsNow_46 : decode cX0_settleAsNow 46 = .ok (.return_, 1) := by decide +kernel
theorem dX2_drivenTrial_0 : decode cX2_drivenTrial 0 = .ok (.bipush 122, 2) := by decide +kernel
theorem dX2_drivenTrial_2 : decode cX2_drivenTrial 2 = .ok (.istore_n 1, 1) := by decide +kernel
theorem dX2_drivenTrial_3 : decode cX2_drivenTrial 3 = .ok (.iconst 0, 1) := by decide +kernel
theorem dX2_drivenTrial_4 : decode cX2_drivenTrial 4 = .ok (.istore_n 2, 1) := by decide +kernel
theorem dX2_drivenTrial_5 : decode cX2_drivenTrial 5 = .ok (.iload_n 2, 1) := by decide +kernel
theorem dX2_drivenTrial_6 : decode cX2_drivenTrial 6 = .ok (.aload_n 0, 1) := by decide +kernel
theorem dX2_drivenTrial_7 : decode cX2_drivenTrial 7 = .ok (.getfield 10, 3) := by decide +kernel
theorem dX2_drivenTrial_10 : decode cX2_drivenTrial 10 = .ok (.invokevirtual 65, 3) := by decide +kernel
theorem dX2_drivenTrial_13 : decode cX2_drivenTrial 13 = .ok (.if_icmp .ge 44, 3) := by decide +kernel
theorem dX2_drivenTrial_57 : decode cX2_drivenTrial 57 = .ok (.iload_n 1, 1) := by decide +kernel
theorem dX2_drivenTrial_58 : decode cX2_drivenTrial 58 = .ok (.ireturn, 1) := by decide +kernel
theorem dX2_init_0 : decode cX2_init 0 = .ok (.aload_n 0, 1) := by decide +kernel
theorem dX2_init_1 : decode cX2_init 1 = .ok (.invokespecial 1, 3) := by decide +kernel
theorem dX2_init_4 : decode cX2_init 4 = .ok (.aload_n 0, 1) := by decide +kernel
theorem dX2_init_5 : decode cX2_init 5 = .ok (.new 7, 3) := by decide +kernel
theorem dX2_init_8 : decode cX2_init 8 = .ok (.dup, 1) := by decide +kernel
theorem dX2_init_9 : decode cX2_init 9 = .ok (.invokespecial 9, 3) := by decide +kernel
theorem dX2_init_12 : decode cX2_init 12 = .ok (.putfield 10, 3) := by decide +kernel
theorem dX2_init_15 : decode cX2_init 15 = .ok (.aload_n 0, 1) := by decide +kernel
theorem dX2_init_16 : decode cX2_init 16 = .ok (.iload_n 1, 1) := by decide +kernel
theorem dX2_init_17 : decode cX2_init 17 = .ok (.putfield 16, 3) := by decide +kernel
theorem dX2_init_20 : decode cX2_init 20 = .ok (.aload_n 0, 1) := by decide +kernel
theorem dX2_init_21 : decode cX2_init 21 = .ok (.aload_n 2, 1) := by decide +kernel
theorem dX2_init_22 : decode cX2_init 22 = .ok (.putfield 20, 3) := by decide +kernel
theorem dX2_init_25 : decode cX2_init 25 = .ok (.aload_n 0, 1) := by decide +kernel
theorem dX2_init_26 : decode cX2_init 26 = .ok (.bipush 120, 2) := by decide +kernel
theorem dX2_init_28 : decode cX2_init 28 = .ok (.putfield 24, 3) := by decide +kernel
theorem dX2_init_31 : decode cX2_init 31 = .ok (.aload_n 0, 1) := by decide +kernel
theorem dX2_init_32 : decode cX2_init 32 = .ok (.bipush 120, 2) := by decide +kernel
theorem dX2_init_34 : decode cX2_init 34 = .ok (.putfield 28, 3) := by decide +kernel
theorem dX2_init_37 : decode cX2_init 37 = .ok (.aload_n 0, 1) := by decide +kernel
theorem dX2_init_38 : decode cX2_init 38 = .ok (.bipush 120, 2) := by decide +kernel
theorem dX2_init_40 : decode cX2_init 40 = .ok (.putfield 31, 3) := by decide +kernel
theorem dX2_init_43 : decode cX2_init 43 = .ok (.aload_n 0, 1) := by decide +kernel
theorem dX2_init_44 : decode cX2_init 44 = .ok (.bipush 120, 2) := by decide +kernel
theorem dX2_init_46 : decode cX2_init 46 = .ok (.putfield 34, 3) := by decide +kernel
theorem dX2_init_49 : decode cX2_init 49 = .ok (.aload_n 0, 1) := by decide +kernel
theorem dX2_init_50 : decode cX2_init 50 = .ok (.aload_n 0, 1) := by decide +kernel
theorem dX2_init_51 : decode cX2_init 51 = .ok (.putfield 37, 3) := by decide +kernel
theorem dX2_init_54 : decode cX2_init 54 = .ok (.return_, 1) := by decide +kernel
theorem dX2_isSource_0 : decode cX2_isSource 0 = .ok (.aload_n 0, 1) := by decide +kernel
theorem dX2_isSource_1 : decode cX2_isSource 1 = .ok (.getfield 20, 3) := by decide +kernel
theorem dX2_isSource_4 : decode cX2_isSource 4 = .ok (.getstatic 41, 3) := by decide +kernel
theorem dX2_isSource_7 : decode cX2_isSource 7 = .ok (.if_acmp .eq 13, 3) := by decide +kernel
theorem dX2_isSource_10 : decode cX2_isSource 10 = .ok (.aload_n 0, 1) := by decide +kernel
theorem dX2_isSource_11 : decode cX2_isSource 11 = .ok (.getfield 20, 3) := by decide +kernel
theorem dX2_isSource_14 : decode cX2_isSource 14 = .ok (.getstatic 46, 3) := by decide +kernel
theorem dX2_isSource_17 : decode cX2_isSource 17 = .ok (.if_acmp .ne 7, 3) := by decide +kernel
theorem dX2_isSource_20 : decode cX2_isSource 20 = .ok (.iconst 1, 1) := by decide +kernel
theorem dX2_isSource_21 : decode cX2_isSource 21 = .ok (.goto 4, 3) := by decide +kernel
theorem dX2_isSource_24 : decode cX2_isSource 24 = .ok (.iconst 0, 1) := by decide +kernel
theorem dX2_isSource_25 : decode cX2_isSource 25 = .ok (.ireturn, 1) := by decide +kernel
theorem dX2_latestArrival_0 : decode cX2_latestArrival 0 = .ok (.iconst 0, 1) := by decide +kernel
theorem dX2_latestArrival_1 : decode cX2_latestArrival 1 = .ok (.istore_n 1, 1) := by decide +kernel
theorem dX2_latestArrival_2 : decode cX2_latestArrival 2 = .ok (.iconst 0, 1) := by decide +kernel
theorem dX2_latestArrival_3 : decode cX2_latestArrival 3 = .ok (.istore_n 2, 1) := by decide +kernel
theorem dX2_latestArrival_4 : decode cX2_latestArrival 4 = .ok (.iload_n 2, 1) := by decide +kernel
theorem dX2_latestArrival_5 : decode cX2_latestArrival 5 = .ok (.aload_n 0, 1) := by decide +kernel
theorem dX2_latestArrival_6 : decode cX2_latestArrival 6 = .ok (.getfield 10, 3) := by decide +kernel
theorem dX2_latestArrival_9 : decode cX2_latestArrival 9 = .ok (.invokevirtual 65, 3) := by decide +kernel
theorem dX2_latestArrival_12 : decode cX2_latestArrival 12 = .ok (.if_icmp .ge 48, 3) := by decide +kernel
theorem dX2_latestArrival_60 : decode cX2_latestArrival 60 = .ok (.iload_n 1, 1) := by decide +kernel
theorem dX2_latestArrival_61 : decode cX2_latestArrival 61 = .ok (.ireturn, 1) := by decide +kernel
theorem dX2_lengthenWaysOfRead_0 : decode cX2_lengthenWaysOfRead 0 = .ok (.iconst 0, 1) := by decide +kernel
theorem dX2_lengthenWaysOfRead_1 : decode cX2_lengthenWaysOfRead 1 = .ok (.istore_n 1, 1) := by decide +kernel
theorem dX2_lengthenWaysOfRead_2 : decode cX2_lengthenWaysOfRead 2 = .ok (.iload_n 1, 1) := by decide +kernel
theorem dX2_lengthenWaysOfRead_3 : decode cX2_lengthenWaysOfRead 3 = .ok (.aload_n 0, 1) := by decide +kernel
theorem dX2_lengthenWaysOfRead_4 : decode cX2_lengthenWaysOfRead 4 = .ok (.getfield 10, 3) := by decide +kernel
theorem dX2_lengthenWaysOfRead_7 : decode cX2_lengthenWaysOfRead 7 = .ok (.invokevirtual 65, 3) := by decide +kernel
theorem dX2_lengthenWaysOfRead_10 : decode cX2_lengthenWaysOfRead 10 = .ok (.if_icmp .ge 67, 3) := by decide +kernel
theorem dX2_lengthenWaysOfRead_77 : decode cX2_lengthenWaysOfRead 77 = .ok (.return_, 1) := by decide +kernel
theorem dX2_readsOnlyPlaced_0 : decode cX2_readsOnlyPlaced 0 = .ok (.iconst 0, 1) := by decide +kernel
theorem dX2_readsOnlyPlaced_1 : decode cX2_readsOnlyPlaced 1 = .ok (.istore_n 1, 1) := by decide +kernel
theorem dX2_readsOnlyPlaced_2 : decode cX2_readsOnlyPlaced 2 = .ok (.iload_n 1, 1) := by decide +kernel
theorem dX2_readsOnlyPlaced_3 : decode cX2_readsOnlyPlaced 3 = .ok (.aload_n 0, 1) := by decide +kernel
theorem dX2_readsOnlyPlaced_4 : decode cX2_readsOnlyPlaced 4 = .ok (.getfield 10, 3) := by decide +kernel
theorem dX2_readsOnlyPlaced_7 : decode cX2_readsOnlyPlaced 7 = .ok (.invokevirtual 65, 3) := by decide +kernel
theorem dX2_readsOnlyPlaced_10 : decode cX2_readsOnlyPlaced 10 = .ok (.if_icmp .ge 43, 3) := by decide +kernel
theorem dX2_readsOnlyPlaced_53 : decode cX2_readsOnlyPlaced 53 = .ok (.iconst 1, 1) := by decide +kernel
theorem dX2_readsOnlyPlaced_54 : decode cX2_readsOnlyPlaced 54 = .ok (.ireturn, 1) := by decide +kernel
theorem dX2_restart_0 : decode cX2_restart 0 = .ok (.aload_n 0, 1) := by decide +kernel
theorem dX2_restart_1 : decode cX2_restart 1 = .ok (.aload_n 0, 1) := by decide +kernel
theorem dX2_restart_2 : decode cX2_restart 2 = .ok (.getfield 31, 3) := by decide +kernel
theorem dX2_restart_5 : decode cX2_restart 5 = .ok (.putfield 24, 3) := by decide +kernel
theorem dX2_restart_8 : decode cX2_restart 8 = .ok (.aload_n 0, 1) := by decide +kernel
theorem dX2_restart_9 : decode cX2_restart 9 = .ok (.iconst 0, 1) := by decide +kernel
theorem dX2_restart_10 : decode cX2_restart 10 = .ok (.putfield 56, 3) := by decide +kernel
theorem dX2_restart_13 : decode cX2_restart 13 = .ok (.aload_n 0, 1) := by decide +kernel
theorem dX2_restart_14 : decode cX2_restart 14 = .ok (.iconst 0, 1) := by decide +kernel
theorem dX2_restart_15 : decode cX2_restart 15 = .ok (.putfield 59, 3) := by decide +kernel
theorem dX2_restart_18 : decode cX2_restart 18 = .ok (.aload_n 0, 1) := by decide +kernel
theorem dX2_restart_19 : decode cX2_restart 19 = .ok (.iconst 0, 1) := by decide +kernel
theorem dX2_restart_20 : decode cX2_restart 20 = .ok (.putfield 62, 3) := by decide +kernel
theorem dX2_restart_23 : decode cX2_restart 23 = .ok (.return_, 1) := by decide +kernel
theorem dX4_areStandingsKept_0 : decode cX4_areStandingsKept 0 = .ok (.iconst 0, 1) := by decide +kernel
theorem dX4_areStandingsKept_1 : decode cX4_areStandingsKept 1 = .ok (.istore_n 1, 1) := by decide +kernel
theorem dX4_areStandingsKept_2 : decode cX4_areStandingsKept 2 = .ok (.iload_n 1, 1) := by decide +kernel
theorem dX4_areStandingsKept_3 : decode cX4_areStandingsKept 3 = .ok (.aload_n 0, 1) := by decide +kernel
theorem dX4_areStandingsKept_4 : decode cX4_areStandingsKept 4 = .ok (.invokevirtual 35, 3) := by decide +kernel
theorem dX4_areStandingsKept_7 : decode cX4_areStandingsKept 7 = .ok (.if_icmp .ge 70, 3) := by decide +kernel
theorem dX4_areStandingsKept_10 : decode cX4_areStandingsKept 10 = .ok (.aload_n 0, 1) := by decide +kernel
theorem dX4_areStandingsKept_11 : decode cX4_areStandingsKept 11 = .ok (.iload_n 1, 1) := by decide +kernel
theorem dX4_areStandingsKept_12 : decode cX4_areStandingsKept 12 = .ok (.aconst_null, 1) := by decide +kernel
theorem dX4_areStandingsKept_13 : decode cX4_areStandingsKept 13 = .ok (.bipush 120, 2) := by decide +kernel
theorem dX4_areStandingsKept_15 : decode cX4_areStandingsKept 15 = .ok (.invokevirtual 38, 3) := by decide +kernel
theorem dX4_areStandingsKept_18 : decode cX4_areStandingsKept 18 = .ok (.iconst 0, 1) := by decide +kernel
theorem dX4_areStandingsKept_19 : decode cX4_areStandingsKept 19 = .ok (.istore_n 2, 1) := by decide +kernel
theorem dX4_areStandingsKept_20 : decode cX4_areStandingsKept 20 = .ok (.iload_n 2, 1) := by decide +kernel
theorem dX4_areStandingsKept_21 : decode cX4_areStandingsKept 21 = .ok (.aload_n 0, 1) := by decide +kernel
theorem dX4_areStandingsKept_22 : decode cX4_areStandingsKept 22 = .ok (.getfield 15, 3) := by decide +kernel
theorem dX4_areStandingsKept_25 : decode cX4_areStandingsKept 25 = .ok (.getfield 48, 3) := by decide +kernel
theorem dX4_areStandingsKept_28 : decode cX4_areStandingsKept 28 = .ok (.invokevirtual 25, 3) := by decide +kernel
theorem dX4_areStandingsKept_31 : decode cX4_areStandingsKept 31 = .ok (.if_icmp .ge 40, 3) := by decide +kernel
theorem dX4_areStandingsKept_71 : decode cX4_areStandingsKept 71 = .ok (.iinc 1 1, 3) := by decide +kernel
theorem dX4_areStandingsKept_74 : decode cX4_areStandingsKept 74 = .ok (.goto (-72), 3) := by decide +kernel
theorem dX4_areStandingsKept_77 : decode cX4_areStandingsKept 77 = .ok (.iconst 1, 1) := by decide +kernel
theorem dX4_areStandingsKept_78 : decode cX4_areStandingsKept 78 = .ok (.ireturn, 1) := by decide +kernel
theorem dX4_init_0 : decode cX4_init 0 = .ok (.aload_n 0, 1) := by decide +kernel
theorem dX4_init_1 : decode cX4_init 1 = .ok (.invokespecial 3, 3) := by decide +kernel
theorem dX4_init_4 : decode cX4_init 4 = .ok (.aload_n 0, 1) := by decide +kernel
theorem dX4_init_5 : decode cX4_init 5 = .ok (.bipush 8, 2) := by decide +kernel
theorem dX4_init_7 : decode cX4_init 7 = .ok (.newarray .int, 2) := by decide +kernel
theorem dX4_init_9 : decode cX4_init 9 = .ok (.putfield 9, 3) := by decide +kernel
theorem dX4_init_12 : decode cX4_init 12 = .ok (.aload_n 0, 1) := by decide +kernel
theorem dX4_init_13 : decode cX4_init 13 = .ok (.aload_n 1, 1) := by decide +kernel
theorem dX4_init_14 : decode cX4_init 14 = .ok (.putfield 15, 3) := by decide +kernel
theorem dX4_init_17 : decode cX4_init 17 = .ok (.return_, 1) := by decide +kernel
theorem dX4_keepTest_0 : decode cX4_keepTest 0 = .ok (.aload_n 0, 1) := by decide +kernel
theorem dX4_keepTest_1 : decode cX4_keepTest 1 = .ok (.getfield 31, 3) := by decide +kernel
theorem dX4_keepTest_4 : decode cX4_keepTest 4 = .ok (.aload_n 0, 1) := by decide +kernel
theorem dX4_keepTest_5 : decode cX4_keepTest 5 = .ok (.getfield 9, 3) := by decide +kernel
theorem dX4_keepTest_8 : decode cX4_keepTest 8 = .ok (.arraylength, 1) := by decide +kernel
theorem dX4_keepTest_9 : decode cX4_keepTest 9 = .ok (.if_icmp .ge 23, 3) := by decide +kernel
theorem dX4_keepTest_12 : decode cX4_keepTest 12 = .ok (.aload_n 0, 1) := by decide +kernel
theorem dX4_keepTest_13 : decode cX4_keepTest 13 = .ok (.getfield 9, 3) := by decide +kernel
theorem dX4_keepTest_16 : decode cX4_keepTest 16 = .ok (.aload_n 0, 1) := by decide +kernel
theorem dX4_keepTest_17 : decode cX4_keepTest 17 = .ok (.getfield 31, 3) := by decide +kernel
theorem dX4_keepTest_20 : decode cX4_keepTest 20 = .ok (.iload_n 1, 1) := by decide +kernel
theorem dX4_keepTest_21 : decode cX4_keepTest 21 = .ok (.iastore, 1) := by decide +kernel
theorem dX4_keepTest_22 : decode cX4_keepTest 22 = .ok (.aload_n 0, 1) := by decide +kernel
theorem dX4_keepTest_23 : decode cX4_keepTest 23 = .ok (.dup, 1) := by decide +kernel
theorem dX4_keepTest_24 : decode cX4_keepTest 24 = .ok (.getfield 31, 3) := by decide +kernel
theorem dX4_keepTest_27 : decode cX4_keepTest 27 = .ok (.iconst 1, 1) := by decide +kernel
theorem dX4_keepTest_28 : decode cX4_keepTest 28 = .ok (.iadd, 1) := by decide +kernel
theorem dX4_keepTest_29 : decode cX4_keepTest 29 = .ok (.putfield 31, 3) := by decide +kernel
theorem dX4_keepTest_32 : decode cX4_keepTest 32 = .ok (.return_, 1) := by decide +kernel
theorem dX4_rowCount_0 : decode cX4_rowCount 0 = .ok (.iconst 1, 1) := by decide +kernel
theorem dX4_rowCount_1 : decode cX4_rowCount 1 = .ok (.aload_n 0, 1) := by decide +kernel
theorem dX4_rowCount_2 : decode cX4_rowCount 2 = .ok (.getfield 15, 3) := by decide +kernel
theorem dX4_rowCount_5 : decode cX4_rowCount 5 = .ok (.getfield 19, 3) := by decide +kernel
theorem dX4_rowCount_8 : decode cX4_rowCount 8 = .ok (.invokevirtual 25, 3) := by decide +kernel
theorem dX4_rowCount_11 : decode cX4_rowCount 11 = .ok (.ishl, 1) := by decide +kernel
theorem dX4_rowCount_12 : decode cX4_rowCount 12 = .ok (.ireturn, 1) := by decide +kernel
theorem dX4_tryRow_0 : decode cX4_tryRow 0 = .ok (.iconst 0, 1) := by decide +kernel
theorem dX4_tryRow_1 : decode cX4_tryRow 1 = .ok (.istore 4, 2) := by decide +kernel
theorem dX4_tryRow_3 : decode cX4_tryRow 3 = .ok (.iload 4, 2) := by decide +kernel
theorem dX4_tryRow_5 : decode cX4_tryRow 5 = .ok (.aload_n 0, 1) := by decide +kernel
theorem dX4_tryRow_6 : decode cX4_tryRow 6 = .ok (.getfield 15, 3) := by decide +kernel
theorem dX4_tryRow_9 : decode cX4_tryRow 9 = .ok (.getfield 19, 3) := by decide +kernel
theorem dX4_tryRow_12 : decode cX4_tryRow 12 = .ok (.invokevirtual 25, 3) := by decide +kernel
theorem dX4_tryRow_15 : decode cX4_tryRow 15 = .ok (.if_icmp .ge 44, 3) := by decide +kernel
theorem dX4_tryRow_59 : decode cX4_tryRow 59 = .ok (.aload_n 0, 1) := by decide +kernel
theorem dX4_tryRow_60 : decode cX4_tryRow 60 = .ok (.getfield 15, 3) := by decide +kernel
theorem dX4_tryRow_63 : decode cX4_tryRow 63 = .ok (.aload_n 2, 1) := by decide +kernel
theorem dX4_tryRow_64 : decode cX4_tryRow 64 = .ok (.iload_n 3, 1) := by decide +kernel
theorem dX4_tryRow_65 : decode cX4_tryRow 65 = .ok (.invokevirtual 77, 3) := by decide +kernel
theorem dX4_tryRow_68 : decode cX4_tryRow 68 = .ok (.return_, 1) := by decide +kernel
theorem dX5_countToCome_0 : decode cX5_countToCome 0 = .ok (.iconst 0, 1) := by decide +kernel
theorem dX5_countToCome_1 : decode cX5_countToCome 1 = .ok (.istore_n 1, 1) := by decide +kernel
theorem dX5_countToCome_2 : decode cX5_countToCome 2 = .ok (.iconst 0, 1) := by decide +kernel
theorem dX5_countToCome_3 : decode cX5_countToCome 3 = .ok (.istore_n 2, 1) := by decide +kernel
theorem dX5_countToCome_4 : decode cX5_countToCome 4 = .ok (.iload_n 2, 1) := by decide +kernel
theorem dX5_countToCome_5 : decode cX5_countToCome 5 = .ok (.aload_n 0, 1) := by decide +kernel
theorem dX5_countToCome_6 : decode cX5_countToCome 6 = .ok (.getfield 9, 3) := by decide +kernel
theorem dX5_countToCome_9 : decode cX5_countToCome 9 = .ok (.getfield 51, 3) := by decide +kernel
theorem dX5_countToCome_12 : decode cX5_countToCome 12 = .ok (.invokevirtual 25, 3) := by decide +kernel
theorem dX5_countToCome_15 : decode cX5_countToCome 15 = .ok (.if_icmp .ge 32, 3) := by decide +kernel
theorem dX5_countToCome_47 : decode cX5_countToCome 47 = .ok (.iload_n 1, 1) := by decide +kernel
theorem dX5_countToCome_48 : decode cX5_countToCome 48 = .ok (.ireturn, 1) := by decide +kernel
theorem dX5_goOn_0 : decode cX5_goOn 0 = .ok (.iconst 0, 1) := by decide +kernel
theorem dX5_goOn_1 : decode cX5_goOn 1 = .ok (.istore_n 2, 1) := by decide +kernel
theorem dX5_goOn_2 : decode cX5_goOn 2 = .ok (.iload_n 2, 1) := by decide +kernel
theorem dX5_goOn_3 : decode cX5_goOn 3 = .ok (.iload_n 1, 1) := by decide +kernel
theorem dX5_goOn_4 : decode cX5_goOn 4 = .ok (.if_icmp .ge 23, 3) := by decide +kernel
theorem dX5_goOn_7 : decode cX5_goOn 7 = .ok (.aload_n 0, 1) := by decide +kernel
theorem dX5_goOn_8 : decode cX5_goOn 8 = .ok (.dup, 1) := by decide +kernel
theorem dX5_goOn_9 : decode cX5_goOn 9 = .ok (.getfield 15, 3) := by decide +kernel
theorem dX5_goOn_12 : decode cX5_goOn 12 = .ok (.iconst 1, 1) := by decide +kernel
theorem dX5_goOn_13 : decode cX5_goOn 13 = .ok (.iadd, 1) := by decide +kernel
theorem dX5_goOn_14 : decode cX5_goOn 14 = .ok (.putfield 15, 3) := by decide +kernel
theorem dX5_goOn_17 : decode cX5_goOn 17 = .ok (.aload_n 0, 1) := by decide +kernel
theorem dX5_goOn_18 : decode cX5_goOn 18 = .ok (.invokevirtual 61, 3) := by decide +kernel
theorem dX5_goOn_21 : decode cX5_goOn 21 = .ok (.iinc 2 1, 3) := by decide +kernel
theorem dX5_goOn_24 : decode cX5_goOn 24 = .ok (.goto (-22), 3) := by decide +kernel
theorem dX5_goOn_27 : decode cX5_goOn 27 = .ok (.return_, 1) := by decide +kernel
theorem dX5_init_0 : decode cX5_init 0 = .ok (.aload_n 0, 1) := by decide +kernel
theorem dX5_init_1 : decode cX5_init 1 = .ok (.invokespecial 3, 3) := by decide +kernel
theorem dX5_init_4 : decode cX5_init 4 = .ok (.aload_n 0, 1) := by decide +kernel
theorem dX5_init_5 : decode cX5_init 5 = .ok (.aload_n 1, 1) := by decide +kernel
theorem dX5_init_6 : decode cX5_init 6 = .ok (.putfield 9, 3) := by decide +kernel
theorem dX5_init_9 : decode cX5_init 9 = .ok (.return_, 1) := by decide +kernel
theorem dX5_isAnyDue_0 : decode cX5_isAnyDue 0 = .ok (.iconst 0, 1) := by decide +kernel
theorem dX5_isAnyDue_1 : decode cX5_isAnyDue 1 = .ok (.istore_n 1, 1) := by decide +kernel
theorem dX5_isAnyDue_2 : decode cX5_isAnyDue 2 = .ok (.iload_n 1, 1) := by decide +kernel
theorem dX5_isAnyDue_3 : decode cX5_isAnyDue 3 = .ok (.aload_n 0, 1) := by decide +kernel
theorem dX5_isAnyDue_4 : decode cX5_isAnyDue 4 = .ok (.getfield 9, 3) := by decide +kernel
theorem dX5_isAnyDue_7 : decode cX5_isAnyDue 7 = .ok (.getfield 51, 3) := by decide +kernel
theorem dX5_isAnyDue_10 : decode cX5_isAnyDue 10 = .ok (.invokevirtual 25, 3) := by decide +kernel
theorem dX5_isAnyDue_13 : decode cX5_isAnyDue 13 = .ok (.if_icmp .ge 35, 3) := by decide +kernel
theorem dX5_isAnyDue_48 : decode cX5_isAnyDue 48 = .ok (.iconst 0, 1) := by decide +kernel
theorem dX5_isAnyDue_49 : decode cX5_isAnyDue 49 = .ok (.ireturn, 1) := by decide +kernel
theorem dX5_lookAtReaders_0 : decode cX5_lookAtReaders 0 = .ok (.iconst 0, 1) := by decide +kernel
theorem dX5_lookAtReaders_1 : decode cX5_lookAtReaders 1 = .ok (.istore_n 1, 1) := by decide +kernel
theorem dX5_lookAtReaders_2 : decode cX5_lookAtReaders 2 = .ok (.iload_n 1, 1) := by decide +kernel
theorem dX5_lookAtReaders_3 : decode cX5_lookAtReaders 3 = .ok (.aload_n 0, 1) := by decide +kernel
theorem dX5_lookAtReaders_4 : decode cX5_lookAtReaders 4 = .ok (.getfield 9, 3) := by decide +kernel
theorem dX5_lookAtReaders_7 : decode cX5_lookAtReaders 7 = .ok (.getfield 51, 3) := by decide +kernel
theorem dX5_lookAtReaders_10 : decode cX5_lookAtReaders 10 = .ok (.invokevirtual 25, 3) := by decide +kernel
theorem dX5_lookAtReaders_13 : decode cX5_lookAtReaders 13 = .ok (.if_icmp .ge 52, 3) := by decide +kernel
theorem dX5_lookAtReaders_65 : decode cX5_lookAtReaders 65 = .ok (.iconst 0, 1) := by decide +kernel
theorem dX5_lookAtReaders_66 : decode cX5_lookAtReaders 66 = .ok (.istore_n 1, 1) := by decide +kernel
theorem dX5_lookAtReaders_67 : decode cX5_lookAtReaders 67 = .ok (.iload_n 1, 1) := by decide +kernel
theorem dX5_lookAtReaders_68 : decode cX5_lookAtReaders 68 = .ok (.aload_n 0, 1) := by decide +kernel
theorem dX5_lookAtReaders_69 : decode cX5_lookAtReaders 69 = .ok (.getfield 9, 3) := by decide +kernel
theorem dX5_lookAtReaders_72 : decode cX5_lookAtReaders 72 = .ok (.getfield 45, 3) := by decide +kernel
theorem dX5_lookAtReaders_75 : decode cX5_lookAtReaders 75 = .ok (.invokevirtual 25, 3) := by decide +kernel
theorem dX5_lookAtReaders_78 : decode cX5_lookAtReaders 78 = .ok (.if_icmp .ge 27, 3) := by decide +kernel
theorem dX5_lookAtReaders_105 : decode cX5_lookAtReaders 105 = .ok (.return_, 1) := by decide +kernel
theorem dX5_restart_0 : decode cX5_restart 0 = .ok (.aload_n 0, 1) := by decide +kernel
theorem dX5_restart_1 : decode cX5_restart 1 = .ok (.iconst 0, 1) := by decide +kernel
theorem dX5_restart_2 : decode cX5_restart 2 = .ok (.putfield 15, 3) := by decide +kernel
theorem dX5_restart_5 : decode cX5_restart 5 = .ok (.iconst 0, 1) := by decide +kernel
theorem dX5_restart_6 : decode cX5_restart 6 = .ok (.istore_n 1, 1) := by decide +kernel
theorem dX5_restart_7 : decode cX5_restart 7 = .ok (.iload_n 1, 1) := by decide +kernel
theorem dX5_restart_8 : decode cX5_restart 8 = .ok (.aload_n 0, 1) := by decide +kernel
theorem dX5_restart_9 : decode cX5_restart 9 = .ok (.getfield 9, 3) := by decide +kernel
theorem dX5_restart_12 : decode cX5_restart 12 = .ok (.getfield 19, 3) := by decide +kernel
theorem dX5_restart_15 : decode cX5_restart 15 = .ok (.invokevirtual 25, 3) := by decide +kernel
theorem dX5_restart_18 : decode cX5_restart 18 = .ok (.if_icmp .ge 28, 3) := by decide +kernel
theorem dX5_restart_21 : decode cX5_restart 21 = .ok (.aload_n 0, 1) := by decide +kernel
theorem dX5_restart_22 : decode cX5_restart 22 = .ok (.getfield 9, 3) := by decide +kernel
theorem dX5_restart_25 : decode cX5_restart 25 = .ok (.getfield 19, 3) := by decide +kernel
theorem dX5_restart_28 : decode cX5_restart 28 = .ok (.iload_n 1, 1) := by decide +kernel
theorem dX5_restart_29 : decode cX5_restart 29 = .ok (.invokevirtual 31, 3) := by decide +kernel
theorem dX5_restart_32 : decode cX5_restart 32 = .ok (.checkcast 35, 3) := by decide +kernel
theorem dX5_restart_35 : decode cX5_restart 35 = .ok (.bipush 120, 2) := by decide +kernel
theorem dX5_restart_37 : decode cX5_restart 37 = .ok (.putfield 37, 3) := by decide +kernel
theorem dX5_restart_40 : decode cX5_restart 40 = .ok (.iinc 1 1, 3) := by decide +kernel
theorem dX5_restart_43 : decode cX5_restart 43 = .ok (.goto (-36), 3) := by decide +kernel
theorem dX5_restart_46 : decode cX5_restart 46 = .ok (.aload_n 0, 1) := by decide +kernel
theorem dX5_restart_47 : decode cX5_restart 47 = .ok (.getfield 9, 3) := by decide +kernel
theorem dX5_restart_50 : decode cX5_restart 50 = .ok (.aconst_null, 1) := by decide +kernel
theorem dX5_restart_51 : decode cX5_restart 51 = .ok (.bipush 120, 2) := by decide +kernel
theorem dX5_restart_53 : decode cX5_restart 53 = .ok (.invokevirtual 41, 3) := by decide +kernel
theorem dX5_restart_56 : decode cX5_restart 56 = .ok (.iconst 0, 1) := by decide +kernel
theorem dX5_restart_57 : decode cX5_restart 57 = .ok (.istore_n 1, 1) := by decide +kernel
theorem dX5_restart_58 : decode cX5_restart 58 = .ok (.iload_n 1, 1) := by decide +kernel
theorem dX5_restart_59 : decode cX5_restart 59 = .ok (.aload_n 0, 1) := by decide +kernel
theorem dX5_restart_60 : decode cX5_restart 60 = .ok (.getfield 9, 3) := by decide +kernel
theorem dX5_restart_63 : decode cX5_restart 63 = .ok (.getfield 45, 3) := by decide +kernel
theorem dX5_restart_66 : decode cX5_restart 66 = .ok (.invokevirtual 25, 3) := by decide +kernel
theorem dX5_restart_69 : decode cX5_restart 69 = .ok (.if_icmp .ge 26, 3) := by decide +kernel
theorem dX5_restart_72 : decode cX5_restart 72 = .ok (.aload_n 0, 1) := by decide +kernel
theorem dX5_restart_73 : decode cX5_restart 73 = .ok (.getfield 9, 3) := by decide +kernel
theorem dX5_restart_76 : decode cX5_restart 76 = .ok (.getfield 45, 3) := by decide +kernel
theorem dX5_restart_79 : decode cX5_restart 79 = .ok (.iload_n 1, 1) := by decide +kernel
theorem dX5_restart_80 : decode cX5_restart 80 = .ok (.invokevirtual 31, 3) := by decide +kernel
theorem dX5_restart_83 : decode cX5_restart 83 = .ok (.checkcast 35, 3) := by decide +kernel
theorem dX5_restart_86 : decode cX5_restart 86 = .ok (.invokevirtual 48, 3) := by decide +kernel
theorem dX5_restart_89 : decode cX5_restart 89 = .ok (.iinc 1 1, 3) := by decide +kernel
theorem dX5_restart_92 : decode cX5_restart 92 = .ok (.goto (-34), 3) := by decide +kernel
theorem dX5_restart_95 : decode cX5_restart 95 = .ok (.iconst 0, 1) := by decide +kernel
theorem dX5_restart_96 : decode cX5_restart 96 = .ok (.istore_n 1, 1) := by decide +kernel
theorem dX5_restart_97 : decode cX5_restart 97 = .ok (.iload_n 1, 1) := by decide +kernel
theorem dX5_restart_98 : decode cX5_restart 98 = .ok (.aload_n 0, 1) := by decide +kernel
theorem dX5_restart_99 : decode cX5_restart 99 = .ok (.getfield 9, 3) := by decide +kernel
theorem dX5_restart_102 : decode cX5_restart 102 = .ok (.getfield 51, 3) := by decide +kernel
theorem dX5_restart_105 : decode cX5_restart 105 = .ok (.invokevirtual 25, 3) := by decide +kernel
theorem dX5_restart_108 : decode cX5_restart 108 = .ok (.if_icmp .ge 26, 3) := by decide +kernel
theorem dX5_restart_134 : decode cX5_restart 134 = .ok (.return_, 1) := by decide +kernel
theorem dX5_spread_0 : decode cX5_spread 0 = .ok (.aload_n 0, 1) := by decide +kernel
theorem dX5_spread_1 : decode cX5_spread 1 = .ok (.invokevirtual 87, 3) := by decide +kernel
theorem dX5_spread_4 : decode cX5_spread 4 = .ok (.iconst 0, 1) := by decide +kernel
theorem dX5_spread_5 : decode cX5_spread 5 = .ok (.istore_n 1, 1) := by decide +kernel
theorem dX5_spread_6 : decode cX5_spread 6 = .ok (.iload_n 1, 1) := by decide +kernel
theorem dX5_spread_7 : decode cX5_spread 7 = .ok (.ldc 90, 2) := by decide +kernel
theorem dX5_spread_9 : decode cX5_spread 9 = .ok (.if_icmp .ge 24, 3) := by decide +kernel
theorem dX5_spread_12 : decode cX5_spread 12 = .ok (.aload_n 0, 1) := by decide +kernel
theorem dX5_spread_13 : decode cX5_spread 13 = .ok (.invokevirtual 91, 3) := by decide +kernel
theorem dX5_spread_16 : decode cX5_spread 16 = .ok (.ifCond .eq 17, 3) := by decide +kernel
theorem dX5_spread_33 : decode cX5_spread 33 = .ok (.return_, 1) := by decide +kernel
theorem dX5_takeAll_0 : decode cX5_takeAll 0 = .ok (.iconst 0, 1) := by decide +kernel
theorem dX5_takeAll_1 : decode cX5_takeAll 1 = .ok (.istore_n 1, 1) := by decide +kernel
theorem dX5_takeAll_2 : decode cX5_takeAll 2 = .ok (.iload_n 1, 1) := by decide +kernel
theorem dX5_takeAll_3 : decode cX5_takeAll 3 = .ok (.aload_n 0, 1) := by decide +kernel
theorem dX5_takeAll_4 : decode cX5_takeAll 4 = .ok (.getfield 9, 3) := by decide +kernel
theorem dX5_takeAll_7 : decode cX5_takeAll 7 = .ok (.getfield 19, 3) := by decide +kernel
theorem dX5_takeAll_10 : decode cX5_takeAll 10 = .ok (.invokevirtual 25, 3) := by decide +kernel
theorem dX5_takeAll_13 : decode cX5_takeAll 13 = .ok (.if_icmp .ge 59, 3) := by decide +kernel
theorem dX5_takeAll_72 : decode cX5_takeAll 72 = .ok (.iconst 0, 1) := by decide +kernel
theorem dX5_takeAll_73 : decode cX5_takeAll 73 = .ok (.istore_n 1, 1) := by decide +kernel
theorem dX5_takeAll_74 : decode cX5_takeAll 74 = .ok (.iconst 0, 1) := by decide +kernel
theorem dX5_takeAll_75 : decode cX5_takeAll 75 = .ok (.istore_n 2, 1) := by decide +kernel
theorem dX5_takeAll_76 : decode cX5_takeAll 76 = .ok (.iload_n 2, 1) := by decide +kernel
theorem dX5_takeAll_77 : decode cX5_takeAll 77 = .ok (.aload_n 0, 1) := by decide +kernel
theorem dX5_takeAll_78 : decode cX5_takeAll 78 = .ok (.getfield 9, 3) := by decide +kernel
theorem dX5_takeAll_81 : decode cX5_takeAll 81 = .ok (.getfield 19, 3) := by decide +kernel
theorem dX5_takeAll_84 : decode cX5_takeAll 84 = .ok (.invokevirtual 25, 3) := by decide +kernel
theorem dX5_takeAll_87 : decode cX5_takeAll 87 = .ok (.if_icmp .ge 46, 3) := by decide +kernel
theorem dX5_takeAll_133 : decode cX5_takeAll 133 = .ok (.aload_n 0, 1) := by decide +kernel
theorem dX5_takeAll_134 : decode cX5_takeAll 134 = .ok (.invokevirtual 61, 3) := by decide +kernel
theorem dX5_takeAll_137 : decode cX5_takeAll 137 = .ok (.iload_n 1, 1) := by decide +kernel
theorem dX5_takeAll_138 : decode cX5_takeAll 138 = .ok (.ireturn, 1) := by decide +kernel
theorem dX6_activity_0 : decode cX6_activity 0 = .ok (.lconst 0, 1) := by decide +kernel
theorem dX6_activity_1 : decode cX6_activity 1 = .ok (.lstore_n 1, 1) := by decide +kernel
theorem dX6_activity_2 : decode cX6_activity 2 = .ok (.iconst 0, 1) := by decide +kernel
theorem dX6_activity_3 : decode cX6_activity 3 = .ok (.istore_n 3, 1) := by decide +kernel
theorem dX6_activity_4 : decode cX6_activity 4 = .ok (.iload_n 3, 1) := by decide +kernel
theorem dX6_activity_5 : decode cX6_activity 5 = .ok (.aload_n 0, 1) := by decide +kernel
theorem dX6_activity_6 : decode cX6_activity 6 = .ok (.getfield 10, 3) := by decide +kernel
theorem dX6_activity_9 : decode cX6_activity 9 = .ok (.getfield 219, 3) := by decide +kernel
theorem dX6_activity_12 : decode cX6_activity 12 = .ok (.invokevirtual 110, 3) := by decide +kernel
theorem dX6_activity_15 : decode cX6_activity 15 = .ok (.if_icmp .ge 43, 3) := by decide +kernel
theorem dX6_activity_58 : decode cX6_activity 58 = .ok (.lload_n 1, 1) := by decide +kernel
theorem dX6_activity_59 : decode cX6_activity 59 = .ok (.lreturn, 1) := by decide +kernel
theorem dX6_addBus_0 : decode cX6_addBus 0 = .ok (.aload_n 0, 1) := by decide +kernel
theorem dX6_addBus_1 : decode cX6_addBus 1 = .ok (.invokevirtual 35, 3) := by decide +kernel
theorem dX6_addBus_4 : decode cX6_addBus 4 = .ok (.aload_n 0, 1) := by decide +kernel
theorem dX6_addBus_5 : decode cX6_addBus 5 = .ok (.getfield 10, 3) := by decide +kernel
theorem dX6_addBus_8 : decode cX6_addBus 8 = .ok (.getstatic 88, 3) := by decide +kernel
theorem dX6_addBus_11 : decode cX6_addBus 11 = .ok (.invokevirtual 44, 3) := by decide +kernel
theorem dX6_addBus_14 : decode cX6_addBus 14 = .ok (.astore_n 1, 1) := by decide +kernel
theorem dX6_addBus_15 : decode cX6_addBus 15 = .ok (.aload_n 0, 1) := by decide +kernel
theorem dX6_addBus_16 : decode cX6_addBus 16 = .ok (.invokevirtual 48, 3) := by decide +kernel
theorem dX6_addBus_19 : decode cX6_addBus 19 = .ok (.aload_n 1, 1) := by decide +kernel
theorem dX6_addBus_20 : decode cX6_addBus 20 = .ok (.getfield 51, 3) := by decide +kernel
theorem dX6_addBus_23 : decode cX6_addBus 23 = .ok (.ireturn, 1) := by decide +kernel
theorem dX6_addGate_0 : decode cX6_addGate 0 = .ok (.iload_n 1, 1) := by decide +kernel
theorem dX6_addGate_1 : decode cX6_addGate 1 = .ok (.invokestatic 57, 3) := by decide +kernel
theorem dX6_addGate_4 : decode cX6_addGate 4 = .ok (.ifCond .eq 11, 3) := by decide +kernel
theorem dX6_addGate_7 : decode cX6_addGate 7 = .ok (.iload 4, 2) := by decide +kernel
theorem dX6_addGate_9 : decode cX6_addGate 9 = .ok (.invokestatic 61, 3) := by decide +kernel
theorem dX6_addGate_12 : decode cX6_addGate 12 = .ok (.ifCond .ne 13, 3) := by decide +kernel
theorem dX6_addGate_15 : decode cX6_addGate 15 = .ok (.new 65, 3) := by decide +kernel
theorem dX6_addGate_18 : decode cX6_addGate 18 = .ok (.dup, 1) := by decide +kernel
theorem dX6_addGate_19 : decode cX6_addGate 19 = .ok (.ldc 67, 2) := by decide +kernel
theorem dX6_addGate_21 : decode cX6_addGate 21 = .ok (.invokespecial 69, 3) := by decide +kernel
theorem dX6_addGate_24 : decode cX6_addGate 24 = .ok (.athrow, 1) := by decide +kernel
theorem dX6_addGate_25 : decode cX6_addGate 25 = .ok (.aload_n 0, 1) := by decide +kernel
theorem dX6_addGate_26 : decode cX6_addGate 26 = .ok (.iload_n 2, 1) := by decide +kernel
theorem dX6_addGate_27 : decode cX6_addGate 27 = .ok (.invokevirtual 72, 3) := by decide +kernel
theorem dX6_addInput_0 : decode cX6_addInput 0 = .ok (.aload_n 0, 1) := by decide +kernel
theorem dX6_addInput_1 : decode cX6_addInput 1 = .ok (.invokevirtual 32, 3) := by decide +kernel
theorem dX6_addInput_4 : decode cX6_addInput 4 = .ok (.aload_n 0, 1) := by decide +kernel
theorem dX6_addInput_5 : decode cX6_addInput 5 = .ok (.invokevirtual 35, 3) := by decide +kernel
theorem dX6_addInput_8 : decode cX6_addInput 8 = .ok (.aload_n 0, 1) := by decide +kernel
theorem dX6_addInput_9 : decode cX6_addInput 9 = .ok (.getfield 10, 3) := by decide +kernel
theorem dX6_addInput_12 : decode cX6_addInput 12 = .ok (.getstatic 38, 3) := by decide +kernel
theorem dX6_addInput_15 : decode cX6_addInput 15 = .ok (.invokevirtual 44, 3) := by decide +kernel
theorem dX6_addInput_18 : decode cX6_addInput 18 = .ok (.astore_n 1, 1) := by decide +kernel
theorem dX6_addInput_19 : decode cX6_addInput 19 = .ok (.aload_n 0, 1) := by decide +kernel
theorem dX6_addInput_20 : decode cX6_addInput 20 = .ok (.invokevirtual 48, 3) := by decide +kernel
theorem dX6_addInput_23 : decode cX6_addInput 23 = .ok (.aload_n 1, 1) := by decide +kernel
theorem dX6_addInput_24 : decode cX6_addInput 24 = .ok (.getfield 51, 3) := by decide +kernel
theorem dX6_addInput_27 : decode cX6_addInput 27 = .ok (.ireturn, 1) := by decide +kernel
theorem dX6_addOpen_0 : decode cX6_addOpen 0 = .ok (.iload 4, 2) := by decide +kernel
theorem dX6_addOpen_2 : decode cX6_addOpen 2 = .ok (.invokestatic 61, 3) := by decide +kernel
theorem dX6_addOpen_5 : decode cX6_addOpen 5 = .ok (.ifCond .ne 13, 3) := by decide +kernel
theorem dX6_addOpen_8 : decode cX6_addOpen 8 = .ok (.new 65, 3) := by decide +kernel
theorem dX6_addOpen_11 : decode cX6_addOpen 11 = .ok (.dup, 1) := by decide +kernel
theorem dX6_addOpen_12 : decode cX6_addOpen 12 = .ok (.ldc 91, 2) := by decide +kernel
theorem dX6_addOpen_14 : decode cX6_addOpen 14 = .ok (.invokespecial 69, 3) := by decide +kernel
theorem dX6_addOpen_17 : decode cX6_addOpen 17 = .ok (.athrow, 1) := by decide +kernel
theorem dX6_addOpen_18 : decode cX6_addOpen 18 = .ok (.aload_n 0, 1) := by decide +kernel
theorem dX6_addOpen_19 : decode cX6_addOpen 19 = .ok (.iload_n 1, 1) := by decide +kernel
theorem dX6_addOpen_20 : decode cX6_addOpen 20 = .ok (.getstatic 88, 3) := by decide +kernel
theorem dX6_addOpen_23 : decode cX6_addOpen 23 = .ok (.invokevirtual 93, 3) := by decide +kernel
theorem dX6_addRegister_0 : decode cX6_addRegister 0 = .ok (.aload_n 0, 1) := by decide +kernel
theorem dX6_addRegister_1 : decode cX6_addRegister 1 = .ok (.invokevirtual 32, 3) := by decide +kernel
theorem dX6_addRegister_4 : decode cX6_addRegister 4 = .ok (.aload_n 0, 1) := by decide +kernel
theorem dX6_addRegister_5 : decode cX6_addRegister 5 = .ok (.invokevirtual 35, 3) := by decide +kernel
theorem dX6_addRegister_8 : decode cX6_addRegister 8 = .ok (.aload_n 0, 1) := by decide +kernel
theorem dX6_addRegister_9 : decode cX6_addRegister 9 = .ok (.getfield 10, 3) := by decide +kernel
theorem dX6_addRegister_12 : decode cX6_addRegister 12 = .ok (.getstatic 121, 3) := by decide +kernel
theorem dX6_addRegister_15 : decode cX6_addRegister 15 = .ok (.invokevirtual 44, 3) := by decide +kernel
theorem dX6_addRegister_18 : decode cX6_addRegister 18 = .ok (.astore_n 1, 1) := by decide +kernel
theorem dX6_addRegister_19 : decode cX6_addRegister 19 = .ok (.aload_n 0, 1) := by decide +kernel
theorem dX6_addRegister_20 : decode cX6_addRegister 20 = .ok (.invokevirtual 48, 3) := by decide +kernel
theorem dX6_addRegister_23 : decode cX6_addRegister 23 = .ok (.aload_n 1, 1) := by decide +kernel
theorem dX6_addRegister_24 : decode cX6_addRegister 24 = .ok (.getfield 51, 3) := by decide +kernel
theorem dX6_addRegister_27 : decode cX6_addRegister 27 = .ok (.ireturn, 1) := by decide +kernel
theorem dX6_addTest_0 : decode cX6_addTest 0 = .ok (.aload_n 0, 1) := by decide +kernel
theorem dX6_addTest_1 : decode cX6_addTest 1 = .ok (.iload_n 1, 1) := by decide +kernel
theorem dX6_addTest_2 : decode cX6_addTest 2 = .ok (.invokevirtual 198, 3) := by decide +kernel
theorem dX6_addTest_5 : decode cX6_addTest 5 = .ok (.aload_n 0, 1) := by decide +kernel
theorem dX6_addTest_6 : decode cX6_addTest 6 = .ok (.getfield 28, 3) := by decide +kernel
theorem dX6_addTest_9 : decode cX6_addTest 9 = .ok (.getfield 211, 3) := by decide +kernel
theorem dX6_addTest_12 : decode cX6_addTest 12 = .ok (.bipush 8, 2) := by decide +kernel
theorem dX6_addTest_14 : decode cX6_addTest 14 = .ok (.if_icmp .lt 13, 3) := by decide +kernel
theorem dX6_addTest_27 : decode cX6_addTest 27 = .ok (.aload_n 0, 1) := by decide +kernel
theorem dX6_addTest_28 : decode cX6_addTest 28 = .ok (.getfield 28, 3) := by decide +kernel
theorem dX6_addTest_31 : decode cX6_addTest 31 = .ok (.iload_n 1, 1) := by decide +kernel
theorem dX6_addTest_32 : decode cX6_addTest 32 = .ok (.invokevirtual 216, 3) := by decide +kernel
theorem dX6_addTest_35 : decode cX6_addTest 35 = .ok (.aload_n 0, 1) := by decide +kernel
theorem dX6_addTest_36 : decode cX6_addTest 36 = .ok (.getfield 28, 3) := by decide +kernel
theorem dX6_addTest_39 : decode cX6_addTest 39 = .ok (.getfield 211, 3) := by decide +kernel
theorem dX6_addTest_42 : decode cX6_addTest 42 = .ok (.ireturn, 1) := by decide +kernel
theorem dX6_arrival_0 : decode cX6_arrival 0 = .ok (.aload_n 0, 1) := by decide +kernel
theorem dX6_arrival_1 : decode cX6_arrival 1 = .ok (.iload_n 1, 1) := by decide +kernel
theorem dX6_arrival_2 : decode cX6_arrival 2 = .ok (.invokevirtual 72, 3) := by decide +kernel
theorem dX6_changes_0 : decode cX6_changes 0 = .ok (.aload_n 0, 1) := by decide +kernel
theorem dX6_changes_1 : decode cX6_changes 1 = .ok (.iload_n 1, 1) := by decide +kernel
theorem dX6_changes_2 : decode cX6_changes 2 = .ok (.invokevirtual 72, 3) := by decide +kernel
theorem dX6_connect_0 : decode cX6_connect 0 = .ok (.aload_n 0, 1) := by decide +kernel
theorem dX6_connect_1 : decode cX6_connect 1 = .ok (.iload_n 1, 1) := by decide +kernel
theorem dX6_connect_2 : decode cX6_connect 2 = .ok (.getstatic 121, 3) := by decide +kernel
theorem dX6_connect_5 : decode cX6_connect 5 = .ok (.invokevirtual 93, 3) := by decide +kernel
theorem dX6_differs_0 : decode cX6_differs 0 = .ok (.aload_n 0, 1) := by decide +kernel
theorem dX6_differs_1 : decode cX6_differs 1 = .ok (.iload_n 1, 1) := by decide +kernel
theorem dX6_differs_2 : decode cX6_differs 2 = .ok (.invokevirtual 72, 3) := by decide +kernel
theorem dX6_findTest_0 : decode cX6_findTest 0 = .ok (.aload_n 0, 1) := by decide +kernel
theorem dX6_findTest_1 : decode cX6_findTest 1 = .ok (.iload_n 1, 1) := by decide +kernel
theorem dX6_findTest_2 : decode cX6_findTest 2 = .ok (.invokevirtual 72, 3) := by decide +kernel
theorem dX6_init_0 : decode cX6_init 0 = .ok (.aload_n 0, 1) := by decide +kernel
theorem dX6_init_1 : decode cX6_init 1 = .ok (.invokespecial 1, 3) := by decide +kernel
theorem dX6_init_4 : decode cX6_init 4 = .ok (.aload_n 0, 1) := by decide +kernel
theorem dX6_init_5 : decode cX6_init 5 = .ok (.new 7, 3) := by decide +kernel
theorem dX6_init_8 : decode cX6_init 8 = .ok (.dup, 1) := by decide +kernel
theorem dX6_init_9 : decode cX6_init 9 = .ok (.invokespecial 9, 3) := by decide +kernel
theorem dX6_init_12 : decode cX6_init 12 = .ok (.putfield 10, 3) := by decide +kernel
theorem dX6_init_15 : decode cX6_init 15 = .ok (.aload_n 0, 1) := by decide +kernel
theorem dX6_init_16 : decode cX6_init 16 = .ok (.new 16, 3) := by decide +kernel
theorem dX6_init_19 : decode cX6_init 19 = .ok (.dup, 1) := by decide +kernel
theorem dX6_init_20 : decode cX6_init 20 = .ok (.aload_n 0, 1) := by decide +kernel
theorem dX6_init_21 : decode cX6_init 21 = .ok (.getfield 10, 3) := by decide +kernel
theorem dX6_init_24 : decode cX6_init 24 = .ok (.invokespecial 18, 3) := by decide +kernel
theorem dX6_init_27 : decode cX6_init 27 = .ok (.putfield 21, 3) := by decide +kernel
theorem dX6_init_30 : decode cX6_init 30 = .ok (.aload_n 0, 1) := by decide +kernel
theorem dX6_init_31 : decode cX6_init 31 = .ok (.new 25, 3) := by decide +kernel
theorem dX6_init_34 : decode cX6_init 34 = .ok (.dup, 1) := by decide +kernel
theorem dX6_init_35 : decode cX6_init 35 = .ok (.aload_n 0, 1) := by decide +kernel
theorem dX6_init_36 : decode cX6_init 36 = .ok (.getfield 10, 3) := by decide +kernel
theorem dX6_init_39 : decode cX6_init 39 = .ok (.invokespecial 27, 3) := by decide +kernel
theorem dX6_init_42 : decode cX6_init 42 = .ok (.putfield 28, 3) := by decide +kernel
theorem dX6_init_45 : decode cX6_init 45 = .ok (.return_, 1) := by decide +kernel
theorem dX6_isDelay_0 : decode cX6_isDelay 0 = .ok (.iload_n 0, 1) := by decide +kernel
theorem dX6_isDelay_1 : decode cX6_isDelay 1 = .ok (.ifCond .lt 13, 3) := by decide +kernel
theorem dX6_isDelay_4 : decode cX6_isDelay 4 = .ok (.iload_n 0, 1) := by decide +kernel
theorem dX6_isDelay_5 : decode cX6_isDelay 5 = .ok (.bipush 9, 2) := by decide +kernel
theorem dX6_isDelay_7 : decode cX6_isDelay 7 = .ok (.if_icmp .gt 7, 3) := by decide +kernel
theorem dX6_isDelay_10 : decode cX6_isDelay 10 = .ok (.iconst 1, 1) := by decide +kernel
theorem dX6_isDelay_11 : decode cX6_isDelay 11 = .ok (.goto 4, 3) := by decide +kernel
theorem dX6_isDelay_14 : decode cX6_isDelay 14 = .ok (.iconst 0, 1) := by decide +kernel
theorem dX6_isDelay_15 : decode cX6_isDelay 15 = .ok (.ireturn, 1) := by decide +kernel
theorem dX6_isGateKind_0 : decode cX6_isGateKind 0 = .ok (.iload_n 0, 1) := by decide +kernel
theorem dX6_isGateKind_1 : decode cX6_isGateKind 1 = .ok (.bipush 126, 2) := by decide +kernel
theorem dX6_isGateKind_3 : decode cX6_isGateKind 3 = .ok (.if_icmp .eq 27, 3) := by decide +kernel
theorem dX6_isGateKind_6 : decode cX6_isGateKind 6 = .ok (.iload_n 0, 1) := by decide +kernel
theorem dX6_isGateKind_7 : decode cX6_isGateKind 7 = .ok (.bipush 61, 2) := by decide +kernel
theorem dX6_isGateKind_9 : decode cX6_isGateKind 9 = .ok (.if_icmp .eq 21, 3) := by decide +kernel
theorem dX6_isGateKind_12 : decode cX6_isGateKind 12 = .ok (.iload_n 0, 1) := by decide +kernel
theorem dX6_isGateKind_13 : decode cX6_isGateKind 13 = .ok (.bipush 38, 2) := by decide +kernel
theorem dX6_isGateKind_15 : decode cX6_isGateKind 15 = .ok (.if_icmp .eq 15, 3) := by decide +kernel
theorem dX6_isGateKind_18 : decode cX6_isGateKind 18 = .ok (.iload_n 0, 1) := by decide +kernel
theorem dX6_isGateKind_19 : decode cX6_isGateKind 19 = .ok (.bipush 124, 2) := by decide +kernel
theorem dX6_isGateKind_21 : decode cX6_isGateKind 21 = .ok (.if_icmp .eq 9, 3) := by decide +kernel
theorem dX6_isGateKind_24 : decode cX6_isGateKind 24 = .ok (.iload_n 0, 1) := by decide +kernel
theorem dX6_isGateKind_25 : decode cX6_isGateKind 25 = .ok (.bipush 94, 2) := by decide +kernel
theorem dX6_isGateKind_27 : decode cX6_isGateKind 27 = .ok (.if_icmp .ne 7, 3) := by decide +kernel
theorem dX6_isGateKind_30 : decode cX6_isGateKind 30 = .ok (.iconst 1, 1) := by decide +kernel
theorem dX6_isGateKind_31 : decode cX6_isGateKind 31 = .ok (.goto 4, 3) := by decide +kernel
theorem dX6_isGateKind_34 : decode cX6_isGateKind 34 = .ok (.iconst 0, 1) := by decide +kernel
theorem dX6_isGateKind_35 : decode cX6_isGateKind 35 = .ok (.ireturn, 1) := by decide +kernel
theorem dX6_isSound_0 : decode cX6_isSound 0 = .ok (.aload_n 0, 1) := by decide +kernel
theorem dX6_isSound_1 : decode cX6_isSound 1 = .ok (.getfield 21, 3) := by decide +kernel
theorem dX6_isSound_4 : decode cX6_isSound 4 = .ok (.invokevirtual 174, 3) := by decide +kernel
theorem dX6_isSound_7 : decode cX6_isSound 7 = .ok (.ifCond .ne 7, 3) := by decide +kernel
theorem dX6_isSound_10 : decode cX6_isSound 10 = .ok (.iconst 1, 1) := by decide +kernel
theorem dX6_isSound_11 : decode cX6_isSound 11 = .ok (.goto 4, 3) := by decide +kernel
theorem dX6_isSound_15 : decode cX6_isSound 15 = .ok (.istore_n 1, 1) := by decide +kernel
theorem dX6_isSound_16 : decode cX6_isSound 16 = .ok (.iload_n 1, 1) := by decide +kernel
theorem dX6_isSound_17 : decode cX6_isSound 17 = .ok (.ifCond .eq 15, 3) := by decide +kernel
theorem dX6_isSound_20 : decode cX6_isSound 20 = .ok (.aload_n 0, 1) := by decide +kernel
theorem dX6_isSound_21 : decode cX6_isSound 21 = .ok (.getfield 10, 3) := by decide +kernel
theorem dX6_isSound_24 : decode cX6_isSound 24 = .ok (.invokevirtual 236, 3) := by decide +kernel
theorem dX6_isSound_27 : decode cX6_isSound 27 = .ok (.ifCond .ne 5, 3) := by decide +kernel
theorem dX6_isSound_32 : decode cX6_isSound 32 = .ok (.aload_n 0, 1) := by decide +kernel
theorem dX6_isSound_33 : decode cX6_isSound 33 = .ok (.getfield 28, 3) := by decide +kernel
theorem dX6_isSound_36 : decode cX6_isSound 36 = .ok (.invokevirtual 240, 3) := by decide +kernel
theorem dX6_isSound_39 : decode cX6_isSound 39 = .ok (.ireturn, 1) := by decide +kernel
theorem dX6_knownShare_0 : decode cX6_knownShare 0 = .ok (.aload_n 0, 1) := by decide +kernel
theorem dX6_knownShare_1 : decode cX6_knownShare 1 = .ok (.invokevirtual 233, 3) := by decide +kernel
theorem dX6_lastChange_0 : decode cX6_lastChange 0 = .ok (.aload_n 0, 1) := by decide +kernel
theorem dX6_lastChange_1 : decode cX6_lastChange 1 = .ok (.iload_n 1, 1) := by decide +kernel
theorem dX6_lastChange_2 : decode cX6_lastChange 2 = .ok (.invokevirtual 72, 3) := by decide +kernel
theorem dX6_mark_0 : decode cX6_mark 0 = .ok (.aload_n 0, 1) := by decide +kernel
theorem dX6_mark_1 : decode cX6_mark 1 = .ok (.iload_n 1, 1) := by decide +kernel
theorem dX6_mark_2 : decode cX6_mark 2 = .ok (.invokevirtual 72, 3) := by decide +kernel
theorem dX6_meanArrival_0 : decode cX6_meanArrival 0 = .ok (.aload_n 0, 1) := by decide +kernel
theorem dX6_meanArrival_1 : decode cX6_meanArrival 1 = .ok (.invokevirtual 233, 3) := by decide +kernel
theorem dX6_netAt_0 : decode cX6_netAt 0 = .ok (.iload_n 1, 1) := by decide +kernel
theorem dX6_netAt_1 : decode cX6_netAt 1 = .ok (.ifCond .lt 17, 3) := by decide +kernel
theorem dX6_netAt_4 : decode cX6_netAt 4 = .ok (.iload_n 1, 1) := by decide +kernel
theorem dX6_netAt_5 : decode cX6_netAt 5 = .ok (.aload_n 0, 1) := by decide +kernel
theorem dX6_netAt_6 : decode cX6_netAt 6 = .ok (.getfield 10, 3) := by decide +kernel
theorem dX6_netAt_9 : decode cX6_netAt 9 = .ok (.getfield 219, 3) := by decide +kernel
theorem dX6_netAt_12 : decode cX6_netAt 12 = .ok (.invokevirtual 110, 3) := by decide +kernel
theorem dX6_netAt_15 : decode cX6_netAt 15 = .ok (.if_icmp .lt 13, 3) := by decide +kernel
theorem dX6_netAt_18 : decode cX6_netAt 18 = .ok (.new 249, 3) := by decide +kernel
theorem dX6_netAt_21 : decode cX6_netAt 21 = .ok (.dup, 1) := by decide +kernel
theorem dX6_netAt_22 : decode cX6_netAt 22 = .ok (.ldc 251, 2) := by decide +kernel
theorem dX6_netAt_24 : decode cX6_netAt 24 = .ok (.invokespecial 253, 3) := by decide +kernel
theorem dX6_netAt_27 : decode cX6_netAt 27 = .ok (.athrow, 1) := by decide +kernel
theorem dX6_netOfKind_0 : decode cX6_netOfKind 0 = .ok (.aload_n 0, 1) := by decide +kernel
theorem dX6_netOfKind_1 : decode cX6_netOfKind 1 = .ok (.iload_n 1, 1) := by decide +kernel
theorem dX6_netOfKind_2 : decode cX6_netOfKind 2 = .ok (.invokevirtual 72, 3) := by decide +kernel
theorem dX6_pass_0 : decode cX6_pass 0 = .ok (.iload_n 1, 1) := by decide +kernel
theorem dX6_pass_1 : decode cX6_pass 1 = .ok (.iconst 1, 1) := by decide +kernel
theorem dX6_pass_2 : decode cX6_pass 2 = .ok (.if_icmp .lt 9, 3) := by decide +kernel
theorem dX6_pass_5 : decode cX6_pass 5 = .ok (.iload_n 1, 1) := by decide +kernel
theorem dX6_pass_6 : decode cX6_pass 6 = .ok (.bipush 100, 2) := by decide +kernel
theorem dX6_pass_8 : decode cX6_pass 8 = .ok (.if_icmp .le 13, 3) := by decide +kernel
theorem dX6_pass_11 : decode cX6_pass 11 = .ok (.new 65, 3) := by decide +kernel
theorem dX6_pass_14 : decode cX6_pass 14 = .ok (.dup, 1) := by decide +kernel
theorem dX6_pass_15 : decode cX6_pass 15 = .ok (.ldc 152, 2) := by decide +kernel
theorem dX6_pass_17 : decode cX6_pass 17 = .ok (.invokespecial 69, 3) := by decide +kernel
theorem dX6_pass_20 : decode cX6_pass 20 = .ok (.athrow, 1) := by decide +kernel
theorem dX6_pass_21 : decode cX6_pass 21 = .ok (.aload_n 0, 1) := by decide +kernel
theorem dX6_pass_22 : decode cX6_pass 22 = .ok (.getfield 21, 3) := by decide +kernel
theorem dX6_pass_25 : decode cX6_pass 25 = .ok (.getfield 154, 3) := by decide +kernel
theorem dX6_pass_28 : decode cX6_pass 28 = .ok (.iload_n 1, 1) := by decide +kernel
theorem dX6_pass_29 : decode cX6_pass 29 = .ok (.iadd, 1) := by decide +kernel
theorem dX6_pass_30 : decode cX6_pass 30 = .ok (.sipush 9999, 3) := by decide +kernel
theorem dX6_pass_33 : decode cX6_pass 33 = .ok (.if_icmp .le 13, 3) := by decide +kernel
theorem dX6_pass_46 : decode cX6_pass 46 = .ok (.aload_n 0, 1) := by decide +kernel
theorem dX6_pass_47 : decode cX6_pass 47 = .ok (.getfield 21, 3) := by decide +kernel
theorem dX6_pass_50 : decode cX6_pass 50 = .ok (.iload_n 1, 1) := by decide +kernel
theorem dX6_pass_51 : decode cX6_pass 51 = .ok (.invokevirtual 159, 3) := by decide +kernel
theorem dX6_pass_54 : decode cX6_pass 54 = .ok (.aload_n 0, 1) := by decide +kernel
theorem dX6_pass_55 : decode cX6_pass 55 = .ok (.getfield 21, 3) := by decide +kernel
theorem dX6_pass_58 : decode cX6_pass 58 = .ok (.getfield 154, 3) := by decide +kernel
theorem dX6_pass_61 : decode cX6_pass 61 = .ok (.ireturn, 1) := by decide +kernel
theorem dX6_pending_0 : decode cX6_pending 0 = .ok (.aload_n 0, 1) := by decide +kernel
theorem dX6_pending_1 : decode cX6_pending 1 = .ok (.getfield 21, 3) := by decide +kernel
theorem dX6_pending_4 : decode cX6_pending 4 = .ok (.invokevirtual 174, 3) := by decide +kernel
theorem dX6_pending_7 : decode cX6_pending 7 = .ok (.ireturn, 1) := by decide +kernel
theorem dX6_requireRoomForNet_0 : decode cX6_requireRoomForNet 0 = .ok (.aload_n 0, 1) := by decide +kernel
theorem dX6_requireRoomForNet_1 : decode cX6_requireRoomForNet 1 = .ok (.getfield 10, 3) := by decide +kernel
theorem dX6_requireRoomForNet_4 : decode cX6_requireRoomForNet 4 = .ok (.getfield 219, 3) := by decide +kernel
theorem dX6_requireRoomForNet_7 : decode cX6_requireRoomForNet 7 = .ok (.invokevirtual 110, 3) := by decide +kernel
theorem dX6_requireRoomForNet_10 : decode cX6_requireRoomForNet 10 = .ok (.bipush 40, 2) := by decide +kernel
theorem dX6_requireRoomForNet_12 : decode cX6_requireRoomForNet 12 = .ok (.if_icmp .lt 14, 3) := by decide +kernel
theorem dX6_requireRoomForNet_26 : decode cX6_requireRoomForNet 26 = .ok (.return_, 1) := by decide +kernel
theorem dX6_requireRoomForSource_0 : decode cX6_requireRoomForSource 0 = .ok (.aload_n 0, 1) := by decide +kernel
theorem dX6_requireRoomForSource_1 : decode cX6_requireRoomForSource 1 = .ok (.getfield 10, 3) := by decide +kernel
theorem dX6_requireRoomForSource_4 : decode cX6_requireRoomForSource 4 = .ok (.getfield 259, 3) := by decide +kernel
theorem dX6_requireRoomForSource_7 : decode cX6_requireRoomForSource 7 = .ok (.invokevirtual 110, 3) := by decide +kernel
theorem dX6_requireRoomForSource_10 : decode cX6_requireRoomForSource 10 = .ok (.bipush 8, 2) := by decide +kernel
theorem dX6_requireRoomForSource_12 : decode cX6_requireRoomForSource 12 = .ok (.if_icmp .lt 14, 3) := by decide +kernel
theorem dX6_requireRoomForSource_26 : decode cX6_requireRoomForSource 26 = .ok (.return_, 1) := by decide +kernel
theorem dX6_requireRow_0 : decode cX6_requireRow 0 = .ok (.iload_n 1, 1) := by decide +kernel
theorem dX6_requireRow_1 : decode cX6_requireRow 1 = .ok (.ifCond .lt 14, 3) := by decide +kernel
theorem dX6_requireRow_4 : decode cX6_requireRow 4 = .ok (.iload_n 1, 1) := by decide +kernel
theorem dX6_requireRow_5 : decode cX6_requireRow 5 = .ok (.aload_n 0, 1) := by decide +kernel
theorem dX6_requireRow_6 : decode cX6_requireRow 6 = .ok (.getfield 28, 3) := by decide +kernel
theorem dX6_requireRow_9 : decode cX6_requireRow 9 = .ok (.invokevirtual 274, 3) := by decide +kernel
theorem dX6_requireRow_12 : decode cX6_requireRow 12 = .ok (.if_icmp .lt 14, 3) := by decide +kernel
theorem dX6_requireRow_15 : decode cX6_requireRow 15 = .ok (.new 166, 3) := by decide +kernel
theorem dX6_requireRow_18 : decode cX6_requireRow 18 = .ok (.dup, 1) := by decide +kernel
theorem dX6_requireRow_19 : decode cX6_requireRow 19 = .ok (.ldc_w 277, 3) := by decide +kernel
theorem dX6_requireRow_22 : decode cX6_requireRow 22 = .ok (.invokespecial 170, 3) := by decide +kernel
theorem dX6_requireRow_25 : decode cX6_requireRow 25 = .ok (.athrow, 1) := by decide +kernel
theorem dX6_requireRow_26 : decode cX6_requireRow 26 = .ok (.return_, 1) := by decide +kernel
theorem dX6_requireSomeNet_0 : decode cX6_requireSomeNet 0 = .ok (.aload_n 0, 1) := by decide +kernel
theorem dX6_requireSomeNet_1 : decode cX6_requireSomeNet 1 = .ok (.getfield 10, 3) := by decide +kernel
theorem dX6_requireSomeNet_4 : decode cX6_requireSomeNet 4 = .ok (.getfield 219, 3) := by decide +kernel
theorem dX6_requireSomeNet_7 : decode cX6_requireSomeNet 7 = .ok (.invokevirtual 266, 3) := by decide +kernel
theorem dX6_requireSomeNet_10 : decode cX6_requireSomeNet 10 = .ok (.ifCond .eq 14, 3) := by decide +kernel
theorem dX6_requireSomeNet_13 : decode cX6_requireSomeNet 13 = .ok (.new 269, 3) := by decide +kernel
theorem dX6_requireSomeNet_16 : decode cX6_requireSomeNet 16 = .ok (.dup, 1) := by decide +kernel
theorem dX6_requireSomeNet_17 : decode cX6_requireSomeNet 17 = .ok (.ldc_w 271, 3) := by decide +kernel
theorem dX6_requireSomeNet_20 : decode cX6_requireSomeNet 20 = .ok (.invokespecial 273, 3) := by decide +kernel
theorem dX6_requireSomeNet_23 : decode cX6_requireSomeNet 23 = .ok (.athrow, 1) := by decide +kernel
theorem dX6_reset_0 : decode cX6_reset 0 = .ok (.aload_n 0, 1) := by decide +kernel
theorem dX6_reset_1 : decode cX6_reset 1 = .ok (.iload_n 1, 1) := by decide +kernel
theorem dX6_reset_2 : decode cX6_reset 2 = .ok (.getstatic 121, 3) := by decide +kernel
theorem dX6_reset_5 : decode cX6_reset 5 = .ok (.invokevirtual 93, 3) := by decide +kernel
theorem dX6_setInput_0 : decode cX6_setInput 0 = .ok (.aload_n 0, 1) := by decide +kernel
theorem dX6_setInput_1 : decode cX6_setInput 1 = .ok (.iload_n 1, 1) := by decide +kernel
theorem dX6_setInput_2 : decode cX6_setInput 2 = .ok (.getstatic 38, 3) := by decide +kernel
theorem dX6_setInput_5 : decode cX6_setInput 5 = .ok (.invokevirtual 93, 3) := by decide +kernel
theorem dX6_settled_0 : decode cX6_settled 0 = .ok (.aload_n 0, 1) := by decide +kernel
theorem dX6_settled_1 : decode cX6_settled 1 = .ok (.iload_n 1, 1) := by decide +kernel
theorem dX6_settled_2 : decode cX6_settled 2 = .ok (.invokevirtual 72, 3) := by decide +kernel
theorem dX6_shown_0 : decode cX6_shown 0 = .ok (.iconst 0, 1) := by decide +kernel
theorem dX6_shown_1 : decode cX6_shown 1 = .ok (.istore_n 1, 1) := by decide +kernel
theorem dX6_shown_2 : decode cX6_shown 2 = .ok (.iconst 0, 1) := by decide +kernel
theorem dX6_shown_3 : decode cX6_shown 3 = .ok (.istore_n 2, 1) := by decide +kernel
theorem dX6_shown_4 : decode cX6_shown 4 = .ok (.iload_n 2, 1) := by decide +kernel
theorem dX6_shown_5 : decode cX6_shown 5 = .ok (.aload_n 0, 1) := by decide +kernel
theorem dX6_shown_6 : decode cX6_shown 6 = .ok (.getfield 10, 3) := by decide +kernel
theorem dX6_shown_9 : decode cX6_shown 9 = .ok (.getfield 219, 3) := by decide +kernel
theorem dX6_shown_12 : decode cX6_shown 12 = .ok (.invokevirtual 110, 3) := by decide +kernel
theorem dX6_shown_15 : decode cX6_shown 15 = .ok (.if_icmp .ge 66, 3) := by decide +kernel
theorem dX6_shown_81 : decode cX6_shown 81 = .ok (.iload_n 1, 1) := by decide +kernel
theorem dX6_shown_82 : decode cX6_shown 82 = .ok (.ireturn, 1) := by decide +kernel
theorem dX6_shows_0 : decode cX6_shows 0 = .ok (.aload_n 0, 1) := by decide +kernel
theorem dX6_shows_1 : decode cX6_shows 1 = .ok (.iload_n 1, 1) := by decide +kernel
theorem dX6_shows_2 : decode cX6_shows 2 = .ok (.invokevirtual 72, 3) := by decide +kernel
theorem dX6_slack_0 : decode cX6_slack 0 = .ok (.aload_n 0, 1) := by decide +kernel
theorem dX6_slack_1 : decode cX6_slack 1 = .ok (.iload_n 1, 1) := by decide +kernel
theorem dX6_slack_2 : decode cX6_slack 2 = .ok (.invokevirtual 72, 3) := by decide +kernel
theorem dX6_stands_0 : decode cX6_stands 0 = .ok (.aload_n 0, 1) := by decide +kernel
theorem dX6_stands_1 : decode cX6_stands 1 = .ok (.iload_n 1, 1) := by decide +kernel

theorem dX4_isShownBySomeTest_3 : decode cX4_isShownBySomeTest 3 = .ok (.aload_n 0, 1) := by decide +kernel
theorem dX4_isShownBySomeTest_4 : decode cX4_isShownBySomeTest 4 = .ok (.getfield 31, 3) := by decide +kernel
theorem dX4_isShownBySomeTest_7 : decode cX4_isShownBySomeTest 7 = .ok (.if_icmp .ge 35, 3) := by decide +kernel
theorem dX4_isShownBySomeTest_10 : decode cX4_isShownBySomeTest 10 = .ok (.iload_n 3, 1) := by decide +kernel
theorem dX4_isShownBySomeTest_11 : decode cX4_isShownBySomeTest 11 = .ok (.aload_n 0, 1) := by decide +kernel
theorem dX4_isShownBySomeTest_12 : decode cX4_isShownBySomeTest 12 = .ok (.getfield 9, 3) := by decide +kernel
theorem dX4_isShownBySomeTest_15 : decode cX4_isShownBySomeTest 15 = .ok (.arraylength, 1) := by decide +kernel
theorem dX4_isShownBySomeTest_16 : decode cX4_isShownBySomeTest 16 = .ok (.if_icmp .ge 26, 3) := by decide +kernel
theorem dX4_isShownBySomeTest_19 : decode cX4_isShownBySomeTest 19 = .ok (.aload_n 0, 1) := by decide +kernel
theorem dX4_isShownBySomeTest_20 : decode cX4_isShownBySomeTest 20 = .ok (.aload_n 1, 1) := by decide +kernel
theorem dX4_isShownBySomeTest_21 : decode cX4_isShownBySomeTest 21 = .ok (.iload_n 2, 1) := by decide +kernel
theorem dX4_isShownBySomeTest_22 : decode cX4_isShownBySomeTest 22 = .ok (.aload_n 0, 1) := by decide +kernel
theorem dX4_isShownBySomeTest_23 : decode cX4_isShownBySomeTest 23 = .ok (.getfield 9, 3) := by decide +kernel
theorem dX4_isShownBySomeTest_26 : decode cX4_isShownBySomeTest 26 = .ok (.iload_n 3, 1) := by decide +kernel
theorem dX4_isShownBySomeTest_27 : decode cX4_isShownBySomeTest 27 = .ok (.iaload, 1) := by decide +kernel
theorem dX4_isShownBySomeTest_28 : decode cX4_isShownBySomeTest 28 = .ok (.invokevirtual 59, 3) := by decide +kernel
theorem dX4_isShownBySomeTest_31 : decode cX4_isShownBySomeTest 31 = .ok (.ifCond .eq 5, 3) := by decide +kernel
theorem dX4_isShownBySomeTest_36 : decode cX4_isShownBySomeTest 36 = .ok (.iinc 3 1, 3) := by decide +kernel
theorem dX4_isShownBySomeTest_39 : decode cX4_isShownBySomeTest 39 = .ok (.goto (-37), 3) := by decide +kernel
theorem dX4_isShownBySomeTest_42 : decode cX4_isShownBySomeTest 42 = .ok (.iconst 0, 1) := by decide +kernel
theorem dX4_isShownBySomeTest_43 : decode cX4_isShownBySomeTest 43 = .ok (.ireturn, 1) := by decide +kernel
theorem dX4_isStuckShown_0 : decode cX4_isStuckShown 0 = .ok (.aload_n 0, 1) := by decide +kernel
theorem dX4_isStuckShown_1 : decode cX4_isStuckShown 1 = .ok (.iload_n 3, 1) := by decide +kernel
theorem dX4_isStuckShown_2 : decode cX4_isStuckShown 2 = .ok (.aconst_null, 1) := by decide +kernel
theorem dX4_isStuckShown_3 : decode cX4_isStuckShown 3 = .ok (.bipush 120, 2) := by decide +kernel
theorem dX4_isStuckShown_5 : decode cX4_isStuckShown 5 = .ok (.invokevirtual 38, 3) := by decide +kernel
theorem dX4_isStuckShown_8 : decode cX4_isStuckShown 8 = .ok (.aload_n 1, 1) := by decide +kernel
theorem dX4_isStuckShown_9 : decode cX4_isStuckShown 9 = .ok (.getfield 42, 3) := by decide +kernel
theorem dX4_isStuckShown_12 : decode cX4_isStuckShown 12 = .ok (.iload_n 2, 1) := by decide +kernel
theorem dX4_isStuckShown_13 : decode cX4_isStuckShown 13 = .ok (.if_icmp .ne 5, 3) := by decide +kernel
theorem dX4_isStuckShown_16 : decode cX4_isStuckShown 16 = .ok (.iconst 0, 1) := by decide +kernel
theorem dX4_isStuckShown_17 : decode cX4_isStuckShown 17 = .ok (.ireturn, 1) := by decide +kernel
theorem dX4_isStuckShown_18 : decode cX4_isStuckShown 18 = .ok (.iconst 0, 1) := by decide +kernel
theorem dX4_isStuckShown_19 : decode cX4_isStuckShown 19 = .ok (.istore 4, 2) := by decide +kernel
theorem dX4_isStuckShown_21 : decode cX4_isStuckShown 21 = .ok (.iload 4, 2) := by decide +kernel
theorem dX4_isStuckShown_23 : decode cX4_isStuckShown 23 = .ok (.aload_n 0, 1) := by decide +kernel
theorem dX4_isStuckShown_24 : decode cX4_isStuckShown 24 = .ok (.getfield 15, 3) := by decide +kernel
theorem dX4_isStuckShown_27 : decode cX4_isStuckShown 27 = .ok (.getfield 48, 3) := by decide +kernel
theorem dX4_isStuckShown_30 : decode cX4_isStuckShown 30 = .ok (.invokevirtual 25, 3) := by decide +kernel
theorem dX4_isStuckShown_33 : decode cX4_isStuckShown 33 = .ok (.if_icmp .ge 36, 3) := by decide +kernel
theorem dX4_isStuckShown_36 : decode cX4_isStuckShown 36 = .ok (.aload_n 0, 1) := by decide +kernel
theorem dX4_isStuckShown_37 : decode cX4_isStuckShown 37 = .ok (.getfield 15, 3) := by decide +kernel
theorem dX4_isStuckShown_40 : decode cX4_isStuckShown 40 = .ok (.getfield 48, 3) := by decide +kernel
theorem dX4_isStuckShown_43 : decode cX4_isStuckShown 43 = .ok (.iload 4, 2) := by decide +kernel
theorem dX4_isStuckShown_45 : decode cX4_isStuckShown 45 = .ok (.invokevirtual 51, 3) := by decide +kernel
theorem dX4_isStuckShown_48 : decode cX4_isStuckShown 48 = .ok (.checkcast 43, 3) := by decide +kernel
theorem dX4_isStuckShown_51 : decode cX4_isStuckShown 51 = .ok (.astore 5, 2) := by decide +kernel
theorem dX4_isStuckShown_53 : decode cX4_isStuckShown 53 = .ok (.aload 5, 2) := by decide +kernel
theorem dX4_isStuckShown_55 : decode cX4_isStuckShown 55 = .ok (.aload 5, 2) := by decide +kernel
theorem dX4_isStuckShown_57 : decode cX4_isStuckShown 57 = .ok (.getfield 42, 3) := by decide +kernel
theorem dX4_isStuckShown_60 : decode cX4_isStuckShown 60 = .ok (.putfield 63, 3) := by decide +kernel
theorem dX4_isStuckShown_63 : decode cX4_isStuckShown 63 = .ok (.iinc 4 1, 3) := by decide +kernel
theorem dX4_isStuckShown_66 : decode cX4_isStuckShown 66 = .ok (.goto (-45), 3) := by decide +kernel
theorem dX4_isStuckShown_69 : decode cX4_isStuckShown 69 = .ok (.aload_n 0, 1) := by decide +kernel
theorem dX4_isStuckShown_70 : decode cX4_isStuckShown 70 = .ok (.iload_n 3, 1) := by decide +kernel
theorem dX4_isStuckShown_71 : decode cX4_isStuckShown 71 = .ok (.aload_n 1, 1) := by decide +kernel
theorem dX4_isStuckShown_72 : decode cX4_isStuckShown 72 = .ok (.iload_n 2, 1) := by decide +kernel
theorem dX4_isStuckShown_73 : decode cX4_isStuckShown 73 = .ok (.invokevirtual 38, 3) := by decide +kernel
theorem dX4_isStuckShown_76 : decode cX4_isStuckShown 76 = .ok (.aload_n 0, 1) := by decide +kernel
theorem dX4_isStuckShown_77 : decode cX4_isStuckShown 77 = .ok (.invokevirtual 66, 3) := by decide +kernel
theorem dX4_isStuckShown_80 : decode cX4_isStuckShown 80 = .ok (.ireturn, 1) := by decide +kernel
theorem dX4_keepTest_0 : decode cX4_keepTest 0 = .ok (.aload_n 0, 1) := by decide +kernel
theorem dX4_keepTest_1 : decode cX4_keepTest 1 = .ok (.getfield 31, 3) := by decide +kernel
theorem dX4_keepTest_4 : decode cX4_keepTest 4 = .ok (.aload_n 0, 1) := by decide +kernel
theorem dX4_keepTest_5 : decode cX4_keepTest 5 = .ok (.getfield 9, 3) := by decide +kernel
theorem dX4_keepTest_8 : decode cX4_keepTest 8 = .ok (.arraylength, 1) := by decide +kernel
theorem dX4_keepTest_9 : decode cX4_keepTest 9 = .ok (.if_icmp .ge 23, 3) := by decide +kernel
theorem dX4_keepTest_12 : decode cX4_keepTest 12 = .ok (.aload_n 0, 1) := by decide +kernel
theorem dX4_keepTest_13 : decode cX4_keepTest 13 = .ok (.getfield 9, 3) := by decide +kernel
theorem dX4_keepTest_16 : decode cX4_keepTest 16 = .ok (.aload_n 0, 1) := by decide +kernel
theorem dX4_keepTest_17 : decode cX4_keepTest 17 = .ok (.getfield 31, 3) := by decide +kernel
theorem dX4_keepTest_20 : decode cX4_keepTest 20 = .ok (.iload_n 1, 1) := by decide +kernel
theorem dX4_keepTest_21 : decode cX4_keepTest 21 = .ok (.iastore, 1) := by decide +kernel
theorem dX4_keepTest_22 : decode cX4_keepTest 22 = .ok (.aload_n 0, 1) := by decide +kernel
theorem dX4_keepTest_23 : decode cX4_keepTest 23 = .ok (.dup, 1) := by decide +kernel
theorem dX4_keepTest_24 : decode cX4_keepTest 24 = .ok (.getfield 31, 3) := by decide +kernel
theorem dX4_keepTest_27 : decode cX4_keepTest 27 = .ok (.iconst 1, 1) := by decide +kernel
theorem dX4_keepTest_28 : decode cX4_keepTest 28 = .ok (.iadd, 1) := by decide +kernel
theorem dX4_keepTest_29 : decode cX4_keepTest 29 = .ok (.putfield 31, 3) := by decide +kernel
theorem dX4_keepTest_32 : decode cX4_keepTest 32 = .ok (.return_, 1) := by decide +kernel
theorem dX4_rowCount_0 : decode cX4_rowCount 0 = .ok (.iconst 1, 1) := by decide +kernel
theorem dX4_rowCount_1 : decode cX4_rowCount 1 = .ok (.aload_n 0, 1) := by decide +kernel
theorem dX4_rowCount_2 : decode cX4_rowCount 2 = .ok (.getfield 15, 3) := by decide +kernel
theorem dX4_rowCount_5 : decode cX4_rowCount 5 = .ok (.getfield 19, 3) := by decide +kernel
theorem dX4_rowCount_8 : decode cX4_rowCount 8 = .ok (.invokevirtual 25, 3) := by decide +kernel
theorem dX4_rowCount_11 : decode cX4_rowCount 11 = .ok (.ishl, 1) := by decide +kernel
theorem dX4_rowCount_12 : decode cX4_rowCount 12 = .ok (.ireturn, 1) := by decide +kernel
theorem dX4_tryRow_0 : decode cX4_tryRow 0 = .ok (.iconst 0, 1) := by decide +kernel
theorem dX4_tryRow_1 : decode cX4_tryRow 1 = .ok (.istore 4, 2) := by decide +kernel
theorem dX4_tryRow_3 : decode cX4_tryRow 3 = .ok (.iload 4, 2) := by decide +kernel
theorem dX4_tryRow_5 : decode cX4_tryRow 5 = .ok (.aload_n 0, 1) := by decide +kernel
theorem dX4_tryRow_6 : decode cX4_tryRow 6 = .ok (.getfield 15, 3) := by decide +kernel
theorem dX4_tryRow_9 : decode cX4_tryRow 9 = .ok (.getfield 19, 3) := by decide +kernel
theorem dX4_tryRow_12 : decode cX4_tryRow 12 = .ok (.invokevirtual 25, 3) := by decide +kernel
theorem dX4_tryRow_15 : decode cX4_tryRow 15 = .ok (.if_icmp .ge 44, 3) := by decide +kernel
theorem dX4_tryRow_18 : decode cX4_tryRow 18 = .ok (.aload_n 0, 1) := by decide +kernel
theorem dX4_tryRow_19 : decode cX4_tryRow 19 = .ok (.getfield 15, 3) := by decide +kernel
theorem dX4_tryRow_22 : decode cX4_tryRow 22 = .ok (.getfield 19, 3) := by decide +kernel
theorem dX4_tryRow_25 : decode cX4_tryRow 25 = .ok (.iload 4, 2) := by decide +kernel
theorem dX4_tryRow_27 : decode cX4_tryRow 27 = .ok (.invokevirtual 51, 3) := by decide +kernel
theorem dX4_tryRow_30 : decode cX4_tryRow 30 = .ok (.checkcast 43, 3) := by decide +kernel
theorem dX4_tryRow_33 : decode cX4_tryRow 33 = .ok (.iload_n 1, 1) := by decide +kernel
theorem dX4_tryRow_34 : decode cX4_tryRow 34 = .ok (.iload 4, 2) := by decide +kernel
theorem dX4_tryRow_36 : decode cX4_tryRow 36 = .ok (.ishr, 1) := by decide +kernel
theorem dX4_tryRow_37 : decode cX4_tryRow 37 = .ok (.iconst 1, 1) := by decide +kernel
theorem dX4_tryRow_38 : decode cX4_tryRow 38 = .ok (.iand, 1) := by decide +kernel
theorem dX4_tryRow_39 : decode cX4_tryRow 39 = .ok (.iconst 1, 1) := by decide +kernel
theorem dX4_tryRow_40 : decode cX4_tryRow 40 = .ok (.if_icmp .ne 8, 3) := by decide +kernel
theorem dX4_tryRow_48 : decode cX4_tryRow 48 = .ok (.bipush 48, 2) := by decide +kernel
theorem dX4_tryRow_50 : decode cX4_tryRow 50 = .ok (.putfield 42, 3) := by decide +kernel
theorem dX4_tryRow_53 : decode cX4_tryRow 53 = .ok (.iinc 4 1, 3) := by decide +kernel
theorem dX4_tryRow_56 : decode cX4_tryRow 56 = .ok (.goto (-53), 3) := by decide +kernel
theorem dX4_tryRow_59 : decode cX4_tryRow 59 = .ok (.aload_n 0, 1) := by decide +kernel
theorem dX4_tryRow_60 : decode cX4_tryRow 60 = .ok (.getfield 15, 3) := by decide +kernel
theorem dX4_tryRow_63 : decode cX4_tryRow 63 = .ok (.aload_n 2, 1) := by decide +kernel
theorem dX4_tryRow_64 : decode cX4_tryRow 64 = .ok (.iload_n 3, 1) := by decide +kernel
theorem dX4_tryRow_65 : decode cX4_tryRow 65 = .ok (.invokevirtual 77, 3) := by decide +kernel
theorem dX4_tryRow_68 : decode cX4_tryRow 68 = .ok (.return_, 1) := by decide +kernel
theorem dX5_init_0 : decode cX5_init 0 = .ok (.aload_n 0, 1) := by decide +kernel
theorem dX5_init_1 : decode cX5_init 1 = .ok (.invokespecial 3, 3) := by decide +kernel
theorem dX5_init_4 : decode cX5_init 4 = .ok (.aload_n 0, 1) := by decide +kernel
theorem dX5_init_5 : decode cX5_init 5 = .ok (.aload_n 1, 1) := by decide +kernel
theorem dX5_init_6 : decode cX5_init 6 = .ok (.putfield 9, 3) := by decide +kernel
theorem dX5_init_9 : decode cX5_init 9 = .ok (.return_, 1) := by decide +kernel
theorem dX5_restart_0 : decode cX5_restart 0 = .ok (.aload_n 0, 1) := by decide +kernel
theorem dX5_restart_1 : decode cX5_restart 1 = .ok (.iconst 0, 1) := by decide +kernel
theorem dX5_restart_2 : decode cX5_restart 2 = .ok (.putfield 15, 3) := by decide +kernel
theorem dX5_restart_5 : decode cX5_restart 5 = .ok (.iconst 0, 1) := by decide +kernel
theorem dX5_restart_6 : decode cX5_restart 6 = .ok (.istore_n 1, 1) := by decide +kernel
theorem dX5_restart_7 : decode cX5_restart 7 = .ok (.iload_n 1, 1) := by decide +kernel
theorem dX5_restart_8 : decode cX5_restart 8 = .ok (.aload_n 0, 1) := by decide +kernel
theorem dX5_restart_9 : decode cX5_restart 9 = .ok (.getfield 9, 3) := by decide +kernel
theorem dX5_restart_12 : decode cX5_restart 12 = .ok (.getfield 19, 3) := by decide +kernel
theorem dX5_restart_15 : decode cX5_restart 15 = .ok (.invokevirtual 25, 3) := by decide +kernel
theorem dX5_restart_18 : decode cX5_restart 18 = .ok (.if_icmp .ge 28, 3) := by decide +kernel
theorem dX5_restart_21 : decode cX5_restart 21 = .ok (.aload_n 0, 1) := by decide +kernel
theorem dX5_restart_22 : decode cX5_restart 22 = .ok (.getfield 9, 3) := by decide +kernel
theorem dX5_restart_25 : decode cX5_restart 25 = .ok (.getfield 19, 3) := by decide +kernel
theorem dX5_restart_28 : decode cX5_restart 28 = .ok (.iload_n 1, 1) := by decide +kernel
theorem dX5_restart_29 : decode cX5_restart 29 = .ok (.invokevirtual 31, 3) := by decide +kernel
theorem dX5_restart_32 : decode cX5_restart 32 = .ok (.checkcast 35, 3) := by decide +kernel
theorem dX5_restart_35 : decode cX5_restart 35 = .ok (.bipush 120, 2) := by decide +kernel
theorem dX5_restart_37 : decode cX5_restart 37 = .ok (.putfield 37, 3) := by decide +kernel
theorem dX5_restart_40 : decode cX5_restart 40 = .ok (.iinc 1 1, 3) := by decide +kernel
theorem dX5_restart_43 : decode cX5_restart 43 = .ok (.goto (-36), 3) := by decide +kernel
theorem dX5_restart_46 : decode cX5_restart 46 = .ok (.aload_n 0, 1) := by decide +kernel
theorem dX5_restart_47 : decode cX5_restart 47 = .ok (.getfield 9, 3) := by decide +kernel
theorem dX5_restart_50 : decode cX5_restart 50 = .ok (.aconst_null, 1) := by decide +kernel
theorem dX5_restart_51 : decode cX5_restart 51 = .ok (.bipush 120, 2) := by decide +kernel
theorem dX5_restart_53 : decode cX5_restart 53 = .ok (.invokevirtual 41, 3) := by decide +kernel
theorem dX5_restart_56 : decode cX5_restart 56 = .ok (.iconst 0, 1) := by decide +kernel
theorem dX5_restart_57 : decode cX5_restart 57 = .ok (.istore_n 1, 1) := by decide +kernel
theorem dX5_restart_58 : decode cX5_restart 58 = .ok (.iload_n 1, 1) := by decide +kernel
theorem dX5_restart_59 : decode cX5_restart 59 = .ok (.aload_n 0, 1) := by decide +kernel
theorem dX5_restart_60 : decode cX5_restart 60 = .ok (.getfield 9, 3) := by decide +kernel
theorem dX5_restart_63 : decode cX5_restart 63 = .ok (.getfield 45, 3) := by decide +kernel
theorem dX5_restart_66 : decode cX5_restart 66 = .ok (.invokevirtual 25, 3) := by decide +kernel
theorem dX5_restart_69 : decode cX5_restart 69 = .ok (.if_icmp .ge 26, 3) := by decide +kernel
theorem dX5_restart_72 : decode cX5_restart 72 = .ok (.aload_n 0, 1) := by decide +kernel
theorem dX5_restart_73 : decode cX5_restart 73 = .ok (.getfield 9, 3) := by decide +kernel
theorem dX5_restart_76 : decode cX5_restart 76 = .ok (.getfield 45, 3) := by decide +kernel
theorem dX5_restart_79 : decode cX5_restart 79 = .ok (.iload_n 1, 1) := by decide +kernel
theorem dX5_restart_80 : decode cX5_restart 80 = .ok (.invokevirtual 31, 3) := by decide +kernel
theorem dX5_restart_83 : decode cX5_restart 83 = .ok (.checkcast 35, 3) := by decide +kernel
theorem dX5_restart_86 : decode cX5_restart 86 = .ok (.invokevirtual 48, 3) := by decide +kernel
theorem dX5_restart_89 : decode cX5_restart 89 = .ok (.iinc 1 1, 3) := by decide +kernel
theorem dX5_restart_92 : decode cX5_restart 92 = .ok (.goto (-34), 3) := by decide +kernel
theorem dX5_restart_95 : decode cX5_restart 95 = .ok (.iconst 0, 1) := by decide +kernel
theorem dX5_restart_96 : decode cX5_restart 96 = .ok (.istore_n 1, 1) := by decide +kernel
theorem dX5_restart_97 : decode cX5_restart 97 = .ok (.iload_n 1, 1) := by decide +kernel
theorem dX5_restart_98 : decode cX5_restart 98 = .ok (.aload_n 0, 1) := by decide +kernel
theorem dX5_restart_99 : decode cX5_restart 99 = .ok (.getfield 9, 3) := by decide +kernel
theorem dX5_restart_102 : decode cX5_restart 102 = .ok (.getfield 51, 3) := by decide +kernel
theorem dX5_restart_105 : decode cX5_restart 105 = .ok (.invokevirtual 25, 3) := by decide +kernel
theorem dX5_restart_108 : decode cX5_restart 108 = .ok (.if_icmp .ge 26, 3) := by decide +kernel
theorem dX5_restart_134 : decode cX5_restart 134 = .ok (.return_, 1) := by decide +kernel
theorem dX6_addInput_0 : decode cX6_addInput 0 = .ok (.aload_n 0, 1) := by decide +kernel
theorem dX6_addInput_1 : decode cX6_addInput 1 = .ok (.invokevirtual 32, 3) := by decide +kernel
theorem dX6_addInput_4 : decode cX6_addInput 4 = .ok (.aload_n 0, 1) := by decide +kernel
theorem dX6_addInput_5 : decode cX6_addInput 5 = .ok (.invokevirtual 35, 3) := by decide +kernel
theorem dX6_addInput_8 : decode cX6_addInput 8 = .ok (.aload_n 0, 1) := by decide +kernel
theorem dX6_addInput_9 : decode cX6_addInput 9 = .ok (.getfield 10, 3) := by decide +kernel
theorem dX6_addInput_12 : decode cX6_addInput 12 = .ok (.getstatic 38, 3) := by decide +kernel
theorem dX6_addInput_15 : decode cX6_addInput 15 = .ok (.invokevirtual 44, 3) := by decide +kernel
theorem dX6_addInput_18 : decode cX6_addInput 18 = .ok (.astore_n 1, 1) := by decide +kernel
theorem dX6_addInput_19 : decode cX6_addInput 19 = .ok (.aload_n 0, 1) := by decide +kernel
theorem dX6_addInput_20 : decode cX6_addInput 20 = .ok (.invokevirtual 48, 3) := by decide +kernel
theorem dX6_addInput_23 : decode cX6_addInput 23 = .ok (.aload_n 1, 1) := by decide +kernel
theorem dX6_addInput_24 : decode cX6_addInput 24 = .ok (.getfield 51, 3) := by decide +kernel
theorem dX6_addInput_27 : decode cX6_addInput 27 = .ok (.ireturn, 1) := by decide +kernel
theorem dX6_addTest_0 : decode cX6_addTest 0 = .ok (.aload_n 0, 1) := by decide +kernel
theorem dX6_addTest_1 : decode cX6_addTest 1 = .ok (.iload_n 1, 1) := by decide +kernel
theorem dX6_addTest_2 : decode cX6_addTest 2 = .ok (.invokevirtual 198, 3) := by decide +kernel
theorem dX6_addTest_5 : decode cX6_addTest 5 = .ok (.aload_n 0, 1) := by decide +kernel
theorem dX6_addTest_6 : decode cX6_addTest 6 = .ok (.getfield 28, 3) := by decide +kernel
theorem dX6_addTest_9 : decode cX6_addTest 9 = .ok (.getfield 211, 3) := by decide +kernel
theorem dX6_addTest_12 : decode cX6_addTest 12 = .ok (.bipush 8, 2) := by decide +kernel
theorem dX6_addTest_14 : decode cX6_addTest 14 = .ok (.if_icmp .lt 13, 3) := by decide +kernel
theorem dX6_addTest_27 : decode cX6_addTest 27 = .ok (.aload_n 0, 1) := by decide +kernel
theorem dX6_addTest_28 : decode cX6_addTest 28 = .ok (.getfield 28, 3) := by decide +kernel
theorem dX6_addTest_31 : decode cX6_addTest 31 = .ok (.iload_n 1, 1) := by decide +kernel
theorem dX6_addTest_32 : decode cX6_addTest 32 = .ok (.invokevirtual 216, 3) := by decide +kernel
theorem dX6_addTest_35 : decode cX6_addTest 35 = .ok (.aload_n 0, 1) := by decide +kernel
theorem dX6_addTest_36 : decode cX6_addTest 36 = .ok (.getfield 28, 3) := by decide +kernel
theorem dX6_addTest_39 : decode cX6_addTest 39 = .ok (.getfield 211, 3) := by decide +kernel
theorem dX6_addTest_42 : decode cX6_addTest 42 = .ok (.ireturn, 1) := by decide +kernel
theorem dX6_init_0 : decode cX6_init 0 = .ok (.aload_n 0, 1) := by decide +kernel
theorem dX6_init_1 : decode cX6_init 1 = .ok (.invokespecial 1, 3) := by decide +kernel
theorem dX6_init_4 : decode cX6_init 4 = .ok (.aload_n 0, 1) := by decide +kernel
theorem dX6_init_5 : decode cX6_init 5 = .ok (.new 7, 3) := by decide +kernel
theorem dX6_init_8 : decode cX6_init 8 = .ok (.dup, 1) := by decide +kernel
theorem dX6_init_9 : decode cX6_init 9 = .ok (.invokespecial 9, 3) := by decide +kernel
theorem dX6_init_12 : decode cX6_init 12 = .ok (.putfield 10, 3) := by decide +kernel
theorem dX6_init_15 : decode cX6_init 15 = .ok (.aload_n 0, 1) := by decide +kernel
theorem dX6_init_16 : decode cX6_init 16 = .ok (.new 16, 3) := by decide +kernel
theorem dX6_init_19 : decode cX6_init 19 = .ok (.dup, 1) := by decide +kernel
theorem dX6_init_20 : decode cX6_init 20 = .ok (.aload_n 0, 1) := by decide +kernel
theorem dX6_init_21 : decode cX6_init 21 = .ok (.getfield 10, 3) := by decide +kernel
theorem dX6_init_24 : decode cX6_init 24 = .ok (.invokespecial 18, 3) := by decide +kernel
theorem dX6_init_27 : decode cX6_init 27 = .ok (.putfield 21, 3) := by decide +kernel
theorem dX6_init_30 : decode cX6_init 30 = .ok (.aload_n 0, 1) := by decide +kernel
theorem dX6_init_31 : decode cX6_init 31 = .ok (.new 25, 3) := by decide +kernel
theorem dX6_init_34 : decode cX6_init 34 = .ok (.dup, 1) := by decide +kernel
theorem dX6_init_35 : decode cX6_init 35 = .ok (.aload_n 0, 1) := by decide +kernel
theorem dX6_init_36 : decode cX6_init 36 = .ok (.getfield 10, 3) := by decide +kernel
theorem dX6_init_39 : decode cX6_init 39 = .ok (.invokespecial 27, 3) := by decide +kernel
theorem dX6_init_42 : decode cX6_init 42 = .ok (.putfield 28, 3) := by decide +kernel
theorem dX6_init_45 : decode cX6_init 45 = .ok (.return_, 1) := by decide +kernel
theorem dX6_isKnown_0 : decode cX6_isKnown 0 = .ok (.iload_n 0, 1) := by decide +kernel
theorem dX6_isKnown_1 : decode cX6_isKnown 1 = .ok (.bipush 48, 2) := by decide +kernel
theorem dX6_isKnown_3 : decode cX6_isKnown 3 = .ok (.if_icmp .eq 9, 3) := by decide +kernel
theorem dX6_isKnown_6 : decode cX6_isKnown 6 = .ok (.iload_n 0, 1) := by decide +kernel
theorem dX6_isKnown_7 : decode cX6_isKnown 7 = .ok (.bipush 49, 2) := by decide +kernel
theorem dX6_isKnown_9 : decode cX6_isKnown 9 = .ok (.if_icmp .ne 7, 3) := by decide +kernel
theorem dX6_isKnown_12 : decode cX6_isKnown 12 = .ok (.iconst 1, 1) := by decide +kernel
theorem dX6_isKnown_13 : decode cX6_isKnown 13 = .ok (.goto 4, 3) := by decide +kernel
theorem dX6_isKnown_17 : decode cX6_isKnown 17 = .ok (.ireturn, 1) := by decide +kernel
theorem dX6_requireRoomForNet_0 : decode cX6_requireRoomForNet 0 = .ok (.aload_n 0, 1) := by decide +kernel
theorem dX6_requireRoomForNet_1 : decode cX6_requireRoomForNet 1 = .ok (.getfield 10, 3) := by decide +kernel
theorem dX6_requireRoomForNet_4 : decode cX6_requireRoomForNet 4 = .ok (.getfield 219, 3) := by decide +kernel
theorem dX6_requireRoomForNet_7 : decode cX6_requireRoomForNet 7 = .ok (.invokevirtual 110, 3) := by decide +kernel
theorem dX6_requireRoomForNet_10 : decode cX6_requireRoomForNet 10 = .ok (.bipush 40, 2) := by decide +kernel
theorem dX6_requireRoomForNet_12 : decode cX6_requireRoomForNet 12 = .ok (.if_icmp .lt 14, 3) := by decide +kernel
theorem dX6_requireRoomForNet_26 : decode cX6_requireRoomForNet 26 = .ok (.return_, 1) := by decide +kernel
theorem dX6_requireRoomForSource_0 : decode cX6_requireRoomForSource 0 = .ok (.aload_n 0, 1) := by decide +kernel
theorem dX6_requireRoomForSource_1 : decode cX6_requireRoomForSource 1 = .ok (.getfield 10, 3) := by decide +kernel
theorem dX6_requireRoomForSource_4 : decode cX6_requireRoomForSource 4 = .ok (.getfield 259, 3) := by decide +kernel
theorem dX6_requireRoomForSource_7 : decode cX6_requireRoomForSource 7 = .ok (.invokevirtual 110, 3) := by decide +kernel
theorem dX6_requireRoomForSource_10 : decode cX6_requireRoomForSource 10 = .ok (.bipush 8, 2) := by decide +kernel
theorem dX6_requireRoomForSource_12 : decode cX6_requireRoomForSource 12 = .ok (.if_icmp .lt 14, 3) := by decide +kernel
theorem dX6_requireRoomForSource_26 : decode cX6_requireRoomForSource 26 = .ok (.return_, 1) := by decide +kernel
theorem dX6_requireRow_0 : decode cX6_requireRow 0 = .ok (.iload_n 1, 1) := by decide +kernel
theorem dX6_requireRow_1 : decode cX6_requireRow 1 = .ok (.ifCond .lt 14, 3) := by decide +kernel
theorem dX6_requireRow_4 : decode cX6_requireRow 4 = .ok (.iload_n 1, 1) := by decide +kernel
theorem dX6_requireRow_5 : decode cX6_requireRow 5 = .ok (.aload_n 0, 1) := by decide +kernel
theorem dX6_requireRow_6 : decode cX6_requireRow 6 = .ok (.getfield 28, 3) := by decide +kernel
theorem dX6_requireRow_9 : decode cX6_requireRow 9 = .ok (.invokevirtual 274, 3) := by decide +kernel
theorem dX6_requireRow_12 : decode cX6_requireRow 12 = .ok (.if_icmp .lt 14, 3) := by decide +kernel
theorem dX6_requireRow_26 : decode cX6_requireRow 26 = .ok (.return_, 1) := by decide +kernel
theorem dX6_shown_0 : decode cX6_shown 0 = .ok (.iconst 0, 1) := by decide +kernel
theorem dX6_shown_1 : decode cX6_shown 1 = .ok (.istore_n 1, 1) := by decide +kernel
theorem dX6_shown_2 : decode cX6_shown 2 = .ok (.iconst 0, 1) := by decide +kernel
theorem dX6_shown_3 : decode cX6_shown 3 = .ok (.istore_n 2, 1) := by decide +kernel
theorem dX6_shown_4 : decode cX6_shown 4 = .ok (.iload_n 2, 1) := by decide +kernel
theorem dX6_shown_5 : decode cX6_shown 5 = .ok (.aload_n 0, 1) := by decide +kernel
theorem dX6_shown_6 : decode cX6_shown 6 = .ok (.getfield 10, 3) := by decide +kernel
theorem dX6_shown_9 : decode cX6_shown 9 = .ok (.getfield 219, 3) := by decide +kernel
theorem dX6_shown_12 : decode cX6_shown 12 = .ok (.invokevirtual 110, 3) := by decide +kernel
theorem dX6_shown_15 : decode cX6_shown 15 = .ok (.if_icmp .ge 66, 3) := by decide +kernel
theorem dX6_shown_18 : decode cX6_shown 18 = .ok (.aload_n 0, 1) := by decide +kernel
theorem dX6_shown_19 : decode cX6_shown 19 = .ok (.getfield 10, 3) := by decide +kernel
theorem dX6_shown_22 : decode cX6_shown 22 = .ok (.getfield 219, 3) := by decide +kernel
theorem dX6_shown_25 : decode cX6_shown 25 = .ok (.iload_n 2, 1) := by decide +kernel
theorem dX6_shown_26 : decode cX6_shown 26 = .ok (.invokevirtual 222, 3) := by decide +kernel
theorem dX6_shown_29 : decode cX6_shown 29 = .ok (.checkcast 52, 3) := by decide +kernel
theorem dX6_shown_32 : decode cX6_shown 32 = .ok (.astore_n 3, 1) := by decide +kernel
theorem dX6_shown_33 : decode cX6_shown 33 = .ok (.iload_n 1, 1) := by decide +kernel
theorem dX6_shown_34 : decode cX6_shown 34 = .ok (.aload_n 0, 1) := by decide +kernel
theorem dX6_shown_35 : decode cX6_shown 35 = .ok (.getfield 28, 3) := by decide +kernel
theorem dX6_shown_38 : decode cX6_shown 38 = .ok (.aload_n 3, 1) := by decide +kernel
theorem dX6_shown_39 : decode cX6_shown 39 = .ok (.bipush 48, 2) := by decide +kernel
theorem dX6_shown_41 : decode cX6_shown 41 = .ok (.invokevirtual 226, 3) := by decide +kernel
theorem dX6_shown_44 : decode cX6_shown 44 = .ok (.ifCond .eq 7, 3) := by decide +kernel
theorem dX6_shown_51 : decode cX6_shown 51 = .ok (.iconst 0, 1) := by decide +kernel
theorem dX6_shown_52 : decode cX6_shown 52 = .ok (.iadd, 1) := by decide +kernel
theorem dX6_shown_53 : decode cX6_shown 53 = .ok (.istore_n 1, 1) := by decide +kernel
theorem dX6_shown_54 : decode cX6_shown 54 = .ok (.iload_n 1, 1) := by decide +kernel
theorem dX6_shown_55 : decode cX6_shown 55 = .ok (.aload_n 0, 1) := by decide +kernel
theorem dX6_shown_56 : decode cX6_shown 56 = .ok (.getfield 28, 3) := by decide +kernel
theorem dX6_shown_59 : decode cX6_shown 59 = .ok (.aload_n 3, 1) := by decide +kernel
theorem dX6_shown_60 : decode cX6_shown 60 = .ok (.bipush 49, 2) := by decide +kernel
theorem dX6_shown_62 : decode cX6_shown 62 = .ok (.invokevirtual 226, 3) := by decide +kernel
theorem dX6_shown_65 : decode cX6_shown 65 = .ok (.ifCond .eq 7, 3) := by decide +kernel
theorem dX6_shown_72 : decode cX6_shown 72 = .ok (.iconst 0, 1) := by decide +kernel
theorem dX6_shown_73 : decode cX6_shown 73 = .ok (.iadd, 1) := by decide +kernel
theorem dX6_shown_74 : decode cX6_shown 74 = .ok (.istore_n 1, 1) := by decide +kernel
theorem dX6_shown_75 : decode cX6_shown 75 = .ok (.iinc 2 1, 3) := by decide +kernel
theorem dX6_shown_78 : decode cX6_shown 78 = .ok (.goto (-74), 3) := by decide +kernel
theorem dX6_shown_81 : decode cX6_shown 81 = .ok (.iload_n 1, 1) := by decide +kernel
theorem dX6_shown_82 : decode cX6_shown 82 = .ok (.ireturn, 1) := by decide +kernel
theorem dX6_startAnew_0 : decode cX6_startAnew 0 = .ok (.aload_n 0, 1) := by decide +kernel
theorem dX6_startAnew_1 : decode cX6_startAnew 1 = .ok (.getfield 10, 3) := by decide +kernel
theorem dX6_startAnew_4 : decode cX6_startAnew 4 = .ok (.invokevirtual 243, 3) := by decide +kernel
theorem dX6_startAnew_7 : decode cX6_startAnew 7 = .ok (.aload_n 0, 1) := by decide +kernel
theorem dX6_startAnew_8 : decode cX6_startAnew 8 = .ok (.getfield 21, 3) := by decide +kernel
theorem dX6_startAnew_11 : decode cX6_startAnew 11 = .ok (.invokevirtual 246, 3) := by decide +kernel
theorem dX6_startAnew_14 : decode cX6_startAnew 14 = .ok (.return_, 1) := by decide +kernel
theorem dX8_init_0 : decode cX8_init 0 = .ok (.aload_n 0, 1) := by decide +kernel
theorem dX8_init_1 : decode cX8_init 1 = .ok (.invokespecial 3, 3) := by decide +kernel
theorem dX8_init_4 : decode cX8_init 4 = .ok (.aload_n 0, 1) := by decide +kernel
theorem dX8_init_5 : decode cX8_init 5 = .ok (.bipush 120, 2) := by decide +kernel
theorem dX8_init_7 : decode cX8_init 7 = .ok (.putfield 9, 3) := by decide +kernel
theorem dX8_init_10 : decode cX8_init 10 = .ok (.aload_n 0, 1) := by decide +kernel
theorem dX8_init_11 : decode cX8_init 11 = .ok (.iconst (-1), 1) := by decide +kernel
theorem dX8_init_12 : decode cX8_init 12 = .ok (.putfield 15, 3) := by decide +kernel
theorem dX8_init_15 : decode cX8_init 15 = .ok (.aload_n 0, 1) := by decide +kernel
theorem dX8_init_16 : decode cX8_init 16 = .ok (.iconst (-1), 1) := by decide +kernel
theorem dX8_init_17 : decode cX8_init 17 = .ok (.putfield 19, 3) := by decide +kernel
theorem dX8_init_20 : decode cX8_init 20 = .ok (.aload_n 0, 1) := by decide +kernel
theorem dX8_init_21 : decode cX8_init 21 = .ok (.iload_n 1, 1) := by decide +kernel
theorem dX8_init_22 : decode cX8_init 22 = .ok (.putfield 22, 3) := by decide +kernel
theorem dX8_init_25 : decode cX8_init 25 = .ok (.return_, 1) := by decide +kernel
theorem dX8_isSource_0 : decode cX8_isSource 0 = .ok (.aload_n 0, 1) := by decide +kernel
theorem dX8_isSource_1 : decode cX8_isSource 1 = .ok (.getfield 22, 3) := by decide +kernel
theorem dX8_isSource_4 : decode cX8_isSource 4 = .ok (.bipush 105, 2) := by decide +kernel
theorem dX8_isSource_6 : decode cX8_isSource 6 = .ok (.if_icmp .eq 12, 3) := by decide +kernel
theorem dX8_isSource_18 : decode cX8_isSource 18 = .ok (.iconst 1, 1) := by decide +kernel
theorem dX8_isSource_19 : decode cX8_isSource 19 = .ok (.goto 4, 3) := by decide +kernel
theorem dX8_isSource_23 : decode cX8_isSource 23 = .ok (.ireturn, 1) := by decide +kernel
theorem dX9_add_0 : decode cX9_add 0 = .ok (.aload_n 0, 1) := by decide +kernel
theorem dX9_add_1 : decode cX9_add 1 = .ok (.getfield 10, 3) := by decide +kernel
theorem dX9_add_4 : decode cX9_add 4 = .ok (.new 51, 3) := by decide +kernel
theorem dX9_add_7 : decode cX9_add 7 = .ok (.dup, 1) := by decide +kernel
theorem dX9_add_8 : decode cX9_add 8 = .ok (.iload_n 1, 1) := by decide +kernel
theorem dX9_add_9 : decode cX9_add 9 = .ok (.invokespecial 137, 3) := by decide +kernel
theorem dX9_add_12 : decode cX9_add 12 = .ok (.invokevirtual 100, 3) := by decide +kernel
theorem dX9_add_15 : decode cX9_add 15 = .ok (.pop, 1) := by decide +kernel
theorem dX9_add_16 : decode cX9_add 16 = .ok (.aload_n 0, 1) := by decide +kernel
theorem dX9_add_17 : decode cX9_add 17 = .ok (.getfield 10, 3) := by decide +kernel
theorem dX9_add_20 : decode cX9_add 20 = .ok (.invokevirtual 29, 3) := by decide +kernel
theorem dX9_add_23 : decode cX9_add 23 = .ok (.iconst 1, 1) := by decide +kernel
theorem dX9_add_24 : decode cX9_add 24 = .ok (.isub, 1) := by decide +kernel
theorem dX9_add_25 : decode cX9_add 25 = .ok (.ireturn, 1) := by decide +kernel
theorem dX9_addInput_0 : decode cX9_addInput 0 = .ok (.aload_n 0, 1) := by decide +kernel
theorem dX9_addInput_1 : decode cX9_addInput 1 = .ok (.iconst 0, 1) := by decide +kernel
theorem dX9_addInput_2 : decode cX9_addInput 2 = .ok (.putfield 25, 3) := by decide +kernel
theorem dX9_addInput_5 : decode cX9_addInput 5 = .ok (.aload_n 0, 1) := by decide +kernel
theorem dX9_addInput_6 : decode cX9_addInput 6 = .ok (.bipush 105, 2) := by decide +kernel
theorem dX9_addInput_8 : decode cX9_addInput 8 = .ok (.invokevirtual 153, 3) := by decide +kernel
theorem dX9_addInput_11 : decode cX9_addInput 11 = .ok (.ireturn, 1) := by decide +kernel
theorem dX9_addSource_0 : decode cX9_addSource 0 = .ok (.aload_n 0, 1) := by decide +kernel
theorem dX9_addSource_1 : decode cX9_addSource 1 = .ok (.aload_n 0, 1) := by decide +kernel
theorem dX9_addSource_2 : decode cX9_addSource 2 = .ok (.invokevirtual 140, 3) := by decide +kernel
theorem dX9_addSource_5 : decode cX9_addSource 5 = .ok (.bipush 8, 2) := by decide +kernel
theorem dX9_addSource_7 : decode cX9_addSource 7 = .ok (.if_icmp .ne 7, 3) := by decide +kernel
theorem dX9_addSource_14 : decode cX9_addSource 14 = .ok (.iconst 0, 1) := by decide +kernel
theorem dX9_addSource_15 : decode cX9_addSource 15 = .ok (.iconst 1, 1) := by decide +kernel
theorem dX9_addSource_16 : decode cX9_addSource 16 = .ok (.invokevirtual 143, 3) := by decide +kernel
theorem dX9_addSource_19 : decode cX9_addSource 19 = .ok (.ifCond .ne 28, 3) := by decide +kernel
theorem dX9_addSource_22 : decode cX9_addSource 22 = .ok (.aload_n 0, 1) := by decide +kernel
theorem dX9_addSource_23 : decode cX9_addSource 23 = .ok (.aload_n 0, 1) := by decide +kernel
theorem dX9_addSource_24 : decode cX9_addSource 24 = .ok (.getfield 10, 3) := by decide +kernel
theorem dX9_addSource_27 : decode cX9_addSource 27 = .ok (.invokevirtual 29, 3) := by decide +kernel
theorem dX9_addSource_30 : decode cX9_addSource 30 = .ok (.bipush 40, 2) := by decide +kernel
theorem dX9_addSource_32 : decode cX9_addSource 32 = .ok (.if_icmp .ne 7, 3) := by decide +kernel
theorem dX9_addSource_39 : decode cX9_addSource 39 = .ok (.iconst 0, 1) := by decide +kernel
theorem dX9_addSource_40 : decode cX9_addSource 40 = .ok (.iconst 2, 1) := by decide +kernel
theorem dX9_addSource_41 : decode cX9_addSource 41 = .ok (.invokevirtual 143, 3) := by decide +kernel
theorem dX9_addSource_44 : decode cX9_addSource 44 = .ok (.ifCond .eq 5, 3) := by decide +kernel
theorem dX9_addSource_49 : decode cX9_addSource 49 = .ok (.aload_n 0, 1) := by decide +kernel
theorem dX9_addSource_50 : decode cX9_addSource 50 = .ok (.iload_n 1, 1) := by decide +kernel
theorem dX9_addSource_51 : decode cX9_addSource 51 = .ok (.invokevirtual 147, 3) := by decide +kernel
theorem dX9_addSource_54 : decode cX9_addSource 54 = .ok (.istore_n 2, 1) := by decide +kernel
theorem dX9_addSource_55 : decode cX9_addSource 55 = .ok (.aload_n 0, 1) := by decide +kernel
theorem dX9_addSource_56 : decode cX9_addSource 56 = .ok (.invokevirtual 150, 3) := by decide +kernel
theorem dX9_addSource_59 : decode cX9_addSource 59 = .ok (.iload_n 2, 1) := by decide +kernel
theorem dX9_addSource_60 : decode cX9_addSource 60 = .ok (.ireturn, 1) := by decide +kernel
theorem dX9_addTest_0 : decode cX9_addTest 0 = .ok (.aload_n 0, 1) := by decide +kernel
theorem dX9_addTest_1 : decode cX9_addTest 1 = .ok (.iconst 0, 1) := by decide +kernel
theorem dX9_addTest_2 : decode cX9_addTest 2 = .ok (.putfield 25, 3) := by decide +kernel
theorem dX9_addTest_5 : decode cX9_addTest 5 = .ok (.aload_n 0, 1) := by decide +kernel
theorem dX9_addTest_6 : decode cX9_addTest 6 = .ok (.iload_n 1, 1) := by decide +kernel
theorem dX9_addTest_7 : decode cX9_addTest 7 = .ok (.iconst 0, 1) := by decide +kernel
theorem dX9_addTest_8 : decode cX9_addTest 8 = .ok (.aload_n 0, 1) := by decide +kernel
theorem dX9_addTest_9 : decode cX9_addTest 9 = .ok (.invokevirtual 240, 3) := by decide +kernel
theorem dX9_addTest_12 : decode cX9_addTest 12 = .ok (.iconst 1, 1) := by decide +kernel
theorem dX9_addTest_13 : decode cX9_addTest 13 = .ok (.isub, 1) := by decide +kernel
theorem dX9_addTest_14 : decode cX9_addTest 14 = .ok (.invokestatic 33, 3) := by decide +kernel
theorem dX9_addTest_17 : decode cX9_addTest 17 = .ok (.ifCond .ne 7, 3) := by decide +kernel
theorem dX9_addTest_24 : decode cX9_addTest 24 = .ok (.iconst 0, 1) := by decide +kernel
theorem dX9_addTest_25 : decode cX9_addTest 25 = .ok (.iconst 1, 1) := by decide +kernel
theorem dX9_addTest_26 : decode cX9_addTest 26 = .ok (.invokevirtual 143, 3) := by decide +kernel
theorem dX9_addTest_29 : decode cX9_addTest 29 = .ok (.ifCond .ne 28, 3) := by decide +kernel
theorem dX9_addTest_32 : decode cX9_addTest 32 = .ok (.aload_n 0, 1) := by decide +kernel
theorem dX9_addTest_33 : decode cX9_addTest 33 = .ok (.aload_n 0, 1) := by decide +kernel
theorem dX9_addTest_34 : decode cX9_addTest 34 = .ok (.getfield 19, 3) := by decide +kernel
theorem dX9_addTest_37 : decode cX9_addTest 37 = .ok (.invokevirtual 29, 3) := by decide +kernel
theorem dX9_addTest_40 : decode cX9_addTest 40 = .ok (.bipush 8, 2) := by decide +kernel
theorem dX9_addTest_42 : decode cX9_addTest 42 = .ok (.if_icmp .ne 7, 3) := by decide +kernel
theorem dX9_addTest_49 : decode cX9_addTest 49 = .ok (.iconst 0, 1) := by decide +kernel
theorem dX9_addTest_50 : decode cX9_addTest 50 = .ok (.iconst 2, 1) := by decide +kernel
theorem dX9_addTest_51 : decode cX9_addTest 51 = .ok (.invokevirtual 143, 3) := by decide +kernel
theorem dX9_addTest_54 : decode cX9_addTest 54 = .ok (.ifCond .eq 5, 3) := by decide +kernel
theorem dX9_addTest_59 : decode cX9_addTest 59 = .ok (.aload_n 0, 1) := by decide +kernel
theorem dX9_addTest_60 : decode cX9_addTest 60 = .ok (.getfield 19, 3) := by decide +kernel
theorem dX9_addTest_63 : decode cX9_addTest 63 = .ok (.iload_n 1, 1) := by decide +kernel
theorem dX9_addTest_64 : decode cX9_addTest 64 = .ok (.invokestatic 96, 3) := by decide +kernel
theorem dX9_addTest_67 : decode cX9_addTest 67 = .ok (.invokevirtual 100, 3) := by decide +kernel
theorem dX9_addTest_70 : decode cX9_addTest 70 = .ok (.pop, 1) := by decide +kernel
theorem dX9_addTest_71 : decode cX9_addTest 71 = .ok (.aload_n 0, 1) := by decide +kernel
theorem dX9_addTest_72 : decode cX9_addTest 72 = .ok (.getfield 19, 3) := by decide +kernel
theorem dX9_addTest_75 : decode cX9_addTest 75 = .ok (.invokevirtual 29, 3) := by decide +kernel
theorem dX9_addTest_78 : decode cX9_addTest 78 = .ok (.ireturn, 1) := by decide +kernel
theorem dX9_fails_0 : decode cX9_fails 0 = .ok (.iload_n 1, 1) := by decide +kernel
theorem dX9_fails_1 : decode cX9_fails 1 = .ok (.ifCond .eq 15, 3) := by decide +kernel
theorem dX9_fails_16 : decode cX9_fails 16 = .ok (.aload_n 0, 1) := by decide +kernel
theorem dX9_fails_17 : decode cX9_fails 17 = .ok (.getfield 25, 3) := by decide +kernel
theorem dX9_fails_20 : decode cX9_fails 20 = .ok (.ifCond .eq 7, 3) := by decide +kernel
theorem dX9_fails_27 : decode cX9_fails 27 = .ok (.iconst 0, 1) := by decide +kernel
theorem dX9_fails_28 : decode cX9_fails 28 = .ok (.ireturn, 1) := by decide +kernel
theorem dX9_in_0 : decode cX9_in 0 = .ok (.iload_n 0, 1) := by decide +kernel
theorem dX9_in_1 : decode cX9_in 1 = .ok (.iload_n 1, 1) := by decide +kernel
theorem dX9_in_2 : decode cX9_in 2 = .ok (.if_icmp .lt 12, 3) := by decide +kernel
theorem dX9_in_5 : decode cX9_in 5 = .ok (.iload_n 0, 1) := by decide +kernel
theorem dX9_in_6 : decode cX9_in 6 = .ok (.iload_n 2, 1) := by decide +kernel
theorem dX9_in_7 : decode cX9_in 7 = .ok (.if_icmp .gt 7, 3) := by decide +kernel
theorem dX9_in_10 : decode cX9_in 10 = .ok (.iconst 1, 1) := by decide +kernel
theorem dX9_in_11 : decode cX9_in 11 = .ok (.goto 4, 3) := by decide +kernel
theorem dX9_in_15 : decode cX9_in 15 = .ok (.ireturn, 1) := by decide +kernel
theorem dX9_init_0 : decode cX9_init 0 = .ok (.aload_n 0, 1) := by decide +kernel
theorem dX9_init_1 : decode cX9_init 1 = .ok (.invokespecial 1, 3) := by decide +kernel
theorem dX9_init_4 : decode cX9_init 4 = .ok (.aload_n 0, 1) := by decide +kernel
theorem dX9_init_5 : decode cX9_init 5 = .ok (.new 7, 3) := by decide +kernel
theorem dX9_init_8 : decode cX9_init 8 = .ok (.dup, 1) := by decide +kernel
theorem dX9_init_9 : decode cX9_init 9 = .ok (.invokespecial 9, 3) := by decide +kernel
theorem dX9_init_12 : decode cX9_init 12 = .ok (.putfield 10, 3) := by decide +kernel
theorem dX9_init_15 : decode cX9_init 15 = .ok (.aload_n 0, 1) := by decide +kernel
theorem dX9_init_16 : decode cX9_init 16 = .ok (.new 7, 3) := by decide +kernel
theorem dX9_init_19 : decode cX9_init 19 = .ok (.dup, 1) := by decide +kernel
theorem dX9_init_20 : decode cX9_init 20 = .ok (.invokespecial 9, 3) := by decide +kernel
theorem dX9_init_23 : decode cX9_init 23 = .ok (.putfield 16, 3) := by decide +kernel
theorem dX9_init_26 : decode cX9_init 26 = .ok (.aload_n 0, 1) := by decide +kernel
theorem dX9_init_27 : decode cX9_init 27 = .ok (.new 7, 3) := by decide +kernel
theorem dX9_init_30 : decode cX9_init 30 = .ok (.dup, 1) := by decide +kernel
theorem dX9_init_31 : decode cX9_init 31 = .ok (.invokespecial 9, 3) := by decide +kernel
theorem dX9_init_34 : decode cX9_init 34 = .ok (.putfield 19, 3) := by decide +kernel
theorem dX9_init_37 : decode cX9_init 37 = .ok (.aload_n 0, 1) := by decide +kernel
theorem dX9_init_38 : decode cX9_init 38 = .ok (.new 7, 3) := by decide +kernel
theorem dX9_init_41 : decode cX9_init 41 = .ok (.dup, 1) := by decide +kernel
theorem dX9_init_42 : decode cX9_init 42 = .ok (.invokespecial 9, 3) := by decide +kernel
theorem dX9_init_45 : decode cX9_init 45 = .ok (.putfield 22, 3) := by decide +kernel
theorem dX9_init_48 : decode cX9_init 48 = .ok (.return_, 1) := by decide +kernel
theorem dX9_isLooked_0 : decode cX9_isLooked 0 = .ok (.aload_n 0, 1) := by decide +kernel
theorem dX9_isLooked_1 : decode cX9_isLooked 1 = .ok (.getfield 10, 3) := by decide +kernel
theorem dX9_isLooked_4 : decode cX9_isLooked 4 = .ok (.iload_n 1, 1) := by decide +kernel
theorem dX9_isLooked_5 : decode cX9_isLooked 5 = .ok (.invokevirtual 65, 3) := by decide +kernel
theorem dX9_isLooked_8 : decode cX9_isLooked 8 = .ok (.checkcast 51, 3) := by decide +kernel
theorem dX9_isLooked_11 : decode cX9_isLooked 11 = .ok (.getfield 174, 3) := by decide +kernel
theorem dX9_isLooked_14 : decode cX9_isLooked 14 = .ok (.istore_n 2, 1) := by decide +kernel
theorem dX9_isLooked_15 : decode cX9_isLooked 15 = .ok (.aload_n 0, 1) := by decide +kernel
theorem dX9_isLooked_16 : decode cX9_isLooked 16 = .ok (.getfield 10, 3) := by decide +kernel
theorem dX9_isLooked_19 : decode cX9_isLooked 19 = .ok (.invokevirtual 37, 3) := by decide +kernel
theorem dX9_isLooked_22 : decode cX9_isLooked 22 = .ok (.astore_n 3, 1) := by decide +kernel
theorem dX9_isLooked_23 : decode cX9_isLooked 23 = .ok (.aload_n 3, 1) := by decide +kernel
theorem dX9_isLooked_24 : decode cX9_isLooked 24 = .ok (.invokeinterface 41 1, 5) := by decide +kernel
theorem dX9_isLooked_29 : decode cX9_isLooked 29 = .ok (.ifCond .eq 36, 3) := by decide +kernel
theorem dX9_isLooked_32 : decode cX9_isLooked 32 = .ok (.aload_n 3, 1) := by decide +kernel
theorem dX9_isLooked_33 : decode cX9_isLooked 33 = .ok (.invokeinterface 47 1, 5) := by decide +kernel
theorem dX9_isLooked_38 : decode cX9_isLooked 38 = .ok (.checkcast 51, 3) := by decide +kernel
theorem dX9_isLooked_41 : decode cX9_isLooked 41 = .ok (.astore 4, 2) := by decide +kernel
theorem dX9_isLooked_43 : decode cX9_isLooked 43 = .ok (.iload_n 2, 1) := by decide +kernel
theorem dX9_isLooked_44 : decode cX9_isLooked 44 = .ok (.ifCond .ne 12, 3) := by decide +kernel
theorem dX9_isLooked_47 : decode cX9_isLooked 47 = .ok (.aload 4, 2) := by decide +kernel
theorem dX9_isLooked_49 : decode cX9_isLooked 49 = .ok (.getfield 171, 3) := by decide +kernel
theorem dX9_isLooked_52 : decode cX9_isLooked 52 = .ok (.iload_n 1, 1) := by decide +kernel
theorem dX9_isLooked_53 : decode cX9_isLooked 53 = .ok (.if_icmp .ne 7, 3) := by decide +kernel
theorem dX9_isLooked_60 : decode cX9_isLooked 60 = .ok (.iconst 0, 1) := by decide +kernel
theorem dX9_isLooked_61 : decode cX9_isLooked 61 = .ok (.istore_n 2, 1) := by decide +kernel
theorem dX9_isLooked_62 : decode cX9_isLooked 62 = .ok (.goto (-39), 3) := by decide +kernel
theorem dX9_isLooked_65 : decode cX9_isLooked 65 = .ok (.iload_n 2, 1) := by decide +kernel
theorem dX9_isLooked_66 : decode cX9_isLooked 66 = .ok (.ireturn, 1) := by decide +kernel
theorem dX9_putInOrder_0 : decode cX9_putInOrder 0 = .ok (.bipush 40, 2) := by decide +kernel
theorem dX9_putInOrder_2 : decode cX9_putInOrder 2 = .ok (.newarray .boolean, 2) := by decide +kernel
theorem dX9_putInOrder_4 : decode cX9_putInOrder 4 = .ok (.astore_n 1, 1) := by decide +kernel
theorem dX9_putInOrder_5 : decode cX9_putInOrder 5 = .ok (.aload_n 0, 1) := by decide +kernel
theorem dX9_putInOrder_6 : decode cX9_putInOrder 6 = .ok (.getfield 22, 3) := by decide +kernel
theorem dX9_putInOrder_9 : decode cX9_putInOrder 9 = .ok (.invokevirtual 93, 3) := by decide +kernel
theorem dX9_putInOrder_12 : decode cX9_putInOrder 12 = .ok (.aload_n 0, 1) := by decide +kernel
theorem dX9_putInOrder_13 : decode cX9_putInOrder 13 = .ok (.getfield 22, 3) := by decide +kernel
theorem dX9_putInOrder_16 : decode cX9_putInOrder 16 = .ok (.invokevirtual 29, 3) := by decide +kernel
theorem dX9_putInOrder_19 : decode cX9_putInOrder 19 = .ok (.aload_n 0, 1) := by decide +kernel
theorem dX9_putInOrder_20 : decode cX9_putInOrder 20 = .ok (.getfield 10, 3) := by decide +kernel
theorem dX9_putInOrder_23 : decode cX9_putInOrder 23 = .ok (.invokevirtual 29, 3) := by decide +kernel
theorem dX9_putInOrder_26 : decode cX9_putInOrder 26 = .ok (.if_icmp .ge 139, 3) := by decide +kernel
theorem dX9_putInOrder_29 : decode cX9_putInOrder 29 = .ok (.iconst 0, 1) := by decide +kernel
theorem dX9_putInOrder_30 : decode cX9_putInOrder 30 = .ok (.istore_n 2, 1) := by decide +kernel
theorem dX9_putInOrder_31 : decode cX9_putInOrder 31 = .ok (.iload_n 2, 1) := by decide +kernel
theorem dX9_putInOrder_32 : decode cX9_putInOrder 32 = .ok (.aload_n 0, 1) := by decide +kernel
theorem dX9_putInOrder_33 : decode cX9_putInOrder 33 = .ok (.getfield 10, 3) := by decide +kernel
theorem dX9_putInOrder_36 : decode cX9_putInOrder 36 = .ok (.invokevirtual 29, 3) := by decide +kernel
theorem dX9_putInOrder_39 : decode cX9_putInOrder 39 = .ok (.if_icmp .ge 123, 3) := by decide +kernel
theorem dX9_putInOrder_42 : decode cX9_putInOrder 42 = .ok (.aload_n 1, 1) := by decide +kernel
theorem dX9_putInOrder_43 : decode cX9_putInOrder 43 = .ok (.iload_n 2, 1) := by decide +kernel
theorem dX9_putInOrder_44 : decode cX9_putInOrder 44 = .ok (.baload, 1) := by decide +kernel
theorem dX9_putInOrder_45 : decode cX9_putInOrder 45 = .ok (.ifCond .ne 7, 3) := by decide +kernel
theorem dX9_putInOrder_48 : decode cX9_putInOrder 48 = .ok (.iconst 1, 1) := by decide +kernel
theorem dX9_putInOrder_49 : decode cX9_putInOrder 49 = .ok (.goto 4, 3) := by decide +kernel
theorem dX9_putInOrder_53 : decode cX9_putInOrder 53 = .ok (.istore_n 3, 1) := by decide +kernel
theorem dX9_putInOrder_54 : decode cX9_putInOrder 54 = .ok (.aload_n 0, 1) := by decide +kernel
theorem dX9_putInOrder_55 : decode cX9_putInOrder 55 = .ok (.getfield 16, 3) := by decide +kernel
theorem dX9_putInOrder_58 : decode cX9_putInOrder 58 = .ok (.invokevirtual 37, 3) := by decide +kernel
theorem dX9_putInOrder_61 : decode cX9_putInOrder 61 = .ok (.astore 4, 2) := by decide +kernel
theorem dX9_putInOrder_63 : decode cX9_putInOrder 63 = .ok (.aload 4, 2) := by decide +kernel
theorem dX9_putInOrder_65 : decode cX9_putInOrder 65 = .ok (.invokeinterface 41 1, 5) := by decide +kernel
theorem dX9_putInOrder_70 : decode cX9_putInOrder 70 = .ok (.ifCond .eq 66, 3) := by decide +kernel
theorem dX9_putInOrder_136 : decode cX9_putInOrder 136 = .ok (.iload_n 3, 1) := by decide +kernel
theorem dX9_putInOrder_137 : decode cX9_putInOrder 137 = .ok (.ifCond .eq 19, 3) := by decide +kernel
theorem dX9_putInOrder_140 : decode cX9_putInOrder 140 = .ok (.aload_n 1, 1) := by decide +kernel
theorem dX9_putInOrder_141 : decode cX9_putInOrder 141 = .ok (.iload_n 2, 1) := by decide +kernel
theorem dX9_putInOrder_142 : decode cX9_putInOrder 142 = .ok (.iconst 1, 1) := by decide +kernel
theorem dX9_putInOrder_143 : decode cX9_putInOrder 143 = .ok (.bastore, 1) := by decide +kernel
theorem dX9_putInOrder_144 : decode cX9_putInOrder 144 = .ok (.aload_n 0, 1) := by decide +kernel
theorem dX9_putInOrder_145 : decode cX9_putInOrder 145 = .ok (.getfield 22, 3) := by decide +kernel
theorem dX9_putInOrder_148 : decode cX9_putInOrder 148 = .ok (.iload_n 2, 1) := by decide +kernel
theorem dX9_putInOrder_149 : decode cX9_putInOrder 149 = .ok (.invokestatic 96, 3) := by decide +kernel
theorem dX9_putInOrder_152 : decode cX9_putInOrder 152 = .ok (.invokevirtual 100, 3) := by decide +kernel
theorem dX9_putInOrder_155 : decode cX9_putInOrder 155 = .ok (.pop, 1) := by decide +kernel
theorem dX9_putInOrder_156 : decode cX9_putInOrder 156 = .ok (.iinc 2 1, 3) := by decide +kernel
theorem dX9_putInOrder_159 : decode cX9_putInOrder 159 = .ok (.goto (-128), 3) := by decide +kernel
theorem dX9_putInOrder_162 : decode cX9_putInOrder 162 = .ok (.goto (-150), 3) := by decide +kernel
theorem dX9_putInOrder_165 : decode cX9_putInOrder 165 = .ok (.return_, 1) := by decide +kernel
theorem dX9_restart_0 : decode cX9_restart 0 = .ok (.aload_n 0, 1) := by decide +kernel
theorem dX9_restart_1 : decode cX9_restart 1 = .ok (.iconst 0, 1) := by decide +kernel
theorem dX9_restart_2 : decode cX9_restart 2 = .ok (.putfield 107, 3) := by decide +kernel
theorem dX9_restart_5 : decode cX9_restart 5 = .ok (.aload_n 0, 1) := by decide +kernel
theorem dX9_restart_6 : decode cX9_restart 6 = .ok (.invokevirtual 110, 3) := by decide +kernel
theorem dX9_restart_9 : decode cX9_restart 9 = .ok (.aload_n 0, 1) := by decide +kernel
theorem dX9_restart_10 : decode cX9_restart 10 = .ok (.getfield 10, 3) := by decide +kernel
theorem dX9_restart_13 : decode cX9_restart 13 = .ok (.invokevirtual 37, 3) := by decide +kernel
theorem dX9_restart_16 : decode cX9_restart 16 = .ok (.astore_n 1, 1) := by decide +kernel
theorem dX9_restart_17 : decode cX9_restart 17 = .ok (.aload_n 1, 1) := by decide +kernel
theorem dX9_restart_18 : decode cX9_restart 18 = .ok (.invokeinterface 41 1, 5) := by decide +kernel
theorem dX9_restart_23 : decode cX9_restart 23 = .ok (.ifCond .eq 32, 3) := by decide +kernel
theorem dX9_restart_26 : decode cX9_restart 26 = .ok (.aload_n 1, 1) := by decide +kernel
theorem dX9_restart_27 : decode cX9_restart 27 = .ok (.invokeinterface 47 1, 5) := by decide +kernel
theorem dX9_restart_32 : decode cX9_restart 32 = .ok (.checkcast 51, 3) := by decide +kernel
theorem dX9_restart_35 : decode cX9_restart 35 = .ok (.astore_n 2, 1) := by decide +kernel
theorem dX9_restart_36 : decode cX9_restart 36 = .ok (.aload_n 2, 1) := by decide +kernel
theorem dX9_restart_37 : decode cX9_restart 37 = .ok (.bipush 120, 2) := by decide +kernel
theorem dX9_restart_39 : decode cX9_restart 39 = .ok (.putfield 104, 3) := by decide +kernel
theorem dX9_restart_42 : decode cX9_restart 42 = .ok (.aload_n 2, 1) := by decide +kernel
theorem dX9_restart_43 : decode cX9_restart 43 = .ok (.iconst 0, 1) := by decide +kernel
theorem dX9_restart_44 : decode cX9_restart 44 = .ok (.putfield 113, 3) := by decide +kernel
theorem dX9_restart_47 : decode cX9_restart 47 = .ok (.aload_n 2, 1) := by decide +kernel
theorem dX9_restart_48 : decode cX9_restart 48 = .ok (.iconst (-1), 1) := by decide +kernel
theorem dX9_restart_49 : decode cX9_restart 49 = .ok (.putfield 116, 3) := by decide +kernel
theorem dX9_restart_52 : decode cX9_restart 52 = .ok (.goto (-35), 3) := by decide +kernel
theorem dX9_restart_55 : decode cX9_restart 55 = .ok (.aload_n 0, 1) := by decide +kernel
theorem dX9_restart_56 : decode cX9_restart 56 = .ok (.aload_n 0, 1) := by decide +kernel
theorem dX9_restart_57 : decode cX9_restart 57 = .ok (.invokevirtual 119, 3) := by decide +kernel
theorem dX9_restart_60 : decode cX9_restart 60 = .ok (.iconst (-1), 1) := by decide +kernel
theorem dX9_restart_61 : decode cX9_restart 61 = .ok (.bipush 120, 2) := by decide +kernel
theorem dX9_restart_63 : decode cX9_restart 63 = .ok (.invokevirtual 123, 3) := by decide +kernel
theorem dX9_restart_66 : decode cX9_restart 66 = .ok (.astore_n 1, 1) := by decide +kernel
theorem dX9_restart_67 : decode cX9_restart 67 = .ok (.iconst 0, 1) := by decide +kernel
theorem dX9_restart_68 : decode cX9_restart 68 = .ok (.istore_n 2, 1) := by decide +kernel
theorem dX9_restart_69 : decode cX9_restart 69 = .ok (.iload_n 2, 1) := by decide +kernel
theorem dX9_restart_70 : decode cX9_restart 70 = .ok (.aload_n 0, 1) := by decide +kernel
theorem dX9_restart_71 : decode cX9_restart 71 = .ok (.getfield 10, 3) := by decide +kernel
theorem dX9_restart_74 : decode cX9_restart 74 = .ok (.invokevirtual 29, 3) := by decide +kernel
theorem dX9_restart_77 : decode cX9_restart 77 = .ok (.if_icmp .ge 26, 3) := by decide +kernel
theorem dX9_restart_80 : decode cX9_restart 80 = .ok (.aload_n 0, 1) := by decide +kernel
theorem dX9_restart_81 : decode cX9_restart 81 = .ok (.getfield 10, 3) := by decide +kernel
theorem dX9_restart_84 : decode cX9_restart 84 = .ok (.iload_n 2, 1) := by decide +kernel
theorem dX9_restart_85 : decode cX9_restart 85 = .ok (.invokevirtual 65, 3) := by decide +kernel
theorem dX9_restart_88 : decode cX9_restart 88 = .ok (.checkcast 51, 3) := by decide +kernel
theorem dX9_restart_91 : decode cX9_restart 91 = .ok (.aload_n 1, 1) := by decide +kernel
theorem dX9_restart_92 : decode cX9_restart 92 = .ok (.iload_n 2, 1) := by decide +kernel
theorem dX9_restart_93 : decode cX9_restart 93 = .ok (.caload, 1) := by decide +kernel
theorem dX9_restart_94 : decode cX9_restart 94 = .ok (.putfield 104, 3) := by decide +kernel
theorem dX9_restart_97 : decode cX9_restart 97 = .ok (.iinc 2 1, 3) := by decide +kernel
theorem dX9_restart_100 : decode cX9_restart 100 = .ok (.goto (-31), 3) := by decide +kernel
theorem dX9_restart_103 : decode cX9_restart 103 = .ok (.aload_n 0, 1) := by decide +kernel
theorem dX9_restart_104 : decode cX9_restart 104 = .ok (.getfield 16, 3) := by decide +kernel
theorem dX9_restart_107 : decode cX9_restart 107 = .ok (.invokevirtual 37, 3) := by decide +kernel
theorem dX9_restart_110 : decode cX9_restart 110 = .ok (.astore_n 2, 1) := by decide +kernel
theorem dX9_restart_111 : decode cX9_restart 111 = .ok (.aload_n 2, 1) := by decide +kernel
theorem dX9_restart_112 : decode cX9_restart 112 = .ok (.invokeinterface 41 1, 5) := by decide +kernel
theorem dX9_restart_117 : decode cX9_restart 117 = .ok (.ifCond .eq 30, 3) := by decide +kernel
theorem dX9_restart_147 : decode cX9_restart 147 = .ok (.return_, 1) := by decide +kernel
theorem dX9_rows_0 : decode cX9_rows 0 = .ok (.iconst 1, 1) := by decide +kernel
theorem dX9_rows_1 : decode cX9_rows 1 = .ok (.aload_n 0, 1) := by decide +kernel
theorem dX9_rows_2 : decode cX9_rows 2 = .ok (.invokevirtual 140, 3) := by decide +kernel
theorem dX9_rows_5 : decode cX9_rows 5 = .ok (.ishl, 1) := by decide +kernel
theorem dX9_rows_6 : decode cX9_rows 6 = .ok (.ireturn, 1) := by decide +kernel
theorem dX9_settledAll_0 : decode cX9_settledAll 0 = .ok (.bipush 40, 2) := by decide +kernel
theorem dX9_settledAll_2 : decode cX9_settledAll 2 = .ok (.newarray .char, 2) := by decide +kernel
theorem dX9_settledAll_4 : decode cX9_settledAll 4 = .ok (.astore 4, 2) := by decide +kernel
theorem dX9_settledAll_6 : decode cX9_settledAll 6 = .ok (.aload_n 0, 1) := by decide +kernel
theorem dX9_settledAll_7 : decode cX9_settledAll 7 = .ok (.getfield 22, 3) := by decide +kernel
theorem dX9_settledAll_10 : decode cX9_settledAll 10 = .ok (.invokevirtual 37, 3) := by decide +kernel
theorem dX9_settledAll_13 : decode cX9_settledAll 13 = .ok (.astore 5, 2) := by decide +kernel
theorem dX9_settledAll_15 : decode cX9_settledAll 15 = .ok (.aload 5, 2) := by decide +kernel
theorem dX9_settledAll_17 : decode cX9_settledAll 17 = .ok (.invokeinterface 41 1, 5) := by decide +kernel
theorem dX9_settledAll_22 : decode cX9_settledAll 22 = .ok (.ifCond .eq 199, 3) := by decide +kernel
theorem dX9_settledAll_25 : decode cX9_settledAll 25 = .ok (.aload 5, 2) := by decide +kernel
theorem dX9_settledAll_27 : decode cX9_settledAll 27 = .ok (.invokeinterface 47 1, 5) := by decide +kernel
theorem dX9_settledAll_32 : decode cX9_settledAll 32 = .ok (.checkcast 60, 3) := by decide +kernel
theorem dX9_settledAll_35 : decode cX9_settledAll 35 = .ok (.invokevirtual 62, 3) := by decide +kernel
theorem dX9_settledAll_38 : decode cX9_settledAll 38 = .ok (.istore 6, 2) := by decide +kernel
theorem dX9_settledAll_40 : decode cX9_settledAll 40 = .ok (.aload_n 0, 1) := by decide +kernel
theorem dX9_settledAll_41 : decode cX9_settledAll 41 = .ok (.getfield 10, 3) := by decide +kernel
theorem dX9_settledAll_44 : decode cX9_settledAll 44 = .ok (.iload 6, 2) := by decide +kernel
theorem dX9_settledAll_46 : decode cX9_settledAll 46 = .ok (.invokevirtual 65, 3) := by decide +kernel
theorem dX9_settledAll_49 : decode cX9_settledAll 49 = .ok (.checkcast 51, 3) := by decide +kernel
theorem dX9_settledAll_52 : decode cX9_settledAll 52 = .ok (.getfield 69, 3) := by decide +kernel
theorem dX9_settledAll_55 : decode cX9_settledAll 55 = .ok (.bipush 98, 2) := by decide +kernel
theorem dX9_settledAll_57 : decode cX9_settledAll 57 = .ok (.if_icmp .ne 7, 3) := by decide +kernel
theorem dX9_settledAll_64 : decode cX9_settledAll 64 = .ok (.iconst 0, 1) := by decide +kernel
theorem dX9_settledAll_65 : decode cX9_settledAll 65 = .ok (.istore 7, 2) := by decide +kernel
theorem dX9_settledAll_67 : decode cX9_settledAll 67 = .ok (.aload 4, 2) := by decide +kernel
theorem dX9_settledAll_69 : decode cX9_settledAll 69 = .ok (.iload 6, 2) := by decide +kernel
theorem dX9_settledAll_71 : decode cX9_settledAll 71 = .ok (.iload 7, 2) := by decide +kernel
theorem dX9_settledAll_73 : decode cX9_settledAll 73 = .ok (.ifCond .eq 8, 3) := by decide +kernel
theorem dX9_settledAll_81 : decode cX9_settledAll 81 = .ok (.aload_n 1, 1) := by decide +kernel
theorem dX9_settledAll_82 : decode cX9_settledAll 82 = .ok (.iload 6, 2) := by decide +kernel
theorem dX9_settledAll_84 : decode cX9_settledAll 84 = .ok (.caload, 1) := by decide +kernel
theorem dX9_settledAll_85 : decode cX9_settledAll 85 = .ok (.castore, 1) := by decide +kernel
theorem dX9_settledAll_86 : decode cX9_settledAll 86 = .ok (.aload_n 0, 1) := by decide +kernel
theorem dX9_settledAll_87 : decode cX9_settledAll 87 = .ok (.getfield 16, 3) := by decide +kernel
theorem dX9_settledAll_90 : decode cX9_settledAll 90 = .ok (.invokevirtual 37, 3) := by decide +kernel
theorem dX9_settledAll_93 : decode cX9_settledAll 93 = .ok (.astore 8, 2) := by decide +kernel
theorem dX9_settledAll_95 : decode cX9_settledAll 95 = .ok (.aload 8, 2) := by decide +kernel
theorem dX9_settledAll_97 : decode cX9_settledAll 97 = .ok (.invokeinterface 41 1, 5) := by decide +kernel
theorem dX9_settledAll_102 : decode cX9_settledAll 102 = .ok (.ifCond .eq 96, 3) := by decide +kernel
theorem dX9_settledAll_198 : decode cX9_settledAll 198 = .ok (.aload 4, 2) := by decide +kernel
theorem dX9_settledAll_200 : decode cX9_settledAll 200 = .ok (.iload 6, 2) := by decide +kernel
theorem dX9_settledAll_202 : decode cX9_settledAll 202 = .ok (.iload 6, 2) := by decide +kernel
theorem dX9_settledAll_204 : decode cX9_settledAll 204 = .ok (.iload_n 2, 1) := by decide +kernel
theorem dX9_settledAll_205 : decode cX9_settledAll 205 = .ok (.if_icmp .ne 7, 3) := by decide +kernel
theorem dX9_settledAll_208 : decode cX9_settledAll 208 = .ok (.iload_n 3, 1) := by decide +kernel
theorem dX9_settledAll_209 : decode cX9_settledAll 209 = .ok (.goto 8, 3) := by decide +kernel
theorem dX9_settledAll_212 : decode cX9_settledAll 212 = .ok (.aload 4, 2) := by decide +kernel
theorem dX9_settledAll_214 : decode cX9_settledAll 214 = .ok (.iload 6, 2) := by decide +kernel
theorem dX9_settledAll_216 : decode cX9_settledAll 216 = .ok (.caload, 1) := by decide +kernel
theorem dX9_settledAll_217 : decode cX9_settledAll 217 = .ok (.castore, 1) := by decide +kernel
theorem dX9_settledAll_218 : decode cX9_settledAll 218 = .ok (.goto (-203), 3) := by decide +kernel
theorem dX9_settledAll_221 : decode cX9_settledAll 221 = .ok (.aload 4, 2) := by decide +kernel
theorem dX9_settledAll_223 : decode cX9_settledAll 223 = .ok (.areturn, 1) := by decide +kernel
theorem dX9_shown_0 : decode cX9_shown 0 = .ok (.aload_n 0, 1) := by decide +kernel
theorem dX9_shown_1 : decode cX9_shown 1 = .ok (.iconst 0, 1) := by decide +kernel
theorem dX9_shown_2 : decode cX9_shown 2 = .ok (.putfield 25, 3) := by decide +kernel
theorem dX9_shown_5 : decode cX9_shown 5 = .ok (.iconst 0, 1) := by decide +kernel
theorem dX9_shown_6 : decode cX9_shown 6 = .ok (.istore_n 1, 1) := by decide +kernel
theorem dX9_shown_7 : decode cX9_shown 7 = .ok (.iconst 0, 1) := by decide +kernel
theorem dX9_shown_8 : decode cX9_shown 8 = .ok (.istore_n 2, 1) := by decide +kernel
theorem dX9_shown_9 : decode cX9_shown 9 = .ok (.iload_n 2, 1) := by decide +kernel
theorem dX9_shown_10 : decode cX9_shown 10 = .ok (.aload_n 0, 1) := by decide +kernel
theorem dX9_shown_11 : decode cX9_shown 11 = .ok (.getfield 10, 3) := by decide +kernel
theorem dX9_shown_14 : decode cX9_shown 14 = .ok (.invokevirtual 29, 3) := by decide +kernel
theorem dX9_shown_17 : decode cX9_shown 17 = .ok (.if_icmp .ge 102, 3) := by decide +kernel
theorem dX9_shown_20 : decode cX9_shown 20 = .ok (.bipush 48, 2) := by decide +kernel
theorem dX9_shown_22 : decode cX9_shown 22 = .ok (.istore_n 3, 1) := by decide +kernel
theorem dX9_shown_23 : decode cX9_shown 23 = .ok (.iload_n 3, 1) := by decide +kernel
theorem dX9_shown_24 : decode cX9_shown 24 = .ok (.bipush 49, 2) := by decide +kernel
theorem dX9_shown_26 : decode cX9_shown 26 = .ok (.if_icmp .gt 87, 3) := by decide +kernel
theorem dX9_shown_29 : decode cX9_shown 29 = .ok (.iconst 0, 1) := by decide +kernel
theorem dX9_shown_30 : decode cX9_shown 30 = .ok (.istore 4, 2) := by decide +kernel
theorem dX9_shown_32 : decode cX9_shown 32 = .ok (.aload_n 0, 1) := by decide +kernel
theorem dX9_shown_33 : decode cX9_shown 33 = .ok (.getfield 19, 3) := by decide +kernel
theorem dX9_shown_36 : decode cX9_shown 36 = .ok (.invokevirtual 37, 3) := by decide +kernel
theorem dX9_shown_39 : decode cX9_shown 39 = .ok (.astore 5, 2) := by decide +kernel
theorem dX9_shown_41 : decode cX9_shown 41 = .ok (.aload 5, 2) := by decide +kernel
theorem dX9_shown_43 : decode cX9_shown 43 = .ok (.invokeinterface 41 1, 5) := by decide +kernel
theorem dX9_shown_48 : decode cX9_shown 48 = .ok (.ifCond .eq 44, 3) := by decide +kernel
theorem dX9_shown_51 : decode cX9_shown 51 = .ok (.aload 5, 2) := by decide +kernel
theorem dX9_shown_53 : decode cX9_shown 53 = .ok (.invokeinterface 47 1, 5) := by decide +kernel
theorem dX9_shown_58 : decode cX9_shown 58 = .ok (.checkcast 60, 3) := by decide +kernel
theorem dX9_shown_61 : decode cX9_shown 61 = .ok (.invokevirtual 62, 3) := by decide +kernel
theorem dX9_shown_64 : decode cX9_shown 64 = .ok (.istore 6, 2) := by decide +kernel
theorem dX9_shown_66 : decode cX9_shown 66 = .ok (.iload 4, 2) := by decide +kernel
theorem dX9_shown_68 : decode cX9_shown 68 = .ok (.ifCond .ne 14, 3) := by decide +kernel
theorem dX9_shown_71 : decode cX9_shown 71 = .ok (.aload_n 0, 1) := by decide +kernel
theorem dX9_shown_72 : decode cX9_shown 72 = .ok (.iload_n 2, 1) := by decide +kernel
theorem dX9_shown_73 : decode cX9_shown 73 = .ok (.iload_n 3, 1) := by decide +kernel
theorem dX9_shown_74 : decode cX9_shown 74 = .ok (.iload 6, 2) := by decide +kernel
theorem dX9_shown_76 : decode cX9_shown 76 = .ok (.invokevirtual 254, 3) := by decide +kernel
theorem dX9_shown_79 : decode cX9_shown 79 = .ok (.ifCond .eq 7, 3) := by decide +kernel
theorem dX9_shown_86 : decode cX9_shown 86 = .ok (.iconst 0, 1) := by decide +kernel
theorem dX9_shown_87 : decode cX9_shown 87 = .ok (.istore 4, 2) := by decide +kernel
theorem dX9_shown_89 : decode cX9_shown 89 = .ok (.goto (-48), 3) := by decide +kernel
theorem dX9_shown_92 : decode cX9_shown 92 = .ok (.iload_n 1, 1) := by decide +kernel
theorem dX9_shown_93 : decode cX9_shown 93 = .ok (.iload 4, 2) := by decide +kernel
theorem dX9_shown_95 : decode cX9_shown 95 = .ok (.ifCond .eq 7, 3) := by decide +kernel
theorem dX9_shown_102 : decode cX9_shown 102 = .ok (.iconst 0, 1) := by decide +kernel
theorem dX9_shown_103 : decode cX9_shown 103 = .ok (.iadd, 1) := by decide +kernel
theorem dX9_shown_104 : decode cX9_shown 104 = .ok (.istore_n 1, 1) := by decide +kernel
theorem dX9_shown_105 : decode cX9_shown 105 = .ok (.iload_n 3, 1) := by decide +kernel
theorem dX9_shown_106 : decode cX9_shown 106 = .ok (.iconst 1, 1) := by decide +kernel
theorem dX9_shown_107 : decode cX9_shown 107 = .ok (.iadd, 1) := by decide +kernel

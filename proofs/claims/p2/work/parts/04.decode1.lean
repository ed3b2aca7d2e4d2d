theorem dX9_add_16 : decode cX9_add 16 = .ok (.aload_n 0, 1) := by decide +kernel
theorem dX9_add_17 : decode cX9_add 17 = .ok (.getfield 10, 3) := by decide +kernel
theorem dX9_add_20 : decode cX9_add 20 = .ok (.invokevirtual 29, 3) := by decide +kernel
theorem dX9_add_23 : decode cX9_add 23 = .ok (.iconst 1, 1) := by decide +kernel
theorem dX9_add_24 : decode cX9_add 24 = .ok (.isub, 1) := by decide +kernel
theorem dX9_add_25 : decode cX9_add 25 = .ok (.ireturn, 1) := by decide +kernel
theorem dX9_addBus_0 : decode cX9_addBus 0 = .ok (.aload_n 0, 1) := by decide +kernel
theorem dX9_addBus_1 : decode cX9_addBus 1 = .ok (.iconst 0, 1) := by decide +kernel
theorem dX9_addBus_2 : decode cX9_addBus 2 = .ok (.putfield 25, 3) := by decide +kernel
theorem dX9_addBus_5 : decode cX9_addBus 5 = .ok (.aload_n 0, 1) := by decide +kernel
theorem dX9_addBus_6 : decode cX9_addBus 6 = .ok (.aload_n 0, 1) := by decide +kernel
theorem dX9_addBus_7 : decode cX9_addBus 7 = .ok (.getfield 10, 3) := by decide +kernel
theorem dX9_addBus_10 : decode cX9_addBus 10 = .ok (.invokevirtual 29, 3) := by decide +kernel
theorem dX9_addBus_13 : decode cX9_addBus 13 = .ok (.bipush 40, 2) := by decide +kernel
theorem dX9_addBus_15 : decode cX9_addBus 15 = .ok (.if_icmp .ne 7, 3) := by decide +kernel
theorem dX9_addBus_22 : decode cX9_addBus 22 = .ok (.iconst 0, 1) := by decide +kernel
theorem dX9_addBus_23 : decode cX9_addBus 23 = .ok (.iconst 1, 1) := by decide +kernel
theorem dX9_addBus_24 : decode cX9_addBus 24 = .ok (.invokevirtual 143, 3) := by decide +kernel
theorem dX9_addBus_27 : decode cX9_addBus 27 = .ok (.ifCond .eq 5, 3) := by decide +kernel
theorem dX9_addBus_32 : decode cX9_addBus 32 = .ok (.aload_n 0, 1) := by decide +kernel
theorem dX9_addBus_33 : decode cX9_addBus 33 = .ok (.bipush 98, 2) := by decide +kernel
theorem dX9_addBus_35 : decode cX9_addBus 35 = .ok (.invokevirtual 147, 3) := by decide +kernel
theorem dX9_addBus_38 : decode cX9_addBus 38 = .ok (.istore_n 1, 1) := by decide +kernel
theorem dX9_addBus_39 : decode cX9_addBus 39 = .ok (.aload_n 0, 1) := by decide +kernel
theorem dX9_addBus_40 : decode cX9_addBus 40 = .ok (.invokevirtual 150, 3) := by decide +kernel
theorem dX9_addBus_43 : decode cX9_addBus 43 = .ok (.iload_n 1, 1) := by decide +kernel
theorem dX9_addBus_44 : decode cX9_addBus 44 = .ok (.ireturn, 1) := by decide +kernel
theorem dX9_fails_0 : decode cX9_fails 0 = .ok (.iload_n 1, 1) := by decide +kernel
theorem dX9_fails_1 : decode cX9_fails 1 = .ok (.ifCond .eq 15, 3) := by decide +kernel
theorem dX9_fails_16 : decode cX9_fails 16 = .ok (.aload_n 0, 1) := by decide +kernel
theorem dX9_fails_17 : decode cX9_fails 17 = .ok (.getfield 25, 3) := by decide +kernel
theorem dX9_fails_20 : decode cX9_fails 20 = .ok (.ifCond .eq 7, 3) := by decide +kernel
theorem dX9_fails_27 : decode cX9_fails 27 = .ok (.iconst 0, 1) := by decide +kernel
theorem dX9_fails_28 : decode cX9_fails 28 = .ok (.ireturn, 1) := by decide +kernel
theorem dX9_init_0 : decode cX9_init 0 = .ok (.aload_n 0, 1) := by decide +kernel
theorem dX9_init_1 : decode cX9_init 1 = .ok (.invokespecial 1, 3) := by decide +kernel
theorem dX9_init_4 : decode cX9_init 4 = .ok (.aload_n 0, 1) := by decide +kernel
theorem dX9_init_5 : decode cX9_init 5 = .ok (.new 7, 3) := by decide +kernel
theorem dX9_init_8 : decode cX9_init 8 = .ok (.dup, 1) := by decide +kernel
theorem dX9_init_9 : decode cX9_init 9 = .ok (.invokespecial 9, 3) := by decide +kernel
theorem dX9_init_12 : decode cX9_init 12 = .ok (.putfield 10, 3) := by decide +kernel
theorem dX9_init_15 : decode cX9_init 15 = .ok (.aload_n 0, 1) := by decide +kernel
theorem dX9_init_16 : decode cX9_init 16 = .ok (.new 7, 3) := by decide +kernel
theorem dX9_init_19 : decode cX9_init 19 = .ok (.dup, 1) := by decide +kernel
theorem dX9_init_20 : decode cX9_init 20 = .ok (.invokespecial 9, 3) := by decide +kernel
theorem dX9_init_23 : decode cX9_init 23 = .ok (.putfield 16, 3) := by decide +kernel
theorem dX9_init_26 : decode cX9_init 26 = .ok (.aload_n 0, 1) := by decide +kernel
theorem dX9_init_27 : decode cX9_init 27 = .ok (.new 7, 3) := by decide +kernel
theorem dX9_init_30 : decode cX9_init 30 = .ok (.dup, 1) := by decide +kernel
theorem dX9_init_31 : decode cX9_init 31 = .ok (.invokespecial 9, 3) := by decide +kernel
theorem dX9_init_34 : decode cX9_init 34 = .ok (.putfield 19, 3) := by decide +kernel
theorem dX9_init_37 : decode cX9_init 37 = .ok (.aload_n 0, 1) := by decide +kernel
theorem dX9_init_38 : decode cX9_init 38 = .ok (.new 7, 3) := by decide +kernel
theorem dX9_init_41 : decode cX9_init 41 = .ok (.dup, 1) := by decide +kernel
theorem dX9_init_42 : decode cX9_init 42 = .ok (.invokespecial 9, 3) := by decide +kernel
theorem dX9_init_45 : decode cX9_init 45 = .ok (.putfield 22, 3) := by decide +kernel
theorem dX9_init_48 : decode cX9_init 48 = .ok (.return_, 1) := by decide +kernel
theorem dX9_putInOrder_0 : decode cX9_putInOrder 0 = .ok (.bipush 40, 2) := by decide +kernel
theorem dX9_putInOrder_2 : decode cX9_putInOrder 2 = .ok (.newarray .boolean, 2) := by decide +kernel
theorem dX9_putInOrder_4 : decode cX9_putInOrder 4 = .ok (.astore_n 1, 1) := by decide +kernel
theorem dX9_putInOrder_5 : decode cX9_putInOrder 5 = .ok (.aload_n 0, 1) := by decide +kernel
theorem dX9_putInOrder_6 : decode cX9_putInOrder 6 = .ok (.getfield 22, 3) := by decide +kernel
theorem dX9_putInOrder_9 : decode cX9_putInOrder 9 = .ok (.invokevirtual 93, 3) := by decide +kernel
theorem dX9_putInOrder_12 : decode cX9_putInOrder 12 = .ok (.aload_n 0, 1) := by decide +kernel
theorem dX9_putInOrder_13 : decode cX9_putInOrder 13 = .ok (.getfield 22, 3) := by decide +kernel
theorem dX9_putInOrder_16 : decode cX9_putInOrder 16 = .ok (.invokevirtual 29, 3) := by decide +kernel
theorem dX9_putInOrder_19 : decode cX9_putInOrder 19 = .ok (.aload_n 0, 1) := by decide +kernel
theorem dX9_putInOrder_20 : decode cX9_putInOrder 20 = .ok (.getfield 10, 3) := by decide +kernel
theorem dX9_putInOrder_23 : decode cX9_putInOrder 23 = .ok (.invokevirtual 29, 3) := by decide +kernel
theorem dX9_putInOrder_26 : decode cX9_putInOrder 26 = .ok (.if_icmp .ge 139, 3) := by decide +kernel
theorem dX9_putInOrder_29 : decode cX9_putInOrder 29 = .ok (.iconst 0, 1) := by decide +kernel
theorem dX9_putInOrder_30 : decode cX9_putInOrder 30 = .ok (.istore_n 2, 1) := by decide +kernel
theorem dX9_putInOrder_31 : decode cX9_putInOrder 31 = .ok (.iload_n 2, 1) := by decide +kernel
theorem dX9_putInOrder_32 : decode cX9_putInOrder 32 = .ok (.aload_n 0, 1) := by decide +kernel
theorem dX9_putInOrder_33 : decode cX9_putInOrder 33 = .ok (.getfield 10, 3) := by decide +kernel
theorem dX9_putInOrder_36 : decode cX9_putInOrder 36 = .ok (.invokevirtual 29, 3) := by decide +kernel
theorem dX9_putInOrder_39 : decode cX9_putInOrder 39 = .ok (.if_icmp .ge 123, 3) := by decide +kernel
theorem dX9_putInOrder_42 : decode cX9_putInOrder 42 = .ok (.aload_n 1, 1) := by decide +kernel
theorem dX9_putInOrder_43 : decode cX9_putInOrder 43 = .ok (.iload_n 2, 1) := by decide +kernel
theorem dX9_putInOrder_44 : decode cX9_putInOrder 44 = .ok (.baload, 1) := by decide +kernel
theorem dX9_putInOrder_45 : decode cX9_putInOrder 45 = .ok (.ifCond .ne 7, 3) := by decide +kernel
theorem dX9_putInOrder_48 : decode cX9_putInOrder 48 = .ok (.iconst 1, 1) := by decide +kernel
theorem dX9_putInOrder_49 : decode cX9_putInOrder 49 = .ok (.goto 4, 3) := by decide +kernel
theorem dX9_putInOrder_53 : decode cX9_putInOrder 53 = .ok (.istore_n 3, 1) := by decide +kernel
theorem dX9_putInOrder_54 : decode cX9_putInOrder 54 = .ok (.aload_n 0, 1) := by decide +kernel
theorem dX9_putInOrder_55 : decode cX9_putInOrder 55 = .ok (.getfield 16, 3) := by decide +kernel
theorem dX9_putInOrder_58 : decode cX9_putInOrder 58 = .ok (.invokevirtual 37, 3) := by decide +kernel
theorem dX9_putInOrder_61 : decode cX9_putInOrder 61 = .ok (.astore 4, 2) := by decide +kernel
theorem dX9_putInOrder_63 : decode cX9_putInOrder 63 = .ok (.aload 4, 2) := by decide +kernel
theorem dX9_putInOrder_65 : decode cX9_putInOrder 65 = .ok (.invokeinterface 41 1, 5) := by decide +kernel
theorem dX9_putInOrder_70 : decode cX9_putInOrder 70 = .ok (.ifCond .eq 66, 3) := by decide +kernel
theorem dX9_putInOrder_136 : decode cX9_putInOrder 136 = .ok (.iload_n 3, 1) := by decide +kernel
theorem dX9_putInOrder_137 : decode cX9_putInOrder 137 = .ok (.ifCond .eq 19, 3) := by decide +kernel
theorem dX9_putInOrder_140 : decode cX9_putInOrder 140 = .ok (.aload_n 1, 1) := by decide +kernel
theorem dX9_putInOrder_141 : decode cX9_putInOrder 141 = .ok (.iload_n 2, 1) := by decide +kernel
theorem dX9_putInOrder_142 : decode cX9_putInOrder 142 = .ok (.iconst 1, 1) := by decide +kernel
theorem dX9_putInOrder_143 : decode cX9_putInOrder 143 = .ok (.bastore, 1) := by decide +kernel
theorem dX9_putInOrder_144 : decode cX9_putInOrder 144 = .ok (.aload_n 0, 1) := by decide +kernel
theorem dX9_putInOrder_145 : decode cX9_putInOrder 145 = .ok (.getfield 22, 3) := by decide +kernel
theorem dX9_putInOrder_148 : decode cX9_putInOrder 148 = .ok (.iload_n 2, 1) := by decide +kernel
theorem dX9_putInOrder_149 : decode cX9_putInOrder 149 = .ok (.invokestatic 96, 3) := by decide +kernel
theorem dX9_putInOrder_152 : decode cX9_putInOrder 152 = .ok (.invokevirtual 100, 3) := by decide +kernel
theorem dX9_putInOrder_155 : decode cX9_putInOrder 155 = .ok (.pop, 1) := by decide +kernel
theorem dX9_putInOrder_156 : decode cX9_putInOrder 156 = .ok (.iinc 2 1, 3) := by decide +kernel
theorem dX9_putInOrder_159 : decode cX9_putInOrder 159 = .ok (.goto (-128), 3) := by decide +kernel
theorem dX9_putInOrder_162 : decode cX9_putInOrder 162 = .ok (.goto (-150), 3) := by decide +kernel
theorem dX9_putInOrder_165 : decode cX9_putInOrder 165 = .ok (.return_, 1) := by decide +kernel
theorem dX9_restart_0 : decode cX9_restart 0 = .ok (.aload_n 0, 1) := by decide +kernel
theorem dX9_restart_1 : decode cX9_restart 1 = .ok (.iconst 0, 1) := by decide +kernel
theorem dX9_restart_2 : decode cX9_restart 2 = .ok (.putfield 107, 3) := by decide +kernel
theorem dX9_restart_5 : decode cX9_restart 5 = .ok (.aload_n 0, 1) := by decide +kernel
theorem dX9_restart_6 : decode cX9_restart 6 = .ok (.invokevirtual 110, 3) := by decide +kernel
theorem dX9_restart_9 : decode cX9_restart 9 = .ok (.aload_n 0, 1) := by decide +kernel
theorem dX9_restart_10 : decode cX9_restart 10 = .ok (.getfield 10, 3) := by decide +kernel
theorem dX9_restart_13 : decode cX9_restart 13 = .ok (.invokevirtual 37, 3) := by decide +kernel
theorem dX9_restart_16 : decode cX9_restart 16 = .ok (.astore_n 1, 1) := by decide +kernel
theorem dX9_restart_17 : decode cX9_restart 17 = .ok (.aload_n 1, 1) := by decide +kernel
theorem dX9_restart_18 : decode cX9_restart 18 = .ok (.invokeinterface 41 1, 5) := by decide +kernel
theorem dX9_restart_23 : decode cX9_restart 23 = .ok (.ifCond .eq 32, 3) := by decide +kernel
theorem dX9_restart_26 : decode cX9_restart 26 = .ok (.aload_n 1, 1) := by decide +kernel
theorem dX9_restart_27 : decode cX9_restart 27 = .ok (.invokeinterface 47 1, 5) := by decide +kernel
theorem dX9_restart_32 : decode cX9_restart 32 = .ok (.checkcast 51, 3) := by decide +kernel
theorem dX9_restart_35 : decode cX9_restart 35 = .ok (.astore_n 2, 1) := by decide +kernel
theorem dX9_restart_36 : decode cX9_restart 36 = .ok (.aload_n 2, 1) := by decide +kernel
theorem dX9_restart_37 : decode cX9_restart 37 = .ok (.bipush 120, 2) := by decide +kernel
theorem dX9_restart_39 : decode cX9_restart 39 = .ok (.putfield 104, 3) := by decide +kernel
theorem dX9_restart_42 : decode cX9_restart 42 = .ok (.aload_n 2, 1) := by decide +kernel
theorem dX9_restart_43 : decode cX9_restart 43 = .ok (.iconst 0, 1) := by decide +kernel
theorem dX9_restart_44 : decode cX9_restart 44 = .ok (.putfield 113, 3) := by decide +kernel
theorem dX9_restart_47 : decode cX9_restart 47 = .ok (.aload_n 2, 1) := by decide +kernel
theorem dX9_restart_48 : decode cX9_restart 48 = .ok (.iconst (-1), 1) := by decide +kernel
theorem dX9_restart_49 : decode cX9_restart 49 = .ok (.putfield 116, 3) := by decide +kernel
theorem dX9_restart_52 : decode cX9_restart 52 = .ok (.goto (-35), 3) := by decide +kernel
theorem dX9_restart_55 : decode cX9_restart 55 = .ok (.aload_n 0, 1) := by decide +kernel
theorem dX9_restart_56 : decode cX9_restart 56 = .ok (.aload_n 0, 1) := by decide +kernel
theorem dX9_restart_57 : decode cX9_restart 57 = .ok (.invokevirtual 119, 3) := by decide +kernel
theorem dX9_restart_60 : decode cX9_restart 60 = .ok (.iconst (-1), 1) := by decide +kernel
theorem dX9_restart_61 : decode cX9_restart 61 = .ok (.bipush 120, 2) := by decide +kernel
theorem dX9_restart_63 : decode cX9_restart 63 = .ok (.invokevirtual 123, 3) := by decide +kernel
theorem dX9_restart_66 : decode cX9_restart 66 = .ok (.astore_n 1, 1) := by decide +kernel
theorem dX9_restart_67 : decode cX9_restart 67 = .ok (.iconst 0, 1) := by decide +kernel
theorem dX9_restart_68 : decode cX9_restart 68 = .ok (.istore_n 2, 1) := by decide +kernel
theorem dX9_restart_69 : decode cX9_restart 69 = .ok (.iload_n 2, 1) := by decide +kernel
theorem dX9_restart_70 : decode cX9_restart 70 = .ok (.aload_n 0, 1) := by decide +kernel
theorem dX9_restart_71 : decode cX9_restart 71 = .ok (.getfield 10, 3) := by decide +kernel
theorem dX9_restart_74 : decode cX9_restart 74 = .ok (.invokevirtual 29, 3) := by decide +kernel
theorem dX9_restart_77 : decode cX9_restart 77 = .ok (.if_icmp .ge 26, 3) := by decide +kernel
theorem dX9_restart_80 : decode cX9_restart 80 = .ok (.aload_n 0, 1) := by decide +kernel
theorem dX9_restart_81 : decode cX9_restart 81 = .ok (.getfield 10, 3) := by decide +kernel
theorem dX9_restart_84 : decode cX9_restart 84 = .ok (.iload_n 2, 1) := by decide +kernel
theorem dX9_restart_85 : decode cX9_restart 85 = .ok (.invokevirtual 65, 3) := by decide +kernel
theorem dX9_restart_88 : decode cX9_restart 88 = .ok (.checkcast 51, 3) := by decide +kernel
theorem dX9_restart_91 : decode cX9_restart 91 = .ok (.aload_n 1, 1) := by decide +kernel
theorem dX9_restart_92 : decode cX9_restart 92 = .ok (.iload_n 2, 1) := by decide +kernel
theorem dX9_restart_93 : decode cX9_restart 93 = .ok (.caload, 1) := by decide +kernel
theorem dX9_restart_94 : decode cX9_restart 94 = .ok (.putfield 104, 3) := by decide +kernel
theorem dX9_restart_97 : decode cX9_restart 97 = .ok (.iinc 2 1, 3) := by decide +kernel
theorem dX9_restart_100 : decode cX9_restart 100 = .ok (.goto (-31), 3) := by decide +kernel
theorem dX9_restart_103 : decode cX9_restart 103 = .ok (.aload_n 0, 1) := by decide +kernel
theorem dX9_restart_104 : decode cX9_restart 104 = .ok (.getfield 16, 3) := by decide +kernel
theorem dX9_restart_107 : decode cX9_restart 107 = .ok (.invokevirtual 37, 3) := by decide +kernel
theorem dX9_restart_110 : decode cX9_restart 110 = .ok (.astore_n 2, 1) := by decide +kernel
theorem dX9_restart_111 : decode cX9_restart 111 = .ok (.aload_n 2, 1) := by decide +kernel
theorem dX9_restart_112 : decode cX9_restart 112 = .ok (.invokeinterface 41 1, 5) := by decide +kernel
theorem dX9_restart_117 : decode cX9_restart 117 = .ok (.ifCond .eq 30, 3) := by decide +kernel
theorem dX9_restart_147 : decode cX9_restart 147 = .ok (.return_, 1) := by decide +kernel
theorem dX9_settledAll_0 : decode cX9_settledAll 0 = .ok (.bipush 40, 2) := by decide +kernel
theorem dX9_settledAll_2 : decode cX9_settledAll 2 = .ok (.newarray .char, 2) := by decide +kernel
theorem dX9_settledAll_4 : decode cX9_settledAll 4 = .ok (.astore 4, 2) := by decide +kernel
theorem dX9_settledAll_6 : decode cX9_settledAll 6 = .ok (.aload_n 0, 1) := by decide +kernel
theorem dX9_settledAll_7 : decode cX9_settledAll 7 = .ok (.getfield 22, 3) := by decide +kernel
theorem dX9_settledAll_10 : decode cX9_settledAll 10 = .ok (.invokevirtual 37, 3) := by decide +kernel
theorem dX9_settledAll_13 : decode cX9_settledAll 13 = .ok (.astore 5, 2) := by decide +kernel
theorem dX9_settledAll_15 : decode cX9_settledAll 15 = .ok (.aload 5, 2) := by decide +kernel
theorem dX9_settledAll_17 : decode cX9_settledAll 17 = .ok (.invokeinterface 41 1, 5) := by decide +kernel
theorem dX9_settledAll_22 : decode cX9_settledAll 22 = .ok (.ifCond .eq 199, 3) := by decide +kernel
theorem dX9_settledAll_25 : decode cX9_settledAll 25 = .ok (.aload 5, 2) := by decide +kernel
theorem dX9_settledAll_27 : decode cX9_settledAll 27 = .ok (.invokeinterface 47 1, 5) := by decide +kernel
theorem dX9_settledAll_32 : decode cX9_settledAll 32 = .ok (.checkcast 60, 3) := by decide +kernel
theorem dX9_settledAll_35 : decode cX9_settledAll 35 = .ok (.invokevirtual 62, 3) := by decide +kernel
theorem dX9_settledAll_38 : decode cX9_settledAll 38 = .ok (.istore 6, 2) := by decide +kernel
theorem dX9_settledAll_40 : decode cX9_settledAll 40 = .ok (.aload_n 0, 1) := by decide +kernel
theorem dX9_settledAll_41 : decode cX9_settledAll 41 = .ok (.getfield 10, 3) := by decide +kernel
theorem dX9_settledAll_44 : decode cX9_settledAll 44 = .ok (.iload 6, 2) := by decide +kernel
theorem dX9_settledAll_46 : decode cX9_settledAll 46 = .ok (.invokevirtual 65, 3) := by decide +kernel
theorem dX9_settledAll_49 : decode cX9_settledAll 49 = .ok (.checkcast 51, 3) := by decide +kernel
theorem dX9_settledAll_52 : decode cX9_settledAll 52 = .ok (.getfield 69, 3) := by decide +kernel
theorem dX9_settledAll_55 : decode cX9_settledAll 55 = .ok (.bipush 98, 2) := by decide +kernel
theorem dX9_settledAll_57 : decode cX9_settledAll 57 = .ok (.if_icmp .ne 7, 3) := by decide +kernel
theorem dX9_settledAll_60 : decode cX9_settledAll 60 = .ok (.iconst 1, 1) := by decide +kernel
theorem dX9_settledAll_61 : decode cX9_settledAll 61 = .ok (.goto 4, 3) := by decide +kernel
theorem dX9_settledAll_65 : decode cX9_settledAll 65 = .ok (.istore 7, 2) := by decide +kernel
theorem dX9_settledAll_67 : decode cX9_settledAll 67 = .ok (.aload 4, 2) := by decide +kernel
theorem dX9_settledAll_69 : decode cX9_settledAll 69 = .ok (.iload 6, 2) := by decide +kernel
theorem dX9_settledAll_71 : decode cX9_settledAll 71 = .ok (.iload 7, 2) := by decide +kernel
theorem dX9_settledAll_73 : decode cX9_settledAll 73 = .ok (.ifCond .eq 8, 3) := by decide +kernel
theorem dX9_settledAll_76 : decode cX9_settledAll 76 = .ok (.bipush 122, 2) := by decide +kernel
theorem dX9_settledAll_78 : decode cX9_settledAll 78 = .ok (.goto 7, 3) := by decide +kernel
theorem dX9_settledAll_85 : decode cX9_settledAll 85 = .ok (.castore, 1) := by decide +kernel
theorem dX9_settledAll_86 : decode cX9_settledAll 86 = .ok (.aload_n 0, 1) := by decide +kernel
theorem dX9_settledAll_87 : decode cX9_settledAll 87 = .ok (.getfield 16, 3) := by decide +kernel
theorem dX9_settledAll_90 : decode cX9_settledAll 90 = .ok (.invokevirtual 37, 3) := by decide +kernel
theorem dX9_settledAll_93 : decode cX9_settledAll 93 = .ok (.astore 8, 2) := by decide +kernel
theorem dX9_settledAll_95 : decode cX9_settledAll 95 = .ok (.aload 8, 2) := by decide +kernel
theorem dX9_settledAll_97 : decode cX9_settledAll 97 = .ok (.invokeinterface 41 1, 5) := by decide +kernel
theorem dX9_settledAll_102 : decode cX9_settledAll 102 = .ok (.ifCond .eq 96, 3) := by decide +kernel
theorem dX9_settledAll_198 : decode cX9_settledAll 198 = .ok (.aload 4, 2) := by decide +kernel
theorem dX9_settledAll_200 : decode cX9_settledAll 200 = .ok (.iload 6, 2) := by decide +kernel
theorem dX9_settledAll_202 : decode cX9_settledAll 202 = .ok (.iload 6, 2) := by decide +kernel
theorem dX9_settledAll_204 : decode cX9_settledAll 204 = .ok (.iload_n 2, 1) := by decide +kernel
theorem dX9_settledAll_205 : decode cX9_settledAll 205 = .ok (.if_icmp .ne 7, 3) := by decide +kernel
theorem dX9_settledAll_212 : decode cX9_settledAll 212 = .ok (.aload 4, 2) := by decide +kernel
theorem dX9_settledAll_214 : decode cX9_settledAll 214 = .ok (.iload 6, 2) := by decide +kernel
theorem dX9_settledAll_216 : decode cX9_settledAll 216 = .ok (.caload, 1) := by decide +kernel
theorem dX9_settledAll_217 : decode cX9_settledAll 217 = .ok (.castore, 1) := by decide +kernel
theorem dX9_settledAll_218 : decode cX9_settledAll 218 = .ok (.goto (-203), 3) := by decide +kernel
theorem dX9_settledAll_221 : decode cX9_settledAll 221 = .ok (.aload 4, 2) := by decide +kernel
theorem dX9_settledAll_223 : decode cX9_settledAll 223 = .ok (.areturn, 1) := by decide +kernel
theorem dX9_valuesNow_0 : decode cX9_valuesNow 0 = .ok (.bipush 40, 2) := by decide +kernel
theorem dX9_valuesNow_2 : decode cX9_valuesNow 2 = .ok (.newarray .char, 2) := by decide +kernel
theorem dX9_valuesNow_4 : decode cX9_valuesNow 4 = .ok (.astore_n 1, 1) := by decide +kernel
theorem dX9_valuesNow_5 : decode cX9_valuesNow 5 = .ok (.iconst 0, 1) := by decide +kernel
theorem dX9_valuesNow_6 : decode cX9_valuesNow 6 = .ok (.istore_n 2, 1) := by decide +kernel
theorem dX9_valuesNow_7 : decode cX9_valuesNow 7 = .ok (.iload_n 2, 1) := by decide +kernel
theorem dX9_valuesNow_8 : decode cX9_valuesNow 8 = .ok (.aload_n 0, 1) := by decide +kernel
theorem dX9_valuesNow_9 : decode cX9_valuesNow 9 = .ok (.getfield 10, 3) := by decide +kernel
theorem dX9_valuesNow_12 : decode cX9_valuesNow 12 = .ok (.invokevirtual 29, 3) := by decide +kernel
theorem dX9_valuesNow_15 : decode cX9_valuesNow 15 = .ok (.if_icmp .ge 26, 3) := by decide +kernel
theorem dX9_valuesNow_18 : decode cX9_valuesNow 18 = .ok (.aload_n 1, 1) := by decide +kernel
theorem dX9_valuesNow_19 : decode cX9_valuesNow 19 = .ok (.iload_n 2, 1) := by decide +kernel
theorem dX9_valuesNow_20 : decode cX9_valuesNow 20 = .ok (.aload_n 0, 1) := by decide +kernel
theorem dX9_valuesNow_21 : decode cX9_valuesNow 21 = .ok (.getfield 10, 3) := by decide +kernel
theorem dX9_valuesNow_24 : decode cX9_valuesNow 24 = .ok (.iload_n 2, 1) := by decide +kernel
theorem dX9_valuesNow_25 : decode cX9_valuesNow 25 = .ok (.invokevirtual 65, 3) := by decide +kernel
theorem dX9_valuesNow_28 : decode cX9_valuesNow 28 = .ok (.checkcast 51, 3) := by decide +kernel
theorem dX9_valuesNow_31 : decode cX9_valuesNow 31 = .ok (.getfield 104, 3) := by decide +kernel
theorem dX9_valuesNow_34 : decode cX9_valuesNow 34 = .ok (.castore, 1) := by decide +kernel
theorem dX9_valuesNow_35 : decode cX9_valuesNow 35 = .ok (.iinc 2 1, 3) := by decide +kernel
theorem dX9_valuesNow_38 : decode cX9_valuesNow 38 = .ok (.goto (-31), 3) := by decide +kernel
theorem dX9_valuesNow_41 : decode cX9_valuesNow 41 = .ok (.aload_n 1, 1) := by decide +kernel
theorem dX9_valuesNow_42 : decode cX9_valuesNow 42 = .ok (.areturn, 1) := by decide +kernel

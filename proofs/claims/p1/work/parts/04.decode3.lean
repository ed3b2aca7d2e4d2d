theorem dX6_stands_2 : decode cX6_stands 2 = .ok (.invokevirtual 72, 3) := by decide +kernel
theorem dX6_startAnew_0 : decode cX6_startAnew 0 = .ok (.aload_n 0, 1) := by decide +kernel
theorem dX6_startAnew_1 : decode cX6_startAnew 1 = .ok (.getfield 10, 3) := by decide +kernel
theorem dX6_startAnew_4 : decode cX6_startAnew 4 = .ok (.invokevirtual 243, 3) := by decide +kernel
theorem dX6_startAnew_7 : decode cX6_startAnew 7 = .ok (.aload_n 0, 1) := by decide +kernel
theorem dX6_startAnew_8 : decode cX6_startAnew 8 = .ok (.getfield 21, 3) := by decide +kernel
theorem dX6_startAnew_11 : decode cX6_startAnew 11 = .ok (.invokevirtual 246, 3) := by decide +kernel
theorem dX6_startAnew_14 : decode cX6_startAnew 14 = .ok (.return_, 1) := by decide +kernel
theorem dX6_tick_0 : decode cX6_tick 0 = .ok (.aload_n 0, 1) := by decide +kernel
theorem dX6_tick_1 : decode cX6_tick 1 = .ok (.getfield 21, 3) := by decide +kernel
theorem dX6_tick_4 : decode cX6_tick 4 = .ok (.invokevirtual 145, 3) := by decide +kernel
theorem dX6_tick_7 : decode cX6_tick 7 = .ok (.ireturn, 1) := by decide +kernel
theorem dX6_value_0 : decode cX6_value 0 = .ok (.aload_n 0, 1) := by decide +kernel
theorem dX6_value_1 : decode cX6_value 1 = .ok (.iload_n 1, 1) := by decide +kernel
theorem dX6_value_2 : decode cX6_value 2 = .ok (.invokevirtual 72, 3) := by decide +kernel
theorem dX8_init_0 : decode cX8_init 0 = .ok (.aload_n 0, 1) := by decide +kernel
theorem dX8_init_1 : decode cX8_init 1 = .ok (.invokespecial 3, 3) := by decide +kernel
theorem dX8_init_4 : decode cX8_init 4 = .ok (.aload_n 0, 1) := by decide +kernel
theorem dX8_init_5 : decode cX8_init 5 = .ok (.bipush 120, 2) := by decide +kernel
theorem dX8_init_7 : decode cX8_init 7 = .ok (.putfield 9, 3) := by decide +kernel
theorem dX8_init_10 : decode cX8_init 10 = .ok (.aload_n 0, 1) := by decide +kernel
theorem dX8_init_11 : decode cX8_init 11 = .ok (.iconst (-1), 1) := by decide +kernel
theorem dX8_init_12 : decode cX8_init 12 = .ok (.putfield 15, 3) := by decide +kernel
theorem dX8_init_15 : decode cX8_init 15 = .ok (.aload_n 0, 1) := by decide +kernel
theorem dX8_init_16 : decode cX8_init 16 = .ok (.iconst (-1), 1) := by decide +kernel
theorem dX8_init_17 : decode cX8_init 17 = .ok (.putfield 19, 3) := by decide +kernel
theorem dX8_init_20 : decode cX8_init 20 = .ok (.aload_n 0, 1) := by decide +kernel
theorem dX8_init_21 : decode cX8_init 21 = .ok (.iload_n 1, 1) := by decide +kernel
theorem dX8_init_22 : decode cX8_init 22 = .ok (.putfield 22, 3) := by decide +kernel
theorem dX8_init_25 : decode cX8_init 25 = .ok (.return_, 1) := by decide +kernel
theorem dX9_activity_0 : decode cX9_activity 0 = .ok (.aload_n 0, 1) := by decide +kernel
theorem dX9_activity_1 : decode cX9_activity 1 = .ok (.iconst 0, 1) := by decide +kernel
theorem dX9_activity_2 : decode cX9_activity 2 = .ok (.putfield 25, 3) := by decide +kernel
theorem dX9_activity_5 : decode cX9_activity 5 = .ok (.lconst 0, 1) := by decide +kernel
theorem dX9_activity_6 : decode cX9_activity 6 = .ok (.lstore_n 1, 1) := by decide +kernel
theorem dX9_activity_7 : decode cX9_activity 7 = .ok (.iconst 0, 1) := by decide +kernel
theorem dX9_activity_8 : decode cX9_activity 8 = .ok (.istore_n 3, 1) := by decide +kernel
theorem dX9_activity_9 : decode cX9_activity 9 = .ok (.iload_n 3, 1) := by decide +kernel
theorem dX9_activity_10 : decode cX9_activity 10 = .ok (.aload_n 0, 1) := by decide +kernel
theorem dX9_activity_11 : decode cX9_activity 11 = .ok (.getfield 10, 3) := by decide +kernel
theorem dX9_activity_14 : decode cX9_activity 14 = .ok (.invokevirtual 29, 3) := by decide +kernel
theorem dX9_activity_17 : decode cX9_activity 17 = .ok (.if_icmp .ge 89, 3) := by decide +kernel
theorem dX9_activity_106 : decode cX9_activity 106 = .ok (.lload_n 1, 1) := by decide +kernel
theorem dX9_activity_107 : decode cX9_activity 107 = .ok (.lreturn, 1) := by decide +kernel
theorem dX9_add_0 : decode cX9_add 0 = .ok (.aload_n 0, 1) := by decide +kernel
theorem dX9_add_1 : decode cX9_add 1 = .ok (.getfield 10, 3) := by decide +kernel
theorem dX9_add_4 : decode cX9_add 4 = .ok (.new 51, 3) := by decide +kernel
theorem dX9_add_7 : decode cX9_add 7 = .ok (.dup, 1) := by decide +kernel
theorem dX9_add_8 : decode cX9_add 8 = .ok (.iload_n 1, 1) := by decide +kernel
theorem dX9_add_9 : decode cX9_add 9 = .ok (.invokespecial 137, 3) := by decide +kernel
theorem dX9_add_12 : decode cX9_add 12 = .ok (.invokevirtual 100, 3) := by decide +kernel
theorem dX9_add_15 : decode cX9_add 15 = .ok (.pop, 1) := by decide +kernel
theorem dX9_add_16 : decode cX9_add 16 = .ok (.aload_n 0, 1) := by decide +kernel
theorem dX9_add_17 : decode cX9_add 17 = .ok (.getfield 10, 3) := by decide +kernel
theorem dX9_add_20 : decode cX9_add 20 = .ok (.invokevirtual 29, 3) := by decide +kernel
theorem dX9_add_23 : decode cX9_add 23 = .ok (.iconst 1, 1) := by decide +kernel
theorem dX9_add_24 : decode cX9_add 24 = .ok (.isub, 1) := by decide +kernel
theorem dX9_add_25 : decode cX9_add 25 = .ok (.ireturn, 1) := by decide +kernel
theorem dX9_addBus_0 : decode cX9_addBus 0 = .ok (.aload_n 0, 1) := by decide +kernel
theorem dX9_addBus_1 : decode cX9_addBus 1 = .ok (.iconst 0, 1) := by decide +kernel
theorem dX9_addBus_2 : decode cX9_addBus 2 = .ok (.putfield 25, 3) := by decide +kernel
theorem dX9_addBus_5 : decode cX9_addBus 5 = .ok (.aload_n 0, 1) := by decide +kernel
theorem dX9_addBus_6 : decode cX9_addBus 6 = .ok (.aload_n 0, 1) := by decide +kernel
theorem dX9_addBus_7 : decode cX9_addBus 7 = .ok (.getfield 10, 3) := by decide +kernel
theorem dX9_addBus_10 : decode cX9_addBus 10 = .ok (.invokevirtual 29, 3) := by decide +kernel
theorem dX9_addBus_13 : decode cX9_addBus 13 = .ok (.bipush 40, 2) := by decide +kernel
theorem dX9_addBus_15 : decode cX9_addBus 15 = .ok (.if_icmp .ne 7, 3) := by decide +kernel
theorem dX9_addBus_22 : decode cX9_addBus 22 = .ok (.iconst 0, 1) := by decide +kernel
theorem dX9_addBus_23 : decode cX9_addBus 23 = .ok (.iconst 1, 1) := by decide +kernel
theorem dX9_addBus_24 : decode cX9_addBus 24 = .ok (.invokevirtual 143, 3) := by decide +kernel
theorem dX9_addBus_27 : decode cX9_addBus 27 = .ok (.ifCond .eq 5, 3) := by decide +kernel
theorem dX9_addBus_32 : decode cX9_addBus 32 = .ok (.aload_n 0, 1) := by decide +kernel
theorem dX9_addBus_33 : decode cX9_addBus 33 = .ok (.bipush 98, 2) := by decide +kernel
theorem dX9_addBus_35 : decode cX9_addBus 35 = .ok (.invokevirtual 147, 3) := by decide +kernel
theorem dX9_addBus_38 : decode cX9_addBus 38 = .ok (.istore_n 1, 1) := by decide +kernel
theorem dX9_addBus_39 : decode cX9_addBus 39 = .ok (.aload_n 0, 1) := by decide +kernel
theorem dX9_addBus_40 : decode cX9_addBus 40 = .ok (.invokevirtual 150, 3) := by decide +kernel
theorem dX9_addBus_43 : decode cX9_addBus 43 = .ok (.iload_n 1, 1) := by decide +kernel
theorem dX9_addBus_44 : decode cX9_addBus 44 = .ok (.ireturn, 1) := by decide +kernel
theorem dX9_addGate_0 : decode cX9_addGate 0 = .ok (.aload_n 0, 1) := by decide +kernel
theorem dX9_addGate_1 : decode cX9_addGate 1 = .ok (.iconst 0, 1) := by decide +kernel
theorem dX9_addGate_2 : decode cX9_addGate 2 = .ok (.putfield 25, 3) := by decide +kernel
theorem dX9_addGate_5 : decode cX9_addGate 5 = .ok (.iload_n 1, 1) := by decide +kernel
theorem dX9_addGate_6 : decode cX9_addGate 6 = .ok (.bipush 126, 2) := by decide +kernel
theorem dX9_addGate_8 : decode cX9_addGate 8 = .ok (.if_icmp .eq 9, 3) := by decide +kernel
theorem dX9_addGate_11 : decode cX9_addGate 11 = .ok (.iload_n 1, 1) := by decide +kernel
theorem dX9_addGate_12 : decode cX9_addGate 12 = .ok (.bipush 61, 2) := by decide +kernel
theorem dX9_addGate_14 : decode cX9_addGate 14 = .ok (.if_icmp .ne 7, 3) := by decide +kernel
theorem dX9_addGate_17 : decode cX9_addGate 17 = .ok (.iconst 1, 1) := by decide +kernel
theorem dX9_addGate_18 : decode cX9_addGate 18 = .ok (.goto 4, 3) := by decide +kernel
theorem dX9_addGate_21 : decode cX9_addGate 21 = .ok (.iconst 0, 1) := by decide +kernel
theorem dX9_addGate_22 : decode cX9_addGate 22 = .ok (.istore 5, 2) := by decide +kernel
theorem dX9_addGate_24 : decode cX9_addGate 24 = .ok (.aload_n 0, 1) := by decide +kernel
theorem dX9_addGate_25 : decode cX9_addGate 25 = .ok (.iload 5, 2) := by decide +kernel
theorem dX9_addGate_27 : decode cX9_addGate 27 = .ok (.ifCond .ne 21, 3) := by decide +kernel
theorem dX9_addGate_30 : decode cX9_addGate 30 = .ok (.iload_n 1, 1) := by decide +kernel
theorem dX9_addGate_31 : decode cX9_addGate 31 = .ok (.bipush 38, 2) := by decide +kernel
theorem dX9_addGate_33 : decode cX9_addGate 33 = .ok (.if_icmp .eq 15, 3) := by decide +kernel
theorem dX9_addGate_36 : decode cX9_addGate 36 = .ok (.iload_n 1, 1) := by decide +kernel
theorem dX9_addGate_37 : decode cX9_addGate 37 = .ok (.bipush 124, 2) := by decide +kernel
theorem dX9_addGate_39 : decode cX9_addGate 39 = .ok (.if_icmp .eq 9, 3) := by decide +kernel
theorem dX9_addGate_42 : decode cX9_addGate 42 = .ok (.iload_n 1, 1) := by decide +kernel
theorem dX9_addGate_43 : decode cX9_addGate 43 = .ok (.bipush 94, 2) := by decide +kernel
theorem dX9_addGate_45 : decode cX9_addGate 45 = .ok (.if_icmp .ne 14, 3) := by decide +kernel
theorem dX9_addGate_48 : decode cX9_addGate 48 = .ok (.iload 4, 2) := by decide +kernel
theorem dX9_addGate_50 : decode cX9_addGate 50 = .ok (.iconst 0, 1) := by decide +kernel
theorem dX9_addGate_51 : decode cX9_addGate 51 = .ok (.bipush 9, 2) := by decide +kernel
theorem dX9_addGate_53 : decode cX9_addGate 53 = .ok (.invokestatic 33, 3) := by decide +kernel
theorem dX9_addGate_56 : decode cX9_addGate 56 = .ok (.ifCond .ne 7, 3) := by decide +kernel
theorem dX9_addGate_59 : decode cX9_addGate 59 = .ok (.iconst 1, 1) := by decide +kernel
theorem dX9_addGate_60 : decode cX9_addGate 60 = .ok (.goto 4, 3) := by decide +kernel
theorem dX9_addGate_63 : decode cX9_addGate 63 = .ok (.iconst 0, 1) := by decide +kernel
theorem dX9_addGate_64 : decode cX9_addGate 64 = .ok (.iconst 1, 1) := by decide +kernel
theorem dX9_addGate_65 : decode cX9_addGate 65 = .ok (.invokevirtual 143, 3) := by decide +kernel
theorem dX9_addGate_68 : decode cX9_addGate 68 = .ok (.ifCond .ne 62, 3) := by decide +kernel
theorem dX9_addGate_71 : decode cX9_addGate 71 = .ok (.aload_n 0, 1) := by decide +kernel
theorem dX9_addGate_72 : decode cX9_addGate 72 = .ok (.aload_n 0, 1) := by decide +kernel
theorem dX9_addGate_73 : decode cX9_addGate 73 = .ok (.iload_n 2, 1) := by decide +kernel
theorem dX9_addGate_74 : decode cX9_addGate 74 = .ok (.invokevirtual 156, 3) := by decide +kernel
theorem dX9_addGate_77 : decode cX9_addGate 77 = .ok (.ifCond .ne 16, 3) := by decide +kernel
theorem dX9_addGate_93 : decode cX9_addGate 93 = .ok (.iconst 1, 1) := by decide +kernel
theorem dX9_addGate_94 : decode cX9_addGate 94 = .ok (.goto 4, 3) := by decide +kernel
theorem dX9_addGate_98 : decode cX9_addGate 98 = .ok (.iconst 2, 1) := by decide +kernel
theorem dX9_addGate_99 : decode cX9_addGate 99 = .ok (.invokevirtual 143, 3) := by decide +kernel
theorem dX9_addGate_102 : decode cX9_addGate 102 = .ok (.ifCond .ne 28, 3) := by decide +kernel
theorem dX9_addGate_130 : decode cX9_addGate 130 = .ok (.iconst 0, 1) := by decide +kernel
theorem dX9_addGate_131 : decode cX9_addGate 131 = .ok (.ireturn, 1) := by decide +kernel
theorem dX9_addInput_0 : decode cX9_addInput 0 = .ok (.aload_n 0, 1) := by decide +kernel
theorem dX9_addInput_1 : decode cX9_addInput 1 = .ok (.iconst 0, 1) := by decide +kernel
theorem dX9_addInput_2 : decode cX9_addInput 2 = .ok (.putfield 25, 3) := by decide +kernel
theorem dX9_addInput_5 : decode cX9_addInput 5 = .ok (.aload_n 0, 1) := by decide +kernel
theorem dX9_addInput_6 : decode cX9_addInput 6 = .ok (.bipush 105, 2) := by decide +kernel
theorem dX9_addInput_8 : decode cX9_addInput 8 = .ok (.invokevirtual 153, 3) := by decide +kernel
theorem dX9_addInput_11 : decode cX9_addInput 11 = .ok (.ireturn, 1) := by decide +kernel
theorem dX9_addOpen_0 : decode cX9_addOpen 0 = .ok (.aload_n 0, 1) := by decide +kernel
theorem dX9_addOpen_1 : decode cX9_addOpen 1 = .ok (.iconst 0, 1) := by decide +kernel
theorem dX9_addOpen_2 : decode cX9_addOpen 2 = .ok (.putfield 25, 3) := by decide +kernel
theorem dX9_addOpen_5 : decode cX9_addOpen 5 = .ok (.aload_n 0, 1) := by decide +kernel
theorem dX9_addOpen_6 : decode cX9_addOpen 6 = .ok (.iload_n 1, 1) := by decide +kernel
theorem dX9_addOpen_7 : decode cX9_addOpen 7 = .ok (.invokevirtual 156, 3) := by decide +kernel
theorem dX9_addOpen_10 : decode cX9_addOpen 10 = .ok (.ifCond .ne 42, 3) := by decide +kernel
theorem dX9_addOpen_52 : decode cX9_addOpen 52 = .ok (.iconst 0, 1) := by decide +kernel
theorem dX9_addOpen_53 : decode cX9_addOpen 53 = .ok (.istore 5, 2) := by decide +kernel
theorem dX9_addOpen_55 : decode cX9_addOpen 55 = .ok (.aload_n 0, 1) := by decide +kernel
theorem dX9_addOpen_56 : decode cX9_addOpen 56 = .ok (.iload 4, 2) := by decide +kernel
theorem dX9_addOpen_58 : decode cX9_addOpen 58 = .ok (.iconst 0, 1) := by decide +kernel
theorem dX9_addOpen_59 : decode cX9_addOpen 59 = .ok (.bipush 9, 2) := by decide +kernel
theorem dX9_addOpen_61 : decode cX9_addOpen 61 = .ok (.invokestatic 33, 3) := by decide +kernel
theorem dX9_addOpen_64 : decode cX9_addOpen 64 = .ok (.ifCond .ne 7, 3) := by decide +kernel
theorem dX9_addOpen_67 : decode cX9_addOpen 67 = .ok (.iconst 1, 1) := by decide +kernel
theorem dX9_addOpen_68 : decode cX9_addOpen 68 = .ok (.goto 4, 3) := by decide +kernel
theorem dX9_addOpen_71 : decode cX9_addOpen 71 = .ok (.iconst 0, 1) := by decide +kernel
theorem dX9_addOpen_72 : decode cX9_addOpen 72 = .ok (.iconst 1, 1) := by decide +kernel
theorem dX9_addOpen_73 : decode cX9_addOpen 73 = .ok (.invokevirtual 143, 3) := by decide +kernel
theorem dX9_addOpen_76 : decode cX9_addOpen 76 = .ok (.ifCond .ne 74, 3) := by decide +kernel
theorem dX9_addOpen_79 : decode cX9_addOpen 79 = .ok (.aload_n 0, 1) := by decide +kernel
theorem dX9_addOpen_80 : decode cX9_addOpen 80 = .ok (.iload 5, 2) := by decide +kernel
theorem dX9_addOpen_82 : decode cX9_addOpen 82 = .ok (.ifCond .ne 7, 3) := by decide +kernel
theorem dX9_addOpen_85 : decode cX9_addOpen 85 = .ok (.iconst 1, 1) := by decide +kernel
theorem dX9_addOpen_86 : decode cX9_addOpen 86 = .ok (.goto 4, 3) := by decide +kernel
theorem dX9_addOpen_90 : decode cX9_addOpen 90 = .ok (.iconst 2, 1) := by decide +kernel
theorem dX9_addOpen_91 : decode cX9_addOpen 91 = .ok (.invokevirtual 143, 3) := by decide +kernel
theorem dX9_addOpen_94 : decode cX9_addOpen 94 = .ok (.ifCond .ne 56, 3) := by decide +kernel
theorem dX9_addOpen_150 : decode cX9_addOpen 150 = .ok (.iconst 0, 1) := by decide +kernel
theorem dX9_addOpen_151 : decode cX9_addOpen 151 = .ok (.ireturn, 1) := by decide +kernel
theorem dX9_addRegister_0 : decode cX9_addRegister 0 = .ok (.aload_n 0, 1) := by decide +kernel
theorem dX9_addRegister_1 : decode cX9_addRegister 1 = .ok (.iconst 0, 1) := by decide +kernel
theorem dX9_addRegister_2 : decode cX9_addRegister 2 = .ok (.putfield 25, 3) := by decide +kernel
theorem dX9_addRegister_5 : decode cX9_addRegister 5 = .ok (.aload_n 0, 1) := by decide +kernel
theorem dX9_addRegister_6 : decode cX9_addRegister 6 = .ok (.bipush 114, 2) := by decide +kernel
theorem dX9_addRegister_8 : decode cX9_addRegister 8 = .ok (.invokevirtual 153, 3) := by decide +kernel
theorem dX9_addRegister_11 : decode cX9_addRegister 11 = .ok (.ireturn, 1) := by decide +kernel
theorem dX9_addSource_0 : decode cX9_addSource 0 = .ok (.aload_n 0, 1) := by decide +kernel
theorem dX9_addSource_1 : decode cX9_addSource 1 = .ok (.aload_n 0, 1) := by decide +kernel
theorem dX9_addSource_2 : decode cX9_addSource 2 = .ok (.invokevirtual 140, 3) := by decide +kernel
theorem dX9_addSource_5 : decode cX9_addSource 5 = .ok (.bipush 8, 2) := by decide +kernel
theorem dX9_addSource_7 : decode cX9_addSource 7 = .ok (.if_icmp .ne 7, 3) := by decide +kernel
theorem dX9_addSource_14 : decode cX9_addSource 14 = .ok (.iconst 0, 1) := by decide +kernel
theorem dX9_addSource_15 : decode cX9_addSource 15 = .ok (.iconst 1, 1) := by decide +kernel
theorem dX9_addSource_16 : decode cX9_addSource 16 = .ok (.invokevirtual 143, 3) := by decide +kernel
theorem dX9_addSource_19 : decode cX9_addSource 19 = .ok (.ifCond .ne 28, 3) := by decide +kernel
theorem dX9_addSource_22 : decode cX9_addSource 22 = .ok (.aload_n 0, 1) := by decide +kernel
theorem dX9_addSource_23 : decode cX9_addSource 23 = .ok (.aload_n 0, 1) := by decide +kernel
theorem dX9_addSource_24 : decode cX9_addSource 24 = .ok (.getfield 10, 3) := by decide +kernel
theorem dX9_addSource_27 : decode cX9_addSource 27 = .ok (.invokevirtual 29, 3) := by decide +kernel
theorem dX9_addSource_30 : decode cX9_addSource 30 = .ok (.bipush 40, 2) := by decide +kernel
theorem dX9_addSource_32 : decode cX9_addSource 32 = .ok (.if_icmp .ne 7, 3) := by decide +kernel
theorem dX9_addSource_39 : decode cX9_addSource 39 = .ok (.iconst 0, 1) := by decide +kernel
theorem dX9_addSource_40 : decode cX9_addSource 40 = .ok (.iconst 2, 1) := by decide +kernel
theorem dX9_addSource_41 : decode cX9_addSource 41 = .ok (.invokevirtual 143, 3) := by decide +kernel
theorem dX9_addSource_44 : decode cX9_addSource 44 = .ok (.ifCond .eq 5, 3) := by decide +kernel
theorem dX9_addSource_49 : decode cX9_addSource 49 = .ok (.aload_n 0, 1) := by decide +kernel
theorem dX9_addSource_50 : decode cX9_addSource 50 = .ok (.iload_n 1, 1) := by decide +kernel
theorem dX9_addSource_51 : decode cX9_addSource 51 = .ok (.invokevirtual 147, 3) := by decide +kernel
theorem dX9_addSource_54 : decode cX9_addSource 54 = .ok (.istore_n 2, 1) := by decide +kernel
theorem dX9_addSource_55 : decode cX9_addSource 55 = .ok (.aload_n 0, 1) := by decide +kernel
theorem dX9_addSource_56 : decode cX9_addSource 56 = .ok (.invokevirtual 150, 3) := by decide +kernel
theorem dX9_addSource_59 : decode cX9_addSource 59 = .ok (.iload_n 2, 1) := by decide +kernel
theorem dX9_addSource_60 : decode cX9_addSource 60 = .ok (.ireturn, 1) := by decide +kernel
theorem dX9_addTest_0 : decode cX9_addTest 0 = .ok (.aload_n 0, 1) := by decide +kernel
theorem dX9_addTest_1 : decode cX9_addTest 1 = .ok (.iconst 0, 1) := by decide +kernel
theorem dX9_addTest_2 : decode cX9_addTest 2 = .ok (.putfield 25, 3) := by decide +kernel
theorem dX9_addTest_5 : decode cX9_addTest 5 = .ok (.aload_n 0, 1) := by decide +kernel
theorem dX9_addTest_6 : decode cX9_addTest 6 = .ok (.iload_n 1, 1) := by decide +kernel
theorem dX9_addTest_7 : decode cX9_addTest 7 = .ok (.iconst 0, 1) := by decide +kernel
theorem dX9_addTest_8 : decode cX9_addTest 8 = .ok (.aload_n 0, 1) := by decide +kernel
theorem dX9_addTest_9 : decode cX9_addTest 9 = .ok (.invokevirtual 240, 3) := by decide +kernel
theorem dX9_addTest_12 : decode cX9_addTest 12 = .ok (.iconst 1, 1) := by decide +kernel
theorem dX9_addTest_13 : decode cX9_addTest 13 = .ok (.isub, 1) := by decide +kernel
theorem dX9_addTest_14 : decode cX9_addTest 14 = .ok (.invokestatic 33, 3) := by decide +kernel
theorem dX9_addTest_17 : decode cX9_addTest 17 = .ok (.ifCond .ne 7, 3) := by decide +kernel
theorem dX9_addTest_20 : decode cX9_addTest 20 = .ok (.iconst 1, 1) := by decide +kernel
theorem dX9_addTest_21 : decode cX9_addTest 21 = .ok (.goto 4, 3) := by decide +kernel
theorem dX9_addTest_24 : decode cX9_addTest 24 = .ok (.iconst 0, 1) := by decide +kernel
theorem dX9_addTest_25 : decode cX9_addTest 25 = .ok (.iconst 1, 1) := by decide +kernel
theorem dX9_addTest_26 : decode cX9_addTest 26 = .ok (.invokevirtual 143, 3) := by decide +kernel
theorem dX9_addTest_29 : decode cX9_addTest 29 = .ok (.ifCond .ne 28, 3) := by decide +kernel
theorem dX9_addTest_32 : decode cX9_addTest 32 = .ok (.aload_n 0, 1) := by decide +kernel
theorem dX9_addTest_33 : decode cX9_addTest 33 = .ok (.aload_n 0, 1) := by decide +kernel
theorem dX9_addTest_34 : decode cX9_addTest 34 = .ok (.getfield 19, 3) := by decide +kernel
theorem dX9_addTest_37 : decode cX9_addTest 37 = .ok (.invokevirtual 29, 3) := by decide +kernel
theorem dX9_addTest_40 : decode cX9_addTest 40 = .ok (.bipush 8, 2) := by decide +kernel
theorem dX9_addTest_42 : decode cX9_addTest 42 = .ok (.if_icmp .ne 7, 3) := by decide +kernel
theorem dX9_addTest_49 : decode cX9_addTest 49 = .ok (.iconst 0, 1) := by decide +kernel
theorem dX9_addTest_50 : decode cX9_addTest 50 = .ok (.iconst 2, 1) := by decide +kernel
theorem dX9_addTest_51 : decode cX9_addTest 51 = .ok (.invokevirtual 143, 3) := by decide +kernel
theorem dX9_addTest_54 : decode cX9_addTest 54 = .ok (.ifCond .eq 5, 3) := by decide +kernel
theorem dX9_addTest_57 : decode cX9_addTest 57 = .ok (.iconst 0, 1) := by decide +kernel
theorem dX9_addTest_58 : decode cX9_addTest 58 = .ok (.ireturn, 1) := by decide +kernel
theorem dX9_addTest_59 : decode cX9_addTest 59 = .ok (.aload_n 0, 1) := by decide +kernel
theorem dX9_addTest_60 : decode cX9_addTest 60 = .ok (.getfield 19, 3) := by decide +kernel
theorem dX9_addTest_63 : decode cX9_addTest 63 = .ok (.iload_n 1, 1) := by decide +kernel
theorem dX9_addTest_64 : decode cX9_addTest 64 = .ok (.invokestatic 96, 3) := by decide +kernel
theorem dX9_addTest_67 : decode cX9_addTest 67 = .ok (.invokevirtual 100, 3) := by decide +kernel
theorem dX9_addTest_70 : decode cX9_addTest 70 = .ok (.pop, 1) := by decide +kernel
theorem dX9_addTest_71 : decode cX9_addTest 71 = .ok (.aload_n 0, 1) := by decide +kernel
theorem dX9_addTest_72 : decode cX9_addTest 72 = .ok (.getfield 19, 3) := by decide +kernel
theorem dX9_addTest_75 : decode cX9_addTest 75 = .ok (.invokevirtual 29, 3) := by decide +kernel
theorem dX9_addTest_78 : decode cX9_addTest 78 = .ok (.ireturn, 1) := by decide +kernel
theorem dX9_arrival_0 : decode cX9_arrival 0 = .ok (.aload_n 0, 1) := by decide +kernel
theorem dX9_arrival_1 : decode cX9_arrival 1 = .ok (.iconst 0, 1) := by decide +kernel
theorem dX9_arrival_2 : decode cX9_arrival 2 = .ok (.putfield 25, 3) := by decide +kernel
theorem dX9_arrival_5 : decode cX9_arrival 5 = .ok (.aload_n 0, 1) := by decide +kernel
theorem dX9_arrival_6 : decode cX9_arrival 6 = .ok (.aload_n 0, 1) := by decide +kernel
theorem dX9_arrival_7 : decode cX9_arrival 7 = .ok (.iload_n 1, 1) := by decide +kernel
theorem dX9_arrival_8 : decode cX9_arrival 8 = .ok (.invokevirtual 156, 3) := by decide +kernel
theorem dX9_arrival_11 : decode cX9_arrival 11 = .ok (.iconst 1, 1) := by decide +kernel
theorem dX9_arrival_12 : decode cX9_arrival 12 = .ok (.invokevirtual 143, 3) := by decide +kernel
theorem dX9_arrival_15 : decode cX9_arrival 15 = .ok (.ifCond .eq 7, 3) := by decide +kernel
theorem dX9_arrival_18 : decode cX9_arrival 18 = .ok (.iconst 0, 1) := by decide +kernel
theorem dX9_arrival_19 : decode cX9_arrival 19 = .ok (.goto 9, 3) := by decide +kernel
theorem dX9_arrival_28 : decode cX9_arrival 28 = .ok (.ireturn, 1) := by decide +kernel
theorem dX9_cannot_0 : decode cX9_cannot 0 = .ok (.aload_n 0, 1) := by decide +kernel
theorem dX9_cannot_1 : decode cX9_cannot 1 = .ok (.aload_n 0, 1) := by decide +kernel
theorem dX9_cannot_2 : decode cX9_cannot 2 = .ok (.iload_n 1, 1) := by decide +kernel
theorem dX9_cannot_3 : decode cX9_cannot 3 = .ok (.invokevirtual 156, 3) := by decide +kernel
theorem dX9_cannot_6 : decode cX9_cannot 6 = .ok (.iconst 1, 1) := by decide +kernel
theorem dX9_cannot_7 : decode cX9_cannot 7 = .ok (.invokevirtual 143, 3) := by decide +kernel
theorem dX9_cannot_10 : decode cX9_cannot 10 = .ok (.ifCond .ne 28, 3) := by decide +kernel
theorem dX9_cannot_38 : decode cX9_cannot 38 = .ok (.iconst 1, 1) := by decide +kernel
theorem dX9_cannot_39 : decode cX9_cannot 39 = .ok (.goto 4, 3) := by decide +kernel
theorem dX9_cannot_43 : decode cX9_cannot 43 = .ok (.ireturn, 1) := by decide +kernel
theorem dX9_changed_0 : decode cX9_changed 0 = .ok (.bipush 40, 2) := by decide +kernel
theorem dX9_changed_2 : decode cX9_changed 2 = .ok (.newarray .boolean, 2) := by decide +kernel
theorem dX9_changed_4 : decode cX9_changed 4 = .ok (.astore_n 2, 1) := by decide +kernel
theorem dX9_changed_5 : decode cX9_changed 5 = .ok (.iconst 0, 1) := by decide +kernel
theorem dX9_changed_6 : decode cX9_changed 6 = .ok (.istore_n 3, 1) := by decide +kernel
theorem dX9_changed_7 : decode cX9_changed 7 = .ok (.iload_n 3, 1) := by decide +kernel
theorem dX9_changed_8 : decode cX9_changed 8 = .ok (.aload_n 0, 1) := by decide +kernel
theorem dX9_changed_9 : decode cX9_changed 9 = .ok (.getfield 10, 3) := by decide +kernel
theorem dX9_changed_12 : decode cX9_changed 12 = .ok (.invokevirtual 29, 3) := by decide +kernel
theorem dX9_changed_15 : decode cX9_changed 15 = .ok (.if_icmp .ge 75, 3) := by decide +kernel
theorem dX9_changed_90 : decode cX9_changed 90 = .ok (.aload_n 2, 1) := by decide +kernel
theorem dX9_changed_91 : decode cX9_changed 91 = .ok (.areturn, 1) := by decide +kernel
theorem dX9_changes_0 : decode cX9_changes 0 = .ok (.aload_n 0, 1) := by decide +kernel
theorem dX9_changes_1 : decode cX9_changes 1 = .ok (.iconst 0, 1) := by decide +kernel
theorem dX9_changes_2 : decode cX9_changes 2 = .ok (.putfield 25, 3) := by decide +kernel
theorem dX9_changes_5 : decode cX9_changes 5 = .ok (.aload_n 0, 1) := by decide +kernel
theorem dX9_changes_6 : decode cX9_changes 6 = .ok (.aload_n 0, 1) := by decide +kernel
theorem dX9_changes_7 : decode cX9_changes 7 = .ok (.iload_n 1, 1) := by decide +kernel
theorem dX9_changes_8 : decode cX9_changes 8 = .ok (.invokevirtual 156, 3) := by decide +kernel
theorem dX9_changes_11 : decode cX9_changes 11 = .ok (.iconst 1, 1) := by decide +kernel
theorem dX9_changes_12 : decode cX9_changes 12 = .ok (.invokevirtual 143, 3) := by decide +kernel
theorem dX9_changes_15 : decode cX9_changes 15 = .ok (.ifCond .eq 7, 3) := by decide +kernel
theorem dX9_changes_18 : decode cX9_changes 18 = .ok (.iconst 0, 1) := by decide +kernel
theorem dX9_changes_19 : decode cX9_changes 19 = .ok (.goto 17, 3) := by decide +kernel
theorem dX9_changes_36 : decode cX9_changes 36 = .ok (.ireturn, 1) := by decide +kernel
theorem dX9_comeNow_0 : decode cX9_comeNow 0 = .ok (.iconst 1, 1) := by decide +kernel
theorem dX9_comeNow_1 : decode cX9_comeNow 1 = .ok (.istore_n 1, 1) := by decide +kernel
theorem dX9_comeNow_2 : decode cX9_comeNow 2 = .ok (.iload_n 1, 1) := by decide +kernel
theorem dX9_comeNow_3 : decode cX9_comeNow 3 = .ok (.ifCond .eq 80, 3) := by decide +kernel
theorem dX9_comeNow_6 : decode cX9_comeNow 6 = .ok (.iconst 0, 1) := by decide +kernel
theorem dX9_comeNow_7 : decode cX9_comeNow 7 = .ok (.istore_n 1, 1) := by decide +kernel
theorem dX9_comeNow_8 : decode cX9_comeNow 8 = .ok (.aload_n 0, 1) := by decide +kernel
theorem dX9_comeNow_9 : decode cX9_comeNow 9 = .ok (.getfield 16, 3) := by decide +kernel
theorem dX9_comeNow_12 : decode cX9_comeNow 12 = .ok (.invokevirtual 37, 3) := by decide +kernel
theorem dX9_comeNow_15 : decode cX9_comeNow 15 = .ok (.astore_n 2, 1) := by decide +kernel
theorem dX9_comeNow_16 : decode cX9_comeNow 16 = .ok (.aload_n 2, 1) := by decide +kernel
theorem dX9_comeNow_17 : decode cX9_comeNow 17 = .ok (.invokeinterface 41 1, 5) := by decide +kernel
theorem dX9_comeNow_22 : decode cX9_comeNow 22 = .ok (.ifCond .eq 42, 3) := by decide +kernel
theorem dX9_comeNow_64 : decode cX9_comeNow 64 = .ok (.iload_n 1, 1) := by decide +kernel
theorem dX9_comeNow_65 : decode cX9_comeNow 65 = .ok (.ifCond .eq (-63), 3) := by decide +kernel
theorem dX9_comeNow_83 : decode cX9_comeNow 83 = .ok (.return_, 1) := by decide +kernel
theorem dX9_comes_0 : decode cX9_comes 0 = .ok (.aload_n 0, 1) := by decide +kernel
theorem dX9_comes_1 : decode cX9_comes 1 = .ok (.aload_n 0, 1) := by decide +kernel
theorem dX9_comes_2 : decode cX9_comes 2 = .ok (.aload_n 1, 1) := by decide +kernel
theorem dX9_comes_3 : decode cX9_comes 3 = .ok (.invokevirtual 184, 3) := by decide +kernel
theorem dX9_comes_6 : decode cX9_comes 6 = .ok (.invokevirtual 188, 3) := by decide +kernel
theorem dX9_comes_9 : decode cX9_comes 9 = .ok (.aload_n 0, 1) := by decide +kernel
theorem dX9_comes_10 : decode cX9_comes 10 = .ok (.invokevirtual 192, 3) := by decide +kernel
theorem dX9_comes_13 : decode cX9_comes 13 = .ok (.return_, 1) := by decide +kernel
theorem dX9_connect_0 : decode cX9_connect 0 = .ok (.aload_n 0, 1) := by decide +kernel
theorem dX9_connect_1 : decode cX9_connect 1 = .ok (.iconst 0, 1) := by decide +kernel
theorem dX9_connect_2 : decode cX9_connect 2 = .ok (.putfield 25, 3) := by decide +kernel
theorem dX9_connect_5 : decode cX9_connect 5 = .ok (.aload_n 0, 1) := by decide +kernel
theorem dX9_connect_6 : decode cX9_connect 6 = .ok (.aload_n 0, 1) := by decide +kernel
theorem dX9_connect_7 : decode cX9_connect 7 = .ok (.iload_n 1, 1) := by decide +kernel
theorem dX9_connect_8 : decode cX9_connect 8 = .ok (.invokevirtual 156, 3) := by decide +kernel
theorem dX9_connect_11 : decode cX9_connect 11 = .ok (.ifCond .ne 30, 3) := by decide +kernel
theorem dX9_connect_41 : decode cX9_connect 41 = .ok (.iconst 1, 1) := by decide +kernel
theorem dX9_connect_42 : decode cX9_connect 42 = .ok (.goto 4, 3) := by decide +kernel
theorem dX9_connect_46 : decode cX9_connect 46 = .ok (.iconst 1, 1) := by decide +kernel
theorem dX9_connect_47 : decode cX9_connect 47 = .ok (.invokevirtual 143, 3) := by decide +kernel
theorem dX9_connect_50 : decode cX9_connect 50 = .ok (.ifCond .eq 5, 3) := by decide +kernel
theorem dX9_connect_53 : decode cX9_connect 53 = .ok (.iconst 0, 1) := by decide +kernel
theorem dX9_connect_54 : decode cX9_connect 54 = .ok (.ireturn, 1) := by decide +kernel
theorem dX9_differs_0 : decode cX9_differs 0 = .ok (.aload_n 0, 1) := by decide +kernel
theorem dX9_differs_1 : decode cX9_differs 1 = .ok (.iconst 0, 1) := by decide +kernel
theorem dX9_differs_2 : decode cX9_differs 2 = .ok (.putfield 25, 3) := by decide +kernel
theorem dX9_differs_5 : decode cX9_differs 5 = .ok (.aload_n 0, 1) := by decide +kernel
theorem dX9_differs_6 : decode cX9_differs 6 = .ok (.aload_n 0, 1) := by decide +kernel
theorem dX9_differs_7 : decode cX9_differs 7 = .ok (.iload_n 1, 1) := by decide +kernel
theorem dX9_differs_8 : decode cX9_differs 8 = .ok (.invokevirtual 156, 3) := by decide +kernel
theorem dX9_differs_11 : decode cX9_differs 11 = .ok (.ifCond .ne 11, 3) := by decide +kernel
theorem dX9_differs_22 : decode cX9_differs 22 = .ok (.iconst 1, 1) := by decide +kernel
theorem dX9_differs_23 : decode cX9_differs 23 = .ok (.goto 4, 3) := by decide +kernel
theorem dX9_differs_27 : decode cX9_differs 27 = .ok (.iconst 1, 1) := by decide +kernel
theorem dX9_differs_28 : decode cX9_differs 28 = .ok (.invokevirtual 143, 3) := by decide +kernel
theorem dX9_differs_31 : decode cX9_differs 31 = .ok (.ifCond .eq 5, 3) := by decide +kernel
theorem dX9_differs_34 : decode cX9_differs 34 = .ok (.iconst 0, 1) := by decide +kernel
theorem dX9_differs_35 : decode cX9_differs 35 = .ok (.ireturn, 1) := by decide +kernel
theorem dX9_fails_0 : decode cX9_fails 0 = .ok (.iload_n 1, 1) := by decide +kernel
theorem dX9_fails_1 : decode cX9_fails 1 = .ok (.ifCond .eq 15, 3) := by decide +kernel
theorem dX9_fails_4 : decode cX9_fails 4 = .ok (.aload_n 0, 1) := by decide +kernel
theorem dX9_fails_5 : decode cX9_fails 5 = .ok (.getfield 25, 3) := by decide +kernel
theorem dX9_fails_8 : decode cX9_fails 8 = .ok (.ifCond .ne 8, 3) := by decide +kernel
theorem dX9_fails_11 : decode cX9_fails 11 = .ok (.aload_n 0, 1) := by decide +kernel
theorem dX9_fails_12 : decode cX9_fails 12 = .ok (.iload_n 2, 1) := by decide +kernel
theorem dX9_fails_13 : decode cX9_fails 13 = .ok (.putfield 25, 3) := by decide +kernel
theorem dX9_fails_16 : decode cX9_fails 16 = .ok (.aload_n 0, 1) := by decide +kernel
theorem dX9_fails_17 : decode cX9_fails 17 = .ok (.getfield 25, 3) := by decide +kernel
theorem dX9_fails_20 : decode cX9_fails 20 = .ok (.ifCond .eq 7, 3) := by decide +kernel
theorem dX9_fails_23 : decode cX9_fails 23 = .ok (.iconst 1, 1) := by decide +kernel
theorem dX9_fails_24 : decode cX9_fails 24 = .ok (.goto 4, 3) := by decide +kernel
theorem dX9_fails_27 : decode cX9_fails 27 = .ok (.iconst 0, 1) := by decide +kernel
theorem dX9_fails_28 : decode cX9_fails 28 = .ok (.ireturn, 1) := by decide +kernel
theorem dX9_findTest_0 : decode cX9_findTest 0 = .ok (.aload_n 0, 1) := by decide +kernel
theorem dX9_findTest_1 : decode cX9_findTest 1 = .ok (.iconst 0, 1) := by decide +kernel
theorem dX9_findTest_2 : decode cX9_findTest 2 = .ok (.putfield 25, 3) := by decide +kernel
theorem dX9_findTest_5 : decode cX9_findTest 5 = .ok (.aload_n 0, 1) := by decide +kernel
theorem dX9_findTest_6 : decode cX9_findTest 6 = .ok (.iload_n 1, 1) := by decide +kernel
theorem dX9_findTest_7 : decode cX9_findTest 7 = .ok (.iload_n 2, 1) := by decide +kernel
theorem dX9_findTest_8 : decode cX9_findTest 8 = .ok (.invokevirtual 250, 3) := by decide +kernel
theorem dX9_findTest_11 : decode cX9_findTest 11 = .ok (.ifCond .eq 5, 3) := by decide +kernel
theorem dX9_findTest_14 : decode cX9_findTest 14 = .ok (.iconst 0, 1) := by decide +kernel
theorem dX9_findTest_15 : decode cX9_findTest 15 = .ok (.ireturn, 1) := by decide +kernel
theorem dX9_in_0 : decode cX9_in 0 = .ok (.iload_n 0, 1) := by decide +kernel
theorem dX9_in_1 : decode cX9_in 1 = .ok (.iload_n 1, 1) := by decide +kernel
theorem dX9_in_2 : decode cX9_in 2 = .ok (.if_icmp .lt 12, 3) := by decide +kernel
theorem dX9_in_5 : decode cX9_in 5 = .ok (.iload_n 0, 1) := by decide +kernel
theorem dX9_in_6 : decode cX9_in 6 = .ok (.iload_n 2, 1) := by decide +kernel
theorem dX9_in_7 : decode cX9_in 7 = .ok (.if_icmp .gt 7, 3) := by decide +kernel
theorem dX9_in_10 : decode cX9_in 10 = .ok (.iconst 1, 1) := by decide +kernel
theorem dX9_in_11 : decode cX9_in 11 = .ok (.goto 4, 3) := by decide +kernel
theorem dX9_in_14 : decode cX9_in 14 = .ok (.iconst 0, 1) := by decide +kernel
theorem dX9_in_15 : decode cX9_in 15 = .ok (.ireturn, 1) := by decide +kernel
theorem dX9_init_0 : decode cX9_init 0 = .ok (.aload_n 0, 1) := by decide +kernel
theorem dX9_init_1 : decode cX9_init 1 = .ok (.invokespecial 1, 3) := by decide +kernel
theorem dX9_init_4 : decode cX9_init 4 = .ok (.aload_n 0, 1) := by decide +kernel
theorem dX9_init_5 : decode cX9_init 5 = .ok (.new 7, 3) := by decide +kernel
theorem dX9_init_8 : decode cX9_init 8 = .ok (.dup, 1) := by decide +kernel
theorem dX9_init_9 : decode cX9_init 9 = .ok (.invokespecial 9, 3) := by decide +kernel
theorem dX9_init_12 : decode cX9_init 12 = .ok (.putfield 10, 3) := by decide +kernel
theorem dX9_init_15 : decode cX9_init 15 = .ok (.aload_n 0, 1) := by decide +kernel
theorem dX9_init_16 : decode cX9_init 16 = .ok (.new 7, 3) := by decide +kernel
theorem dX9_init_19 : decode cX9_init 19 = .ok (.dup, 1) := by decide +kernel
theorem dX9_init_20 : decode cX9_init 20 = .ok (.invokespecial 9, 3) := by decide +kernel
theorem dX9_init_23 : decode cX9_init 23 = .ok (.putfield 16, 3) := by decide +kernel
theorem dX9_init_26 : decode cX9_init 26 = .ok (.aload_n 0, 1) := by decide +kernel
theorem dX9_init_27 : decode cX9_init 27 = .ok (.new 7, 3) := by decide +kernel
theorem dX9_init_30 : decode cX9_init 30 = .ok (.dup, 1) := by decide +kernel
theorem dX9_init_31 : decode cX9_init 31 = .ok (.invokespecial 9, 3) := by decide +kernel
theorem dX9_init_34 : decode cX9_init 34 = .ok (.putfield 19, 3) := by decide +kernel
theorem dX9_init_37 : decode cX9_init 37 = .ok (.aload_n 0, 1) := by decide +kernel
theorem dX9_init_38 : decode cX9_init 38 = .ok (.new 7, 3) := by decide +kernel
theorem dX9_init_41 : decode cX9_init 41 = .ok (.dup, 1) := by decide +kernel
theorem dX9_init_42 : decode cX9_init 42 = .ok (.invokespecial 9, 3) := by decide +kernel
theorem dX9_init_45 : decode cX9_init 45 = .ok (.putfield 22, 3) := by decide +kernel
theorem dX9_init_48 : decode cX9_init 48 = .ok (.return_, 1) := by decide +kernel
theorem dX9_isSound_0 : decode cX9_isSound 0 = .ok (.aload_n 0, 1) := by decide +kernel
theorem dX9_isSound_1 : decode cX9_isSound 1 = .ok (.iconst 0, 1) := by decide +kernel
theorem dX9_isSound_2 : decode cX9_isSound 2 = .ok (.putfield 25, 3) := by decide +kernel
theorem dX9_isSound_5 : decode cX9_isSound 5 = .ok (.iconst 1, 1) := by decide +kernel
theorem dX9_isSound_6 : decode cX9_isSound 6 = .ok (.ireturn, 1) := by decide +kernel
theorem dX9_knownShare_0 : decode cX9_knownShare 0 = .ok (.aload_n 0, 1) := by decide +kernel
theorem dX9_knownShare_1 : decode cX9_knownShare 1 = .ok (.iconst 0, 1) := by decide +kernel
theorem dX9_knownShare_2 : decode cX9_knownShare 2 = .ok (.putfield 25, 3) := by decide +kernel
theorem dX9_knownShare_5 : decode cX9_knownShare 5 = .ok (.aload_n 0, 1) := by decide +kernel
theorem dX9_knownShare_6 : decode cX9_knownShare 6 = .ok (.aload_n 0, 1) := by decide +kernel
theorem dX9_knownShare_7 : decode cX9_knownShare 7 = .ok (.getfield 10, 3) := by decide +kernel
theorem dX9_knownShare_10 : decode cX9_knownShare 10 = .ok (.invokevirtual 258, 3) := by decide +kernel
theorem dX9_knownShare_13 : decode cX9_knownShare 13 = .ok (.iconst 1, 1) := by decide +kernel
theorem dX9_knownShare_14 : decode cX9_knownShare 14 = .ok (.invokevirtual 143, 3) := by decide +kernel
theorem dX9_knownShare_17 : decode cX9_knownShare 17 = .ok (.ifCond .eq 5, 3) := by decide +kernel
theorem dX9_knownShare_20 : decode cX9_knownShare 20 = .ok (.fconst 0, 1) := by decide +kernel
theorem dX9_knownShare_21 : decode cX9_knownShare 21 = .ok (.freturn, 1) := by decide +kernel
theorem dX9_lastChange_0 : decode cX9_lastChange 0 = .ok (.aload_n 0, 1) := by decide +kernel
theorem dX9_lastChange_1 : decode cX9_lastChange 1 = .ok (.iconst 0, 1) := by decide +kernel
theorem dX9_lastChange_2 : decode cX9_lastChange 2 = .ok (.putfield 25, 3) := by decide +kernel
theorem dX9_lastChange_5 : decode cX9_lastChange 5 = .ok (.aload_n 0, 1) := by decide +kernel
theorem dX9_lastChange_6 : decode cX9_lastChange 6 = .ok (.aload_n 0, 1) := by decide +kernel
theorem dX9_lastChange_7 : decode cX9_lastChange 7 = .ok (.iload_n 1, 1) := by decide +kernel
theorem dX9_lastChange_8 : decode cX9_lastChange 8 = .ok (.invokevirtual 156, 3) := by decide +kernel
theorem dX9_lastChange_11 : decode cX9_lastChange 11 = .ok (.iconst 1, 1) := by decide +kernel
theorem dX9_lastChange_12 : decode cX9_lastChange 12 = .ok (.invokevirtual 143, 3) := by decide +kernel
theorem dX9_lastChange_15 : decode cX9_lastChange 15 = .ok (.ifCond .ne 34, 3) := by decide +kernel
theorem dX9_lastChange_49 : decode cX9_lastChange 49 = .ok (.iconst 0, 1) := by decide +kernel
theorem dX9_lastChange_50 : decode cX9_lastChange 50 = .ok (.goto 17, 3) := by decide +kernel
theorem dX9_lastChange_67 : decode cX9_lastChange 67 = .ok (.ireturn, 1) := by decide +kernel
theorem dX9_look_0 : decode cX9_look 0 = .ok (.aload_n 0, 1) := by decide +kernel
theorem dX9_look_1 : decode cX9_look 1 = .ok (.getfield 16, 3) := by decide +kernel
theorem dX9_look_4 : decode cX9_look 4 = .ok (.invokevirtual 37, 3) := by decide +kernel
theorem dX9_look_7 : decode cX9_look 7 = .ok (.astore_n 2, 1) := by decide +kernel
theorem dX9_look_8 : decode cX9_look 8 = .ok (.aload_n 2, 1) := by decide +kernel
theorem dX9_look_9 : decode cX9_look 9 = .ok (.invokeinterface 41 1, 5) := by decide +kernel
theorem dX9_look_14 : decode cX9_look 14 = .ok (.ifCond .eq 158, 3) := by decide +kernel
theorem dX9_look_172 : decode cX9_look 172 = .ok (.return_, 1) := by decide +kernel
theorem dX9_mark_0 : decode cX9_mark 0 = .ok (.aload_n 0, 1) := by decide +kernel
theorem dX9_mark_1 : decode cX9_mark 1 = .ok (.iconst 0, 1) := by decide +kernel
theorem dX9_mark_2 : decode cX9_mark 2 = .ok (.putfield 25, 3) := by decide +kernel
theorem dX9_mark_5 : decode cX9_mark 5 = .ok (.aload_n 0, 1) := by decide +kernel
theorem dX9_mark_6 : decode cX9_mark 6 = .ok (.aload_n 0, 1) := by decide +kernel
theorem dX9_mark_7 : decode cX9_mark 7 = .ok (.iload_n 1, 1) := by decide +kernel
theorem dX9_mark_8 : decode cX9_mark 8 = .ok (.invokevirtual 156, 3) := by decide +kernel
theorem dX9_mark_11 : decode cX9_mark 11 = .ok (.iconst 1, 1) := by decide +kernel
theorem dX9_mark_12 : decode cX9_mark 12 = .ok (.invokevirtual 143, 3) := by decide +kernel
theorem dX9_mark_15 : decode cX9_mark 15 = .ok (.ifCond .eq 5, 3) := by decide +kernel
theorem dX9_mark_18 : decode cX9_mark 18 = .ok (.iconst 0, 1) := by decide +kernel
theorem dX9_mark_19 : decode cX9_mark 19 = .ok (.ireturn, 1) := by decide +kernel
theorem dX9_meanArrival_0 : decode cX9_meanArrival 0 = .ok (.aload_n 0, 1) := by decide +kernel
theorem dX9_meanArrival_1 : decode cX9_meanArrival 1 = .ok (.iconst 0, 1) := by decide +kernel
theorem dX9_meanArrival_2 : decode cX9_meanArrival 2 = .ok (.putfield 25, 3) := by decide +kernel
theorem dX9_meanArrival_5 : decode cX9_meanArrival 5 = .ok (.aload_n 0, 1) := by decide +kernel
theorem dX9_meanArrival_6 : decode cX9_meanArrival 6 = .ok (.aload_n 0, 1) := by decide +kernel
theorem dX9_meanArrival_7 : decode cX9_meanArrival 7 = .ok (.getfield 10, 3) := by decide +kernel
theorem dX9_meanArrival_10 : decode cX9_meanArrival 10 = .ok (.invokevirtual 258, 3) := by decide +kernel
theorem dX9_meanArrival_13 : decode cX9_meanArrival 13 = .ok (.iconst 1, 1) := by decide +kernel
theorem dX9_meanArrival_14 : decode cX9_meanArrival 14 = .ok (.invokevirtual 143, 3) := by decide +kernel
theorem dX9_meanArrival_17 : decode cX9_meanArrival 17 = .ok (.ifCond .eq 5, 3) := by decide +kernel
theorem dX9_meanArrival_20 : decode cX9_meanArrival 20 = .ok (.dconst 0, 1) := by decide +kernel
theorem dX9_meanArrival_21 : decode cX9_meanArrival 21 = .ok (.dreturn, 1) := by decide +kernel
theorem dX9_no_0 : decode cX9_no 0 = .ok (.iload_n 1, 1) := by decide +kernel
theorem dX9_no_1 : decode cX9_no 1 = .ok (.iconst 0, 1) := by decide +kernel
theorem dX9_no_2 : decode cX9_no 2 = .ok (.aload_n 0, 1) := by decide +kernel
theorem dX9_no_3 : decode cX9_no 3 = .ok (.getfield 10, 3) := by decide +kernel
theorem dX9_no_6 : decode cX9_no 6 = .ok (.invokevirtual 29, 3) := by decide +kernel
theorem dX9_no_9 : decode cX9_no 9 = .ok (.iconst 1, 1) := by decide +kernel
theorem dX9_no_10 : decode cX9_no 10 = .ok (.isub, 1) := by decide +kernel
theorem dX9_no_11 : decode cX9_no 11 = .ok (.invokestatic 33, 3) := by decide +kernel
theorem dX9_no_14 : decode cX9_no 14 = .ok (.ifCond .ne 7, 3) := by decide +kernel
theorem dX9_no_17 : decode cX9_no 17 = .ok (.iconst 1, 1) := by decide +kernel
theorem dX9_no_18 : decode cX9_no 18 = .ok (.goto 4, 3) := by decide +kernel
theorem dX9_no_22 : decode cX9_no 22 = .ok (.ireturn, 1) := by decide +kernel
theorem dX9_pass_0 : decode cX9_pass 0 = .ok (.aload_n 0, 1) := by decide +kernel
theorem dX9_pass_1 : decode cX9_pass 1 = .ok (.iconst 0, 1) := by decide +kernel
theorem dX9_pass_2 : decode cX9_pass 2 = .ok (.putfield 25, 3) := by decide +kernel
theorem dX9_pass_5 : decode cX9_pass 5 = .ok (.aload_n 0, 1) := by decide +kernel
theorem dX9_pass_6 : decode cX9_pass 6 = .ok (.iload_n 1, 1) := by decide +kernel
theorem dX9_pass_7 : decode cX9_pass 7 = .ok (.iconst 1, 1) := by decide +kernel
theorem dX9_pass_8 : decode cX9_pass 8 = .ok (.bipush 100, 2) := by decide +kernel
theorem dX9_pass_10 : decode cX9_pass 10 = .ok (.invokestatic 33, 3) := by decide +kernel
theorem dX9_pass_13 : decode cX9_pass 13 = .ok (.ifCond .ne 7, 3) := by decide +kernel
theorem dX9_pass_16 : decode cX9_pass 16 = .ok (.iconst 1, 1) := by decide +kernel
theorem dX9_pass_17 : decode cX9_pass 17 = .ok (.goto 4, 3) := by decide +kernel
theorem dX9_pass_20 : decode cX9_pass 20 = .ok (.iconst 0, 1) := by decide +kernel
theorem dX9_pass_21 : decode cX9_pass 21 = .ok (.iconst 1, 1) := by decide +kernel
theorem dX9_pass_22 : decode cX9_pass 22 = .ok (.invokevirtual 143, 3) := by decide +kernel
theorem dX9_pass_25 : decode cX9_pass 25 = .ok (.ifCond .ne 28, 3) := by decide +kernel
theorem dX9_pass_28 : decode cX9_pass 28 = .ok (.aload_n 0, 1) := by decide +kernel
theorem dX9_pass_29 : decode cX9_pass 29 = .ok (.aload_n 0, 1) := by decide +kernel
theorem dX9_pass_30 : decode cX9_pass 30 = .ok (.getfield 107, 3) := by decide +kernel
theorem dX9_pass_33 : decode cX9_pass 33 = .ok (.iload_n 1, 1) := by decide +kernel
theorem dX9_pass_34 : decode cX9_pass 34 = .ok (.iadd, 1) := by decide +kernel
theorem dX9_pass_35 : decode cX9_pass 35 = .ok (.sipush 9999, 3) := by decide +kernel
theorem dX9_pass_38 : decode cX9_pass 38 = .ok (.if_icmp .le 7, 3) := by decide +kernel
theorem dX9_pass_45 : decode cX9_pass 45 = .ok (.iconst 0, 1) := by decide +kernel
theorem dX9_pass_46 : decode cX9_pass 46 = .ok (.iconst 2, 1) := by decide +kernel
theorem dX9_pass_47 : decode cX9_pass 47 = .ok (.invokevirtual 143, 3) := by decide +kernel
theorem dX9_pass_50 : decode cX9_pass 50 = .ok (.ifCond .eq 5, 3) := by decide +kernel
theorem dX9_pass_53 : decode cX9_pass 53 = .ok (.iconst 0, 1) := by decide +kernel
theorem dX9_pass_54 : decode cX9_pass 54 = .ok (.ireturn, 1) := by decide +kernel
theorem dX9_pass_55 : decode cX9_pass 55 = .ok (.iconst 0, 1) := by decide +kernel
theorem dX9_pass_56 : decode cX9_pass 56 = .ok (.istore_n 2, 1) := by decide +kernel
theorem dX9_pass_57 : decode cX9_pass 57 = .ok (.iload_n 2, 1) := by decide +kernel
theorem dX9_pass_58 : decode cX9_pass 58 = .ok (.iload_n 1, 1) := by decide +kernel
theorem dX9_pass_59 : decode cX9_pass 59 = .ok (.if_icmp .ge 23, 3) := by decide +kernel
theorem dX9_pass_62 : decode cX9_pass 62 = .ok (.aload_n 0, 1) := by decide +kernel
theorem dX9_pass_63 : decode cX9_pass 63 = .ok (.dup, 1) := by decide +kernel
theorem dX9_pass_64 : decode cX9_pass 64 = .ok (.getfield 107, 3) := by decide +kernel
theorem dX9_pass_67 : decode cX9_pass 67 = .ok (.iconst 1, 1) := by decide +kernel
theorem dX9_pass_68 : decode cX9_pass 68 = .ok (.iadd, 1) := by decide +kernel
theorem dX9_pass_69 : decode cX9_pass 69 = .ok (.putfield 107, 3) := by decide +kernel
theorem dX9_pass_72 : decode cX9_pass 72 = .ok (.aload_n 0, 1) := by decide +kernel
theorem dX9_pass_73 : decode cX9_pass 73 = .ok (.invokevirtual 192, 3) := by decide +kernel
theorem dX9_pass_76 : decode cX9_pass 76 = .ok (.iinc 2 1, 3) := by decide +kernel
theorem dX9_pass_79 : decode cX9_pass 79 = .ok (.goto (-22), 3) := by decide +kernel
theorem dX9_pass_82 : decode cX9_pass 82 = .ok (.aload_n 0, 1) := by decide +kernel
theorem dX9_pass_83 : decode cX9_pass 83 = .ok (.getfield 107, 3) := by decide +kernel
theorem dX9_pass_86 : decode cX9_pass 86 = .ok (.ireturn, 1) := by decide +kernel
theorem dX9_pending_0 : decode cX9_pending 0 = .ok (.aload_n 0, 1) := by decide +kernel
theorem dX9_pending_1 : decode cX9_pending 1 = .ok (.iconst 0, 1) := by decide +kernel
theorem dX9_pending_2 : decode cX9_pending 2 = .ok (.putfield 25, 3) := by decide +kernel
theorem dX9_pending_5 : decode cX9_pending 5 = .ok (.iconst 0, 1) := by decide +kernel
theorem dX9_pending_6 : decode cX9_pending 6 = .ok (.istore_n 1, 1) := by decide +kernel
theorem dX9_pending_7 : decode cX9_pending 7 = .ok (.aload_n 0, 1) := by decide +kernel
theorem dX9_pending_8 : decode cX9_pending 8 = .ok (.getfield 16, 3) := by decide +kernel
theorem dX9_pending_11 : decode cX9_pending 11 = .ok (.invokevirtual 37, 3) := by decide +kernel
theorem dX9_pending_14 : decode cX9_pending 14 = .ok (.astore_n 2, 1) := by decide +kernel
theorem dX9_pending_15 : decode cX9_pending 15 = .ok (.aload_n 2, 1) := by decide +kernel
theorem dX9_pending_16 : decode cX9_pending 16 = .ok (.invokeinterface 41 1, 5) := by decide +kernel
theorem dX9_pending_21 : decode cX9_pending 21 = .ok (.ifCond .eq 32, 3) := by decide +kernel
theorem dX9_pending_53 : decode cX9_pending 53 = .ok (.iload_n 1, 1) := by decide +kernel
theorem dX9_pending_54 : decode cX9_pending 54 = .ok (.ireturn, 1) := by decide +kernel
theorem dX9_putInOrder_0 : decode cX9_putInOrder 0 = .ok (.bipush 40, 2) := by decide +kernel
theorem dX9_putInOrder_2 : decode cX9_putInOrder 2 = .ok (.newarray .boolean, 2) := by decide +kernel
theorem dX9_putInOrder_4 : decode cX9_putInOrder 4 = .ok (.astore_n 1, 1) := by decide +kernel
theorem dX9_putInOrder_5 : decode cX9_putInOrder 5 = .ok (.aload_n 0, 1) := by decide +kernel
theorem dX9_putInOrder_6 : decode cX9_putInOrder 6 = .ok (.getfield 22, 3) := by decide +kernel
theorem dX9_putInOrder_9 : decode cX9_putInOrder 9 = .ok (.invokevirtual 93, 3) := by decide +kernel
theorem dX9_putInOrder_12 : decode cX9_putInOrder 12 = .ok (.aload_n 0, 1) := by decide +kernel
theorem dX9_putInOrder_13 : decode cX9_putInOrder 13 = .ok (.getfield 22, 3) := by decide +kernel
theorem dX9_putInOrder_16 : decode cX9_putInOrder 16 = .ok (.invokevirtual 29, 3) := by decide +kernel
theorem dX9_putInOrder_19 : decode cX9_putInOrder 19 = .ok (.aload_n 0, 1) := by decide +kernel
theorem dX9_putInOrder_20 : decode cX9_putInOrder 20 = .ok (.getfield 10, 3) := by decide +kernel
theorem dX9_putInOrder_23 : decode cX9_putInOrder 23 = .ok (.invokevirtual 29, 3) := by decide +kernel
theorem dX9_putInOrder_26 : decode cX9_putInOrder 26 = .ok (.if_icmp .ge 139, 3) := by decide +kernel
theorem dX9_putInOrder_29 : decode cX9_putInOrder 29 = .ok (.iconst 0, 1) := by decide +kernel
theorem dX9_putInOrder_30 : decode cX9_putInOrder 30 = .ok (.istore_n 2, 1) := by decide +kernel
theorem dX9_putInOrder_31 : decode cX9_putInOrder 31 = .ok (.iload_n 2, 1) := by decide +kernel
theorem dX9_putInOrder_32 : decode cX9_putInOrder 32 = .ok (.aload_n 0, 1) := by decide +kernel
theorem dX9_putInOrder_33 : decode cX9_putInOrder 33 = .ok (.getfield 10, 3) := by decide +kernel
theorem dX9_putInOrder_36 : decode cX9_putInOrder 36 = .ok (.invokevirtual 29, 3) := by decide +kernel
theorem dX9_putInOrder_39 : decode cX9_putInOrder 39 = .ok (.if_icmp .ge 123, 3) := by decide +kernel
theorem dX9_putInOrder_42 : decode cX9_putInOrder 42 = .ok (.aload_n 1, 1) := by decide +kernel
theorem dX9_putInOrder_43 : decode cX9_putInOrder 43 = .ok (.iload_n 2, 1) := by decide +kernel
theorem dX9_putInOrder_44 : decode cX9_putInOrder 44 = .ok (.baload, 1) := by decide +kernel
theorem dX9_putInOrder_45 : decode cX9_putInOrder 45 = .ok (.ifCond .ne 7, 3) := by decide +kernel
theorem dX9_putInOrder_48 : decode cX9_putInOrder 48 = .ok (.iconst 1, 1) := by decide +kernel
theorem dX9_putInOrder_49 : decode cX9_putInOrder 49 = .ok (.goto 4, 3) := by decide +kernel
theorem dX9_putInOrder_53 : decode cX9_putInOrder 53 = .ok (.istore_n 3, 1) := by decide +kernel
theorem dX9_putInOrder_54 : decode cX9_putInOrder 54 = .ok (.aload_n 0, 1) := by decide +kernel
theorem dX9_putInOrder_55 : decode cX9_putInOrder 55 = .ok (.getfield 16, 3) := by decide +kernel
theorem dX9_putInOrder_58 : decode cX9_putInOrder 58 = .ok (.invokevirtual 37, 3) := by decide +kernel
theorem dX9_putInOrder_61 : decode cX9_putInOrder 61 = .ok (.astore 4, 2) := by decide +kernel
theorem dX9_putInOrder_63 : decode cX9_putInOrder 63 = .ok (.aload 4, 2) := by decide +kernel
theorem dX9_putInOrder_65 : decode cX9_putInOrder 65 = .ok (.invokeinterface 41 1, 5) := by decide +kernel
theorem dX9_putInOrder_70 : decode cX9_putInOrder 70 = .ok (.ifCond .eq 66, 3) := by decide +kernel
theorem dX9_putInOrder_136 : decode cX9_putInOrder 136 = .ok (.iload_n 3, 1) := by decide +kernel
theorem dX9_putInOrder_137 : decode cX9_putInOrder 137 = .ok (.ifCond .eq 19, 3) := by decide +kernel
theorem dX9_putInOrder_140 : decode cX9_putInOrder 140 = .ok (.aload_n 1, 1) := by decide +kernel
theorem dX9_putInOrder_141 : decode cX9_putInOrder 141 = .ok (.iload_n 2, 1) := by decide +kernel
theorem dX9_putInOrder_142 : decode cX9_putInOrder 142 = .ok (.iconst 1, 1) := by decide +kernel
theorem dX9_putInOrder_143 : decode cX9_putInOrder 143 = .ok (.bastore, 1) := by decide +kernel
theorem dX9_putInOrder_144 : decode cX9_putInOrder 144 = .ok (.aload_n 0, 1) := by decide +kernel
theorem dX9_putInOrder_145 : decode cX9_putInOrder 145 = .ok (.getfield 22, 3) := by decide +kernel
theorem dX9_putInOrder_148 : decode cX9_putInOrder 148 = .ok (.iload_n 2, 1) := by decide +kernel
theorem dX9_putInOrder_149 : decode cX9_putInOrder 149 = .ok (.invokestatic 96, 3) := by decide +kernel
theorem dX9_putInOrder_152 : decode cX9_putInOrder 152 = .ok (.invokevirtual 100, 3) := by decide +kernel
theorem dX9_putInOrder_155 : decode cX9_putInOrder 155 = .ok (.pop, 1) := by decide +kernel
theorem dX9_putInOrder_156 : decode cX9_putInOrder 156 = .ok (.iinc 2 1, 3) := by decide +kernel
theorem dX9_putInOrder_159 : decode cX9_putInOrder 159 = .ok (.goto (-128), 3) := by decide +kernel
theorem dX9_putInOrder_162 : decode cX9_putInOrder 162 = .ok (.goto (-150), 3) := by decide +kernel
theorem dX9_putInOrder_165 : decode cX9_putInOrder 165 = .ok (.return_, 1) := by decide +kernel
theorem dX9_reset_0 : decode cX9_reset 0 = .ok (.aload_n 0, 1) := by decide +kernel
theorem dX9_reset_1 : decode cX9_reset 1 = .ok (.iconst 0, 1) := by decide +kernel
theorem dX9_reset_2 : decode cX9_reset 2 = .ok (.putfield 25, 3) := by decide +kernel
theorem dX9_reset_5 : decode cX9_reset 5 = .ok (.aload_n 0, 1) := by decide +kernel
theorem dX9_reset_6 : decode cX9_reset 6 = .ok (.aload_n 0, 1) := by decide +kernel
theorem dX9_reset_7 : decode cX9_reset 7 = .ok (.iload_n 1, 1) := by decide +kernel
theorem dX9_reset_8 : decode cX9_reset 8 = .ok (.invokevirtual 156, 3) := by decide +kernel
theorem dX9_reset_11 : decode cX9_reset 11 = .ok (.ifCond .ne 22, 3) := by decide +kernel
theorem dX9_reset_33 : decode cX9_reset 33 = .ok (.iconst 1, 1) := by decide +kernel
theorem dX9_reset_34 : decode cX9_reset 34 = .ok (.goto 4, 3) := by decide +kernel
theorem dX9_reset_38 : decode cX9_reset 38 = .ok (.iconst 1, 1) := by decide +kernel
theorem dX9_reset_39 : decode cX9_reset 39 = .ok (.invokevirtual 143, 3) := by decide +kernel
theorem dX9_reset_42 : decode cX9_reset 42 = .ok (.ifCond .ne 28, 3) := by decide +kernel
theorem dX9_reset_70 : decode cX9_reset 70 = .ok (.iconst 0, 1) := by decide +kernel
theorem dX9_reset_71 : decode cX9_reset 71 = .ok (.ireturn, 1) := by decide +kernel
theorem dX9_restart_0 : decode cX9_restart 0 = .ok (.aload_n 0, 1) := by decide +kernel
theorem dX9_restart_1 : decode cX9_restart 1 = .ok (.iconst 0, 1) := by decide +kernel
theorem dX9_restart_2 : decode cX9_restart 2 = .ok (.putfield 107, 3) := by decide +kernel
theorem dX9_restart_5 : decode cX9_restart 5 = .ok (.aload_n 0, 1) := by decide +kernel
theorem dX9_restart_6 : decode cX9_restart 6 = .ok (.invokevirtual 110, 3) := by decide +kernel
theorem dX9_restart_9 : decode cX9_restart 9 = .ok (.aload_n 0, 1) := by decide +kernel
theorem dX9_restart_10 : decode cX9_restart 10 = .ok (.getfield 10, 3) := by decide +kernel
theorem dX9_restart_13 : decode cX9_restart 13 = .ok (.invokevirtual 37, 3) := by decide +kernel
theorem dX9_restart_16 : decode cX9_restart 16 = .ok (.astore_n 1, 1) := by decide +kernel
theorem dX9_restart_17 : decode cX9_restart 17 = .ok (.aload_n 1, 1) := by decide +kernel
theorem dX9_restart_18 : decode cX9_restart 18 = .ok (.invokeinterface 41 1, 5) := by decide +kernel
theorem dX9_restart_23 : decode cX9_restart 23 = .ok (.ifCond .eq 32, 3) := by decide +kernel
theorem dX9_restart_26 : decode cX9_restart 26 = .ok (.aload_n 1, 1) := by decide +kernel
theorem dX9_restart_27 : decode cX9_restart 27 = .ok (.invokeinterface 47 1, 5) := by decide +kernel
theorem dX9_restart_32 : decode cX9_restart 32 = .ok (.checkcast 51, 3) := by decide +kernel
theorem dX9_restart_35 : decode cX9_restart 35 = .ok (.astore_n 2, 1) := by decide +kernel
theorem dX9_restart_36 : decode cX9_restart 36 = .ok (.aload_n 2, 1) := by decide +kernel
theorem dX9_restart_37 : decode cX9_restart 37 = .ok (.bipush 120, 2) := by decide +kernel
theorem dX9_restart_39 : decode cX9_restart 39 = .ok (.putfield 104, 3) := by decide +kernel
theorem dX9_restart_42 : decode cX9_restart 42 = .ok (.aload_n 2, 1) := by decide +kernel
theorem dX9_restart_43 : decode cX9_restart 43 = .ok (.iconst 0, 1) := by decide +kernel
theorem dX9_restart_44 : decode cX9_restart 44 = .ok (.putfield 113, 3) := by decide +kernel
theorem dX9_restart_47 : decode cX9_restart 47 = .ok (.aload_n 2, 1) := by decide +kernel
theorem dX9_restart_48 : decode cX9_restart 48 = .ok (.iconst (-1), 1) := by decide +kernel
theorem dX9_restart_49 : decode cX9_restart 49 = .ok (.putfield 116, 3) := by decide +kernel
theorem dX9_restart_52 : decode cX9_restart 52 = .ok (.goto (-35), 3) := by decide +kernel
theorem dX9_restart_55 : decode cX9_restart 55 = .ok (.aload_n 0, 1) := by decide +kernel
theorem dX9_restart_56 : decode cX9_restart 56 = .ok (.aload_n 0, 1) := by decide +kernel
theorem dX9_restart_57 : decode cX9_restart 57 = .ok (.invokevirtual 119, 3) := by decide +kernel
theorem dX9_restart_60 : decode cX9_restart 60 = .ok (.iconst (-1), 1) := by decide +kernel
theorem dX9_restart_61 : decode cX9_restart 61 = .ok (.bipush 120, 2) := by decide +kernel
theorem dX9_restart_63 : decode cX9_restart 63 = .ok (.invokevirtual 123, 3) := by decide +kernel
theorem dX9_restart_66 : decode cX9_restart 66 = .ok (.astore_n 1, 1) := by decide +kernel
theorem dX9_restart_67 : decode cX9_restart 67 = .ok (.iconst 0, 1) := by decide +kernel
theorem dX9_restart_68 : decode cX9_restart 68 = .ok (.istore_n 2, 1) := by decide +kernel
theorem dX9_restart_69 : decode cX9_restart 69 = .ok (.iload_n 2, 1) := by decide +kernel
theorem dX9_restart_70 : decode cX9_restart 70 = .ok (.aload_n 0, 1) := by decide +kernel
theorem dX9_restart_71 : decode cX9_restart 71 = .ok (.getfield 10, 3) := by decide +kernel
theorem dX9_restart_74 : decode cX9_restart 74 = .ok (.invokevirtual 29, 3) := by decide +kernel
theorem dX9_restart_77 : decode cX9_restart 77 = .ok (.if_icmp .ge 26, 3) := by decide +kernel
theorem dX9_restart_80 : decode cX9_restart 80 = .ok (.aload_n 0, 1) := by decide +kernel
theorem dX9_restart_81 : decode cX9_restart 81 = .ok (.getfield 10, 3) := by decide +kernel
theorem dX9_restart_84 : decode cX9_restart 84 = .ok (.iload_n 2, 1) := by decide +kernel
theorem dX9_restart_85 : decode cX9_restart 85 = .ok (.invokevirtual 65, 3) := by decide +kernel
theorem dX9_restart_88 : decode cX9_restart 88 = .ok (.checkcast 51, 3) := by decide +kernel
theorem dX9_restart_91 : decode cX9_restart 91 = .ok (.aload_n 1, 1) := by decide +kernel
theorem dX9_restart_92 : decode cX9_restart 92 = .ok (.iload_n 2, 1) := by decide +kernel
theorem dX9_restart_93 : decode cX9_restart 93 = .ok (.caload, 1) := by decide +kernel
theorem dX9_restart_94 : decode cX9_restart 94 = .ok (.putfield 104, 3) := by decide +kernel
theorem dX9_restart_97 : decode cX9_restart 97 = .ok (.iinc 2 1, 3) := by decide +kernel
theorem dX9_restart_100 : decode cX9_restart 100 = .ok (.goto (-31), 3) := by decide +kernel
theorem dX9_restart_103 : decode cX9_restart 103 = .ok (.aload_n 0, 1) := by decide +kernel
theorem dX9_restart_104 : decode cX9_restart 104 = .ok (.getfield 16, 3) := by decide +kernel
theorem dX9_restart_107 : decode cX9_restart 107 = .ok (.invokevirtual 37, 3) := by decide +kernel
theorem dX9_restart_110 : decode cX9_restart 110 = .ok (.astore_n 2, 1) := by decide +kernel
theorem dX9_restart_111 : decode cX9_restart 111 = .ok (.aload_n 2, 1) := by decide +kernel
theorem dX9_restart_112 : decode cX9_restart 112 = .ok (.invokeinterface 41 1, 5) := by decide +kernel
theorem dX9_restart_117 : decode cX9_restart 117 = .ok (.ifCond .eq 30, 3) := by decide +kernel
theorem dX9_restart_147 : decode cX9_restart 147 = .ok (.return_, 1) := by decide +kernel
theorem dX9_rows_0 : decode cX9_rows 0 = .ok (.iconst 1, 1) := by decide +kernel
theorem dX9_rows_1 : decode cX9_rows 1 = .ok (.aload_n 0, 1) := by decide +kernel
theorem dX9_rows_2 : decode cX9_rows 2 = .ok (.invokevirtual 140, 3) := by decide +kernel
theorem dX9_rows_5 : decode cX9_rows 5 = .ok (.ishl, 1) := by decide +kernel
theorem dX9_rows_6 : decode cX9_rows 6 = .ok (.ireturn, 1) := by decide +kernel
theorem dX9_setInput_0 : decode cX9_setInput 0 = .ok (.aload_n 0, 1) := by decide +kernel
theorem dX9_setInput_1 : decode cX9_setInput 1 = .ok (.iconst 0, 1) := by decide +kernel
theorem dX9_setInput_2 : decode cX9_setInput 2 = .ok (.putfield 25, 3) := by decide +kernel
theorem dX9_setInput_5 : decode cX9_setInput 5 = .ok (.aload_n 0, 1) := by decide +kernel
theorem dX9_setInput_6 : decode cX9_setInput 6 = .ok (.aload_n 0, 1) := by decide +kernel
theorem dX9_setInput_7 : decode cX9_setInput 7 = .ok (.iload_n 1, 1) := by decide +kernel
theorem dX9_setInput_8 : decode cX9_setInput 8 = .ok (.invokevirtual 156, 3) := by decide +kernel
theorem dX9_setInput_11 : decode cX9_setInput 11 = .ok (.ifCond .ne 22, 3) := by decide +kernel
theorem dX9_setInput_33 : decode cX9_setInput 33 = .ok (.iconst 1, 1) := by decide +kernel
theorem dX9_setInput_34 : decode cX9_setInput 34 = .ok (.goto 4, 3) := by decide +kernel
theorem dX9_setInput_38 : decode cX9_setInput 38 = .ok (.iconst 1, 1) := by decide +kernel
theorem dX9_setInput_39 : decode cX9_setInput 39 = .ok (.invokevirtual 143, 3) := by decide +kernel
theorem dX9_setInput_42 : decode cX9_setInput 42 = .ok (.ifCond .ne 25, 3) := by decide +kernel
theorem dX9_setInput_67 : decode cX9_setInput 67 = .ok (.iconst 0, 1) := by decide +kernel
theorem dX9_setInput_68 : decode cX9_setInput 68 = .ok (.ireturn, 1) := by decide +kernel
theorem dX9_settled_0 : decode cX9_settled 0 = .ok (.aload_n 0, 1) := by decide +kernel
theorem dX9_settled_1 : decode cX9_settled 1 = .ok (.iconst 0, 1) := by decide +kernel
theorem dX9_settled_2 : decode cX9_settled 2 = .ok (.putfield 25, 3) := by decide +kernel
theorem dX9_settled_5 : decode cX9_settled 5 = .ok (.aload_n 0, 1) := by decide +kernel
theorem dX9_settled_6 : decode cX9_settled 6 = .ok (.aload_n 0, 1) := by decide +kernel
theorem dX9_settled_7 : decode cX9_settled 7 = .ok (.iload_n 1, 1) := by decide +kernel
theorem dX9_settled_8 : decode cX9_settled 8 = .ok (.invokevirtual 156, 3) := by decide +kernel
theorem dX9_settled_11 : decode cX9_settled 11 = .ok (.iconst 1, 1) := by decide +kernel
theorem dX9_settled_12 : decode cX9_settled 12 = .ok (.invokevirtual 143, 3) := by decide +kernel
theorem dX9_settled_15 : decode cX9_settled 15 = .ok (.ifCond .eq 7, 3) := by decide +kernel
theorem dX9_settled_18 : decode cX9_settled 18 = .ok (.iconst 0, 1) := by decide +kernel
theorem dX9_settled_19 : decode cX9_settled 19 = .ok (.goto 16, 3) := by decide +kernel
theorem dX9_settled_35 : decode cX9_settled 35 = .ok (.ireturn, 1) := by decide +kernel
theorem dX9_settledAll_0 : decode cX9_settledAll 0 = .ok (.bipush 40, 2) := by decide +kernel
theorem dX9_settledAll_2 : decode cX9_settledAll 2 = .ok (.newarray .char, 2) := by decide +kernel
theorem dX9_settledAll_4 : decode cX9_settledAll 4 = .ok (.astore 4, 2) := by decide +kernel
theorem dX9_settledAll_6 : decode cX9_settledAll 6 = .ok (.aload_n 0, 1) := by decide +kernel
theorem dX9_settledAll_7 : decode cX9_settledAll 7 = .ok (.getfield 22, 3) := by decide +kernel
theorem dX9_settledAll_10 : decode cX9_settledAll 10 = .ok (.invokevirtual 37, 3) := by decide +kernel
theorem dX9_settledAll_13 : decode cX9_settledAll 13 = .ok (.astore 5, 2) := by decide +kernel
theorem dX9_settledAll_15 : decode cX9_settledAll 15 = .ok (.aload 5, 2) := by decide +kernel
theorem dX9_settledAll_17 : decode cX9_settledAll 17 = .ok (.invokeinterface 41 1, 5) := by decide +kernel
theorem dX9_settledAll_22 : decode cX9_settledAll 22 = .ok (.ifCond .eq 199, 3) := by decide +kernel

theorem dX9_shown_108 : decode cX9_shown 108 = .ok (.i2c, 1) := by decide +kernel
theorem dX9_shown_109 : decode cX9_shown 109 = .ok (.istore_n 3, 1) := by decide +kernel
theorem dX9_shown_110 : decode cX9_shown 110 = .ok (.goto (-87), 3) := by decide +kernel
theorem dX9_shown_113 : decode cX9_shown 113 = .ok (.iinc 2 1, 3) := by decide +kernel
theorem dX9_shown_116 : decode cX9_shown 116 = .ok (.goto (-107), 3) := by decide +kernel
theorem dX9_shown_119 : decode cX9_shown 119 = .ok (.iload_n 1, 1) := by decide +kernel
theorem dX9_shown_120 : decode cX9_shown 120 = .ok (.ireturn, 1) := by decide +kernel
theorem dX9_showsIt_0 : decode cX9_showsIt 0 = .ok (.aload_n 0, 1) := by decide +kernel
theorem dX9_showsIt_1 : decode cX9_showsIt 1 = .ok (.aload_n 0, 1) := by decide +kernel
theorem dX9_showsIt_2 : decode cX9_showsIt 2 = .ok (.iload_n 3, 1) := by decide +kernel
theorem dX9_showsIt_3 : decode cX9_showsIt 3 = .ok (.invokevirtual 243, 3) := by decide +kernel
theorem dX9_showsIt_6 : decode cX9_showsIt 6 = .ok (.iload_n 1, 1) := by decide +kernel
theorem dX9_showsIt_7 : decode cX9_showsIt 7 = .ok (.iload_n 2, 1) := by decide +kernel
theorem dX9_showsIt_8 : decode cX9_showsIt 8 = .ok (.invokevirtual 123, 3) := by decide +kernel
theorem dX9_showsIt_11 : decode cX9_showsIt 11 = .ok (.astore 4, 2) := by decide +kernel
theorem dX9_showsIt_13 : decode cX9_showsIt 13 = .ok (.aload_n 0, 1) := by decide +kernel
theorem dX9_showsIt_14 : decode cX9_showsIt 14 = .ok (.aload_n 0, 1) := by decide +kernel
theorem dX9_showsIt_15 : decode cX9_showsIt 15 = .ok (.iload_n 3, 1) := by decide +kernel
theorem dX9_showsIt_16 : decode cX9_showsIt 16 = .ok (.invokevirtual 243, 3) := by decide +kernel
theorem dX9_showsIt_19 : decode cX9_showsIt 19 = .ok (.iconst (-1), 1) := by decide +kernel
theorem dX9_showsIt_20 : decode cX9_showsIt 20 = .ok (.bipush 120, 2) := by decide +kernel
theorem dX9_showsIt_22 : decode cX9_showsIt 22 = .ok (.invokevirtual 123, 3) := by decide +kernel
theorem dX9_showsIt_25 : decode cX9_showsIt 25 = .ok (.astore 5, 2) := by decide +kernel
theorem dX9_showsIt_27 : decode cX9_showsIt 27 = .ok (.iconst 0, 1) := by decide +kernel
theorem dX9_showsIt_28 : decode cX9_showsIt 28 = .ok (.istore 6, 2) := by decide +kernel
theorem dX9_showsIt_30 : decode cX9_showsIt 30 = .ok (.iconst 0, 1) := by decide +kernel
theorem dX9_showsIt_31 : decode cX9_showsIt 31 = .ok (.istore 7, 2) := by decide +kernel
theorem dX9_showsIt_33 : decode cX9_showsIt 33 = .ok (.iload 7, 2) := by decide +kernel
theorem dX9_showsIt_35 : decode cX9_showsIt 35 = .ok (.aload_n 0, 1) := by decide +kernel
theorem dX9_showsIt_36 : decode cX9_showsIt 36 = .ok (.getfield 10, 3) := by decide +kernel
theorem dX9_showsIt_39 : decode cX9_showsIt 39 = .ok (.invokevirtual 29, 3) := by decide +kernel
theorem dX9_showsIt_42 : decode cX9_showsIt 42 = .ok (.if_icmp .ge 83, 3) := by decide +kernel
theorem dX9_showsIt_45 : decode cX9_showsIt 45 = .ok (.iload 6, 2) := by decide +kernel
theorem dX9_showsIt_47 : decode cX9_showsIt 47 = .ok (.ifCond .ne 78, 3) := by decide +kernel
theorem dX9_showsIt_50 : decode cX9_showsIt 50 = .ok (.aload_n 0, 1) := by decide +kernel
theorem dX9_showsIt_51 : decode cX9_showsIt 51 = .ok (.iload 7, 2) := by decide +kernel
theorem dX9_showsIt_53 : decode cX9_showsIt 53 = .ok (.invokevirtual 247, 3) := by decide +kernel
theorem dX9_showsIt_56 : decode cX9_showsIt 56 = .ok (.ifCond .eq 63, 3) := by decide +kernel
theorem dX9_showsIt_119 : decode cX9_showsIt 119 = .ok (.iinc 7 1, 3) := by decide +kernel
theorem dX9_showsIt_122 : decode cX9_showsIt 122 = .ok (.goto (-89), 3) := by decide +kernel
theorem dX9_showsIt_125 : decode cX9_showsIt 125 = .ok (.iload 6, 2) := by decide +kernel
theorem dX9_showsIt_127 : decode cX9_showsIt 127 = .ok (.ireturn, 1) := by decide +kernel
theorem dX9_sources_0 : decode cX9_sources 0 = .ok (.iconst 0, 1) := by decide +kernel
theorem dX9_sources_1 : decode cX9_sources 1 = .ok (.istore_n 1, 1) := by decide +kernel
theorem dX9_sources_2 : decode cX9_sources 2 = .ok (.aload_n 0, 1) := by decide +kernel
theorem dX9_sources_3 : decode cX9_sources 3 = .ok (.getfield 10, 3) := by decide +kernel
theorem dX9_sources_6 : decode cX9_sources 6 = .ok (.invokevirtual 37, 3) := by decide +kernel
theorem dX9_sources_9 : decode cX9_sources 9 = .ok (.astore_n 2, 1) := by decide +kernel
theorem dX9_sources_10 : decode cX9_sources 10 = .ok (.aload_n 2, 1) := by decide +kernel
theorem dX9_sources_11 : decode cX9_sources 11 = .ok (.invokeinterface 41 1, 5) := by decide +kernel
theorem dX9_sources_16 : decode cX9_sources 16 = .ok (.ifCond .eq 31, 3) := by decide +kernel
theorem dX9_sources_19 : decode cX9_sources 19 = .ok (.aload_n 2, 1) := by decide +kernel
theorem dX9_sources_20 : decode cX9_sources 20 = .ok (.invokeinterface 47 1, 5) := by decide +kernel
theorem dX9_sources_25 : decode cX9_sources 25 = .ok (.checkcast 51, 3) := by decide +kernel
theorem dX9_sources_28 : decode cX9_sources 28 = .ok (.astore_n 3, 1) := by decide +kernel
theorem dX9_sources_29 : decode cX9_sources 29 = .ok (.iload_n 1, 1) := by decide +kernel
theorem dX9_sources_30 : decode cX9_sources 30 = .ok (.aload_n 3, 1) := by decide +kernel
theorem dX9_sources_31 : decode cX9_sources 31 = .ok (.invokevirtual 53, 3) := by decide +kernel
theorem dX9_sources_34 : decode cX9_sources 34 = .ok (.ifCond .eq 7, 3) := by decide +kernel
theorem dX9_sources_37 : decode cX9_sources 37 = .ok (.iconst 1, 1) := by decide +kernel
theorem dX9_sources_38 : decode cX9_sources 38 = .ok (.goto 4, 3) := by decide +kernel
theorem dX9_sources_42 : decode cX9_sources 42 = .ok (.iadd, 1) := by decide +kernel
theorem dX9_sources_43 : decode cX9_sources 43 = .ok (.istore_n 1, 1) := by decide +kernel
theorem dX9_sources_44 : decode cX9_sources 44 = .ok (.goto (-34), 3) := by decide +kernel
theorem dX9_sources_47 : decode cX9_sources 47 = .ok (.iload_n 1, 1) := by decide +kernel
theorem dX9_sources_48 : decode cX9_sources 48 = .ok (.ireturn, 1) := by decide +kernel
theorem dX9_valuesNow_0 : decode cX9_valuesNow 0 = .ok (.bipush 40, 2) := by decide +kernel
theorem dX9_valuesNow_2 : decode cX9_valuesNow 2 = .ok (.newarray .char, 2) := by decide +kernel
theorem dX9_valuesNow_4 : decode cX9_valuesNow 4 = .ok (.astore_n 1, 1) := by decide +kernel
theorem dX9_valuesNow_5 : decode cX9_valuesNow 5 = .ok (.iconst 0, 1) := by decide +kernel
theorem dX9_valuesNow_6 : decode cX9_valuesNow 6 = .ok (.istore_n 2, 1) := by decide +kernel
theorem dX9_valuesNow_7 : decode cX9_valuesNow 7 = .ok (.iload_n 2, 1) := by decide +kernel
theorem dX9_valuesNow_8 : decode cX9_valuesNow 8 = .ok (.aload_n 0, 1) := by decide +kernel
theorem dX9_valuesNow_9 : decode cX9_valuesNow 9 = .ok (.getfield 10, 3) := by decide +kernel
theorem dX9_valuesNow_12 : decode cX9_valuesNow 12 = .ok (.invokevirtual 29, 3) := by decide +kernel
theorem dX9_valuesNow_15 : decode cX9_valuesNow 15 = .ok (.if_icmp .ge 26, 3) := by decide +kernel
theorem dX9_valuesNow_18 : decode cX9_valuesNow 18 = .ok (.aload_n 1, 1) := by decide +kernel
theorem dX9_valuesNow_19 : decode cX9_valuesNow 19 = .ok (.iload_n 2, 1) := by decide +kernel
theorem dX9_valuesNow_20 : decode cX9_valuesNow 20 = .ok (.aload_n 0, 1) := by decide +kernel
theorem dX9_valuesNow_21 : decode cX9_valuesNow 21 = .ok (.getfield 10, 3) := by decide +kernel
theorem dX9_valuesNow_24 : decode cX9_valuesNow 24 = .ok (.iload_n 2, 1) := by decide +kernel
theorem dX9_valuesNow_25 : decode cX9_valuesNow 25 = .ok (.invokevirtual 65, 3) := by decide +kernel
theorem dX9_valuesNow_28 : decode cX9_valuesNow 28 = .ok (.checkcast 51, 3) := by decide +kernel
theorem dX9_valuesNow_31 : decode cX9_valuesNow 31 = .ok (.getfield 104, 3) := by decide +kernel
theorem dX9_valuesNow_34 : decode cX9_valuesNow 34 = .ok (.castore, 1) := by decide +kernel
theorem dX9_valuesNow_35 : decode cX9_valuesNow 35 = .ok (.iinc 2 1, 3) := by decide +kernel
theorem dX9_valuesNow_38 : decode cX9_valuesNow 38 = .ok (.goto (-31), 3) := by decide +kernel
theorem dX9_valuesNow_41 : decode cX9_valuesNow 41 = .ok (.aload_n 1, 1) := by decide +kernel
theorem dX9_valuesNow_42 : decode cX9_valuesNow 42 = .ok (.areturn, 1) := by decide +kernel
theorem dX9_valuesOf_0 : decode cX9_valuesOf 0 = .ok (.bipush 40, 2) := by decide +kernel
theorem dX9_valuesOf_2 : decode cX9_valuesOf 2 = .ok (.newarray .char, 2) := by decide +kernel
theorem dX9_valuesOf_4 : decode cX9_valuesOf 4 = .ok (.astore_n 2, 1) := by decide +kernel
theorem dX9_valuesOf_5 : decode cX9_valuesOf 5 = .ok (.iconst 0, 1) := by decide +kernel
theorem dX9_valuesOf_6 : decode cX9_valuesOf 6 = .ok (.istore_n 3, 1) := by decide +kernel
theorem dX9_valuesOf_7 : decode cX9_valuesOf 7 = .ok (.iconst 0, 1) := by decide +kernel
theorem dX9_valuesOf_8 : decode cX9_valuesOf 8 = .ok (.istore 4, 2) := by decide +kernel
theorem dX9_valuesOf_10 : decode cX9_valuesOf 10 = .ok (.iload 4, 2) := by decide +kernel
theorem dX9_valuesOf_12 : decode cX9_valuesOf 12 = .ok (.aload_n 0, 1) := by decide +kernel
theorem dX9_valuesOf_13 : decode cX9_valuesOf 13 = .ok (.getfield 10, 3) := by decide +kernel
theorem dX9_valuesOf_16 : decode cX9_valuesOf 16 = .ok (.invokevirtual 29, 3) := by decide +kernel
theorem dX9_valuesOf_19 : decode cX9_valuesOf 19 = .ok (.if_icmp .ge 50, 3) := by decide +kernel
theorem dX9_valuesOf_22 : decode cX9_valuesOf 22 = .ok (.aload_n 0, 1) := by decide +kernel
theorem dX9_valuesOf_23 : decode cX9_valuesOf 23 = .ok (.getfield 10, 3) := by decide +kernel
theorem dX9_valuesOf_26 : decode cX9_valuesOf 26 = .ok (.iload 4, 2) := by decide +kernel
theorem dX9_valuesOf_28 : decode cX9_valuesOf 28 = .ok (.invokevirtual 65, 3) := by decide +kernel
theorem dX9_valuesOf_31 : decode cX9_valuesOf 31 = .ok (.checkcast 51, 3) := by decide +kernel
theorem dX9_valuesOf_34 : decode cX9_valuesOf 34 = .ok (.invokevirtual 53, 3) := by decide +kernel
theorem dX9_valuesOf_37 : decode cX9_valuesOf 37 = .ok (.ifCond .eq 26, 3) := by decide +kernel
theorem dX9_valuesOf_40 : decode cX9_valuesOf 40 = .ok (.aload_n 2, 1) := by decide +kernel
theorem dX9_valuesOf_41 : decode cX9_valuesOf 41 = .ok (.iload 4, 2) := by decide +kernel
theorem dX9_valuesOf_43 : decode cX9_valuesOf 43 = .ok (.iload_n 1, 1) := by decide +kernel
theorem dX9_valuesOf_44 : decode cX9_valuesOf 44 = .ok (.iload_n 3, 1) := by decide +kernel
theorem dX9_valuesOf_45 : decode cX9_valuesOf 45 = .ok (.ishr, 1) := by decide +kernel
theorem dX9_valuesOf_46 : decode cX9_valuesOf 46 = .ok (.iconst 1, 1) := by decide +kernel
theorem dX9_valuesOf_47 : decode cX9_valuesOf 47 = .ok (.iand, 1) := by decide +kernel
theorem dX9_valuesOf_48 : decode cX9_valuesOf 48 = .ok (.iconst 1, 1) := by decide +kernel
theorem dX9_valuesOf_49 : decode cX9_valuesOf 49 = .ok (.if_icmp .ne 8, 3) := by decide +kernel
theorem dX9_valuesOf_57 : decode cX9_valuesOf 57 = .ok (.bipush 48, 2) := by decide +kernel
theorem dX9_valuesOf_59 : decode cX9_valuesOf 59 = .ok (.castore, 1) := by decide +kernel
theorem dX9_valuesOf_60 : decode cX9_valuesOf 60 = .ok (.iinc 3 1, 3) := by decide +kernel
theorem dX9_valuesOf_63 : decode cX9_valuesOf 63 = .ok (.iinc 4 1, 3) := by decide +kernel
theorem dX9_valuesOf_66 : decode cX9_valuesOf 66 = .ok (.goto (-56), 3) := by decide +kernel
theorem dX9_valuesOf_69 : decode cX9_valuesOf 69 = .ok (.aload_n 2, 1) := by decide +kernel
theorem dX9_valuesOf_70 : decode cX9_valuesOf 70 = .ok (.areturn, 1) := by decide +kernel

theorem dX9_settledAll_25 : decode cX9_settledAll 25 = .ok (.aload 5, 2) := by decide +kernel
theorem dX9_settledAll_27 : decode cX9_settledAll 27 = .ok (.invokeinterface 47 1, 5) := by decide +kernel
theorem dX9_settledAll_32 : decode cX9_settledAll 32 = .ok (.checkcast 60, 3) := by decide +kernel
theorem dX9_settledAll_35 : decode cX9_settledAll 35 = .ok (.invokevirtual 62, 3) := by decide +kernel
theorem dX9_settledAll_38 : decode cX9_settledAll 38 = .ok (.istore 6, 2) := by decide +kernel
theorem dX9_settledAll_40 : decode cX9_settledAll 40 = .ok (.aload_n 0, 1) := by decide +kernel
theorem dX9_settledAll_41 : decode cX9_settledAll 41 = .ok (.getfield 10, 3) := by decide +kernel
theorem dX9_settledAll_44 : decode cX9_settledAll 44 = .ok (.iload 6, 2) := by decide +kernel
theorem dX9_settledAll_46 : decode cX9_settledAll 46 = .ok (.invokevirtual 65, 3) := by decide +kernel
theorem dX9_settledAll_49 : decode cX9_settledAll 49 = .ok (.checkcast 51, 3) := by decide +kernel
theorem dX9_settledAll_52 : decode cX9_settledAll 52 = .ok (.getfield 69, 3) := by decide +kernel
theorem dX9_settledAll_55 : decode cX9_settledAll 55 = .ok (.bipush 98, 2) := by decide +kernel
theorem dX9_settledAll_57 : decode cX9_settledAll 57 = .ok (.if_icmp .ne 7, 3) := by decide +kernel
theorem dX9_settledAll_60 : decode cX9_settledAll 60 = .ok (.iconst 1, 1) := by decide +kernel
theorem dX9_settledAll_61 : decode cX9_settledAll 61 = .ok (.goto 4, 3) := by decide +kernel
theorem dX9_settledAll_64 : decode cX9_settledAll 64 = .ok (.iconst 0, 1) := by decide +kernel
theorem dX9_settledAll_65 : decode cX9_settledAll 65 = .ok (.istore 7, 2) := by decide +kernel
theorem dX9_settledAll_67 : decode cX9_settledAll 67 = .ok (.aload 4, 2) := by decide +kernel
theorem dX9_settledAll_69 : decode cX9_settledAll 69 = .ok (.iload 6, 2) := by decide +kernel
theorem dX9_settledAll_71 : decode cX9_settledAll 71 = .ok (.iload 7, 2) := by decide +kernel
theorem dX9_settledAll_73 : decode cX9_settledAll 73 = .ok (.ifCond .eq 8, 3) := by decide +kernel
theorem dX9_settledAll_76 : decode cX9_settledAll 76 = .ok (.bipush 122, 2) := by decide +kernel
theorem dX9_settledAll_78 : decode cX9_settledAll 78 = .ok (.goto 7, 3) := by decide +kernel
theorem dX9_settledAll_81 : decode cX9_settledAll 81 = .ok (.aload_n 1, 1) := by decide +kernel
theorem dX9_settledAll_82 : decode cX9_settledAll 82 = .ok (.iload 6, 2) := by decide +kernel
theorem dX9_settledAll_84 : decode cX9_settledAll 84 = .ok (.caload, 1) := by decide +kernel
theorem dX9_settledAll_85 : decode cX9_settledAll 85 = .ok (.castore, 1) := by decide +kernel
theorem dX9_settledAll_86 : decode cX9_settledAll 86 = .ok (.aload_n 0, 1) := by decide +kernel
theorem dX9_settledAll_87 : decode cX9_settledAll 87 = .ok (.getfield 16, 3) := by decide +kernel
theorem dX9_settledAll_90 : decode cX9_settledAll 90 = .ok (.invokevirtual 37, 3) := by decide +kernel
theorem dX9_settledAll_93 : decode cX9_settledAll 93 = .ok (.astore 8, 2) := by decide +kernel
theorem dX9_settledAll_95 : decode cX9_settledAll 95 = .ok (.aload 8, 2) := by decide +kernel
theorem dX9_settledAll_97 : decode cX9_settledAll 97 = .ok (.invokeinterface 41 1, 5) := by decide +kernel
theorem dX9_settledAll_102 : decode cX9_settledAll 102 = .ok (.ifCond .eq 96, 3) := by decide +kernel
theorem dX9_settledAll_198 : decode cX9_settledAll 198 = .ok (.aload 4, 2) := by decide +kernel
theorem dX9_settledAll_200 : decode cX9_settledAll 200 = .ok (.iload 6, 2) := by decide +kernel
theorem dX9_settledAll_202 : decode cX9_settledAll 202 = .ok (.iload 6, 2) := by decide +kernel
theorem dX9_settledAll_204 : decode cX9_settledAll 204 = .ok (.iload_n 2, 1) := by decide +kernel
theorem dX9_settledAll_205 : decode cX9_settledAll 205 = .ok (.if_icmp .ne 7, 3) := by decide +kernel
theorem dX9_settledAll_212 : decode cX9_settledAll 212 = .ok (.aload 4, 2) := by decide +kernel
theorem dX9_settledAll_214 : decode cX9_settledAll 214 = .ok (.iload 6, 2) := by decide +kernel
theorem dX9_settledAll_216 : decode cX9_settledAll 216 = .ok (.caload, 1) := by decide +kernel
theorem dX9_settledAll_217 : decode cX9_settledAll 217 = .ok (.castore, 1) := by decide +kernel
theorem dX9_settledAll_218 : decode cX9_settledAll 218 = .ok (.goto (-203), 3) := by decide +kernel
theorem dX9_settledAll_221 : decode cX9_settledAll 221 = .ok (.aload 4, 2) := by decide +kernel
theorem dX9_settledAll_223 : decode cX9_settledAll 223 = .ok (.areturn, 1) := by decide +kernel
theorem dX9_shown_0 : decode cX9_shown 0 = .ok (.aload_n 0, 1) := by decide +kernel
theorem dX9_shown_1 : decode cX9_shown 1 = .ok (.iconst 0, 1) := by decide +kernel
theorem dX9_shown_2 : decode cX9_shown 2 = .ok (.putfield 25, 3) := by decide +kernel
theorem dX9_shown_5 : decode cX9_shown 5 = .ok (.iconst 0, 1) := by decide +kernel
theorem dX9_shown_6 : decode cX9_shown 6 = .ok (.istore_n 1, 1) := by decide +kernel
theorem dX9_shown_7 : decode cX9_shown 7 = .ok (.iconst 0, 1) := by decide +kernel
theorem dX9_shown_8 : decode cX9_shown 8 = .ok (.istore_n 2, 1) := by decide +kernel
theorem dX9_shown_9 : decode cX9_shown 9 = .ok (.iload_n 2, 1) := by decide +kernel
theorem dX9_shown_10 : decode cX9_shown 10 = .ok (.aload_n 0, 1) := by decide +kernel
theorem dX9_shown_11 : decode cX9_shown 11 = .ok (.getfield 10, 3) := by decide +kernel
theorem dX9_shown_14 : decode cX9_shown 14 = .ok (.invokevirtual 29, 3) := by decide +kernel
theorem dX9_shown_17 : decode cX9_shown 17 = .ok (.if_icmp .ge 102, 3) := by decide +kernel
theorem dX9_shown_119 : decode cX9_shown 119 = .ok (.iload_n 1, 1) := by decide +kernel
theorem dX9_shown_120 : decode cX9_shown 120 = .ok (.ireturn, 1) := by decide +kernel
theorem dX9_shows_0 : decode cX9_shows 0 = .ok (.aload_n 0, 1) := by decide +kernel
theorem dX9_shows_1 : decode cX9_shows 1 = .ok (.iconst 0, 1) := by decide +kernel
theorem dX9_shows_2 : decode cX9_shows 2 = .ok (.putfield 25, 3) := by decide +kernel
theorem dX9_shows_5 : decode cX9_shows 5 = .ok (.aload_n 0, 1) := by decide +kernel
theorem dX9_shows_6 : decode cX9_shows 6 = .ok (.iload_n 1, 1) := by decide +kernel
theorem dX9_shows_7 : decode cX9_shows 7 = .ok (.iload_n 2, 1) := by decide +kernel
theorem dX9_shows_8 : decode cX9_shows 8 = .ok (.invokevirtual 250, 3) := by decide +kernel
theorem dX9_shows_11 : decode cX9_shows 11 = .ok (.ifCond .ne 44, 3) := by decide +kernel
theorem dX9_shows_55 : decode cX9_shows 55 = .ok (.iconst 0, 1) := by decide +kernel
theorem dX9_shows_56 : decode cX9_shows 56 = .ok (.ireturn, 1) := by decide +kernel
theorem dX9_slack_0 : decode cX9_slack 0 = .ok (.aload_n 0, 1) := by decide +kernel
theorem dX9_slack_1 : decode cX9_slack 1 = .ok (.iconst 0, 1) := by decide +kernel
theorem dX9_slack_2 : decode cX9_slack 2 = .ok (.putfield 25, 3) := by decide +kernel
theorem dX9_slack_5 : decode cX9_slack 5 = .ok (.aload_n 0, 1) := by decide +kernel
theorem dX9_slack_6 : decode cX9_slack 6 = .ok (.aload_n 0, 1) := by decide +kernel
theorem dX9_slack_7 : decode cX9_slack 7 = .ok (.iload_n 1, 1) := by decide +kernel
theorem dX9_slack_8 : decode cX9_slack 8 = .ok (.invokevirtual 156, 3) := by decide +kernel
theorem dX9_slack_11 : decode cX9_slack 11 = .ok (.iconst 1, 1) := by decide +kernel
theorem dX9_slack_12 : decode cX9_slack 12 = .ok (.invokevirtual 143, 3) := by decide +kernel
theorem dX9_slack_15 : decode cX9_slack 15 = .ok (.ifCond .ne 26, 3) := by decide +kernel
theorem dX9_slack_41 : decode cX9_slack 41 = .ok (.iconst 0, 1) := by decide +kernel
theorem dX9_slack_42 : decode cX9_slack 42 = .ok (.goto 18, 3) := by decide +kernel
theorem dX9_slack_60 : decode cX9_slack 60 = .ok (.ireturn, 1) := by decide +kernel
theorem dX9_sources_0 : decode cX9_sources 0 = .ok (.iconst 0, 1) := by decide +kernel
theorem dX9_sources_1 : decode cX9_sources 1 = .ok (.istore_n 1, 1) := by decide +kernel
theorem dX9_sources_2 : decode cX9_sources 2 = .ok (.aload_n 0, 1) := by decide +kernel
theorem dX9_sources_3 : decode cX9_sources 3 = .ok (.getfield 10, 3) := by decide +kernel
theorem dX9_sources_6 : decode cX9_sources 6 = .ok (.invokevirtual 37, 3) := by decide +kernel
theorem dX9_sources_9 : decode cX9_sources 9 = .ok (.astore_n 2, 1) := by decide +kernel
theorem dX9_sources_10 : decode cX9_sources 10 = .ok (.aload_n 2, 1) := by decide +kernel
theorem dX9_sources_11 : decode cX9_sources 11 = .ok (.invokeinterface 41 1, 5) := by decide +kernel
theorem dX9_sources_16 : decode cX9_sources 16 = .ok (.ifCond .eq 31, 3) := by decide +kernel
theorem dX9_sources_47 : decode cX9_sources 47 = .ok (.iload_n 1, 1) := by decide +kernel
theorem dX9_sources_48 : decode cX9_sources 48 = .ok (.ireturn, 1) := by decide +kernel
theorem dX9_stands_0 : decode cX9_stands 0 = .ok (.aload_n 0, 1) := by decide +kernel
theorem dX9_stands_1 : decode cX9_stands 1 = .ok (.iconst 0, 1) := by decide +kernel
theorem dX9_stands_2 : decode cX9_stands 2 = .ok (.putfield 25, 3) := by decide +kernel
theorem dX9_stands_5 : decode cX9_stands 5 = .ok (.aload_n 0, 1) := by decide +kernel
theorem dX9_stands_6 : decode cX9_stands 6 = .ok (.aload_n 0, 1) := by decide +kernel
theorem dX9_stands_7 : decode cX9_stands 7 = .ok (.iload_n 1, 1) := by decide +kernel
theorem dX9_stands_8 : decode cX9_stands 8 = .ok (.invokevirtual 156, 3) := by decide +kernel
theorem dX9_stands_11 : decode cX9_stands 11 = .ok (.iconst 1, 1) := by decide +kernel
theorem dX9_stands_12 : decode cX9_stands 12 = .ok (.invokevirtual 143, 3) := by decide +kernel
theorem dX9_stands_15 : decode cX9_stands 15 = .ok (.ifCond .eq 7, 3) := by decide +kernel
theorem dX9_stands_18 : decode cX9_stands 18 = .ok (.iconst 0, 1) := by decide +kernel
theorem dX9_stands_19 : decode cX9_stands 19 = .ok (.goto 9, 3) := by decide +kernel
theorem dX9_stands_28 : decode cX9_stands 28 = .ok (.ireturn, 1) := by decide +kernel
theorem dX9_thrown_0 : decode cX9_thrown 0 = .ok (.aload_n 0, 1) := by decide +kernel
theorem dX9_thrown_1 : decode cX9_thrown 1 = .ok (.getfield 25, 3) := by decide +kernel
theorem dX9_thrown_4 : decode cX9_thrown 4 = .ok (.ireturn, 1) := by decide +kernel
theorem dX9_tick_0 : decode cX9_tick 0 = .ok (.aload_n 0, 1) := by decide +kernel
theorem dX9_tick_1 : decode cX9_tick 1 = .ok (.iconst 0, 1) := by decide +kernel
theorem dX9_tick_2 : decode cX9_tick 2 = .ok (.putfield 25, 3) := by decide +kernel
theorem dX9_tick_5 : decode cX9_tick 5 = .ok (.aload_n 0, 1) := by decide +kernel
theorem dX9_tick_6 : decode cX9_tick 6 = .ok (.invokevirtual 119, 3) := by decide +kernel
theorem dX9_tick_9 : decode cX9_tick 9 = .ok (.astore_n 1, 1) := by decide +kernel
theorem dX9_tick_10 : decode cX9_tick 10 = .ok (.iconst 0, 1) := by decide +kernel
theorem dX9_tick_11 : decode cX9_tick 11 = .ok (.istore_n 2, 1) := by decide +kernel
theorem dX9_tick_12 : decode cX9_tick 12 = .ok (.iconst 0, 1) := by decide +kernel
theorem dX9_tick_13 : decode cX9_tick 13 = .ok (.istore_n 3, 1) := by decide +kernel
theorem dX9_tick_14 : decode cX9_tick 14 = .ok (.iload_n 3, 1) := by decide +kernel
theorem dX9_tick_15 : decode cX9_tick 15 = .ok (.aload_n 0, 1) := by decide +kernel
theorem dX9_tick_16 : decode cX9_tick 16 = .ok (.getfield 10, 3) := by decide +kernel
theorem dX9_tick_19 : decode cX9_tick 19 = .ok (.invokevirtual 29, 3) := by decide +kernel
theorem dX9_tick_22 : decode cX9_tick 22 = .ok (.if_icmp .ge 84, 3) := by decide +kernel
theorem dX9_tick_106 : decode cX9_tick 106 = .ok (.aload_n 0, 1) := by decide +kernel
theorem dX9_tick_107 : decode cX9_tick 107 = .ok (.aload_n 1, 1) := by decide +kernel
theorem dX9_tick_108 : decode cX9_tick 108 = .ok (.invokevirtual 198, 3) := by decide +kernel
theorem dX9_tick_111 : decode cX9_tick 111 = .ok (.iload_n 2, 1) := by decide +kernel
theorem dX9_tick_112 : decode cX9_tick 112 = .ok (.ireturn, 1) := by decide +kernel
theorem dX9_value_0 : decode cX9_value 0 = .ok (.aload_n 0, 1) := by decide +kernel
theorem dX9_value_1 : decode cX9_value 1 = .ok (.iconst 0, 1) := by decide +kernel
theorem dX9_value_2 : decode cX9_value 2 = .ok (.putfield 25, 3) := by decide +kernel
theorem dX9_value_5 : decode cX9_value 5 = .ok (.aload_n 0, 1) := by decide +kernel
theorem dX9_value_6 : decode cX9_value 6 = .ok (.aload_n 0, 1) := by decide +kernel
theorem dX9_value_7 : decode cX9_value 7 = .ok (.iload_n 1, 1) := by decide +kernel
theorem dX9_value_8 : decode cX9_value 8 = .ok (.invokevirtual 156, 3) := by decide +kernel
theorem dX9_value_11 : decode cX9_value 11 = .ok (.iconst 1, 1) := by decide +kernel
theorem dX9_value_12 : decode cX9_value 12 = .ok (.invokevirtual 143, 3) := by decide +kernel
theorem dX9_value_15 : decode cX9_value 15 = .ok (.ifCond .eq 7, 3) := by decide +kernel
theorem dX9_value_18 : decode cX9_value 18 = .ok (.iconst 0, 1) := by decide +kernel
theorem dX9_value_19 : decode cX9_value 19 = .ok (.goto 17, 3) := by decide +kernel
theorem dX9_value_36 : decode cX9_value 36 = .ok (.ireturn, 1) := by decide +kernel
theorem dX9_valuesNow_0 : decode cX9_valuesNow 0 = .ok (.bipush 40, 2) := by decide +kernel
theorem dX9_valuesNow_2 : decode cX9_valuesNow 2 = .ok (.newarray .char, 2) := by decide +kernel
theorem dX9_valuesNow_4 : decode cX9_valuesNow 4 = .ok (.astore_n 1, 1) := by decide +kernel
theorem dX9_valuesNow_5 : decode cX9_valuesNow 5 = .ok (.iconst 0, 1) := by decide +kernel
theorem dX9_valuesNow_6 : decode cX9_valuesNow 6 = .ok (.istore_n 2, 1) := by decide +kernel
theorem dX9_valuesNow_7 : decode cX9_valuesNow 7 = .ok (.iload_n 2, 1) := by decide +kernel
theorem dX9_valuesNow_8 : decode cX9_valuesNow 8 = .ok (.aload_n 0, 1) := by decide +kernel
theorem dX9_valuesNow_9 : decode cX9_valuesNow 9 = .ok (.getfield 10, 3) := by decide +kernel
theorem dX9_valuesNow_12 : decode cX9_valuesNow 12 = .ok (.invokevirtual 29, 3) := by decide +kernel
theorem dX9_valuesNow_15 : decode cX9_valuesNow 15 = .ok (.if_icmp .ge 26, 3) := by decide +kernel
theorem dX9_valuesNow_18 : decode cX9_valuesNow 18 = .ok (.aload_n 1, 1) := by decide +kernel
theorem dX9_valuesNow_19 : decode cX9_valuesNow 19 = .ok (.iload_n 2, 1) := by decide +kernel
theorem dX9_valuesNow_20 : decode cX9_valuesNow 20 = .ok (.aload_n 0, 1) := by decide +kernel
theorem dX9_valuesNow_21 : decode cX9_valuesNow 21 = .ok (.getfield 10, 3) := by decide +kernel
theorem dX9_valuesNow_24 : decode cX9_valuesNow 24 = .ok (.iload_n 2, 1) := by decide +kernel
theorem dX9_valuesNow_25 : decode cX9_valuesNow 25 = .ok (.invokevirtual 65, 3) := by decide +kernel
theorem dX9_valuesNow_28 : decode cX9_valuesNow 28 = .ok (.checkcast 51, 3) := by decide +kernel
theorem dX9_valuesNow_31 : decode cX9_valuesNow 31 = .ok (.getfield 104, 3) := by decide +kernel
theorem dX9_valuesNow_34 : decode cX9_valuesNow 34 = .ok (.castore, 1) := by decide +kernel
theorem dX9_valuesNow_35 : decode cX9_valuesNow 35 = .ok (.iinc 2 1, 3) := by decide +kernel
theorem dX9_valuesNow_38 : decode cX9_valuesNow 38 = .ok (.goto (-31), 3) := by decide +kernel
theorem dX9_valuesNow_41 : decode cX9_valuesNow 41 = .ok (.aload_n 1, 1) := by decide +kernel
theorem dX9_valuesNow_42 : decode cX9_valuesNow 42 = .ok (.areturn, 1) := by decide +kernel

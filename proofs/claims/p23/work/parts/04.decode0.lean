theorem dJ15_checkIndex_7cf53_0 : decode cJ15_checkIndex_7cf53 0 = .ok (.iload_n 0, 1) := by decide +kernel
theorem dJ15_checkIndex_7cf53_1 : decode cJ15_checkIndex_7cf53 1 = .ok (.iload_n 1, 1) := by decide +kernel
theorem dJ15_checkIndex_7cf53_2 : decode cJ15_checkIndex_7cf53 2 = .ok (.aconst_null, 1) := by decide +kernel
theorem dJ15_checkIndex_7cf53_3 : decode cJ15_checkIndex_7cf53 3 = .ok (.invokestatic 105, 3) := by decide +kernel
theorem dJ15_checkIndex_7cf53_6 : decode cJ15_checkIndex_7cf53 6 = .ok (.ireturn, 1) := by decide +kernel
theorem dJ3_checkIndex_8e157_0 : decode cJ3_checkIndex_8e157 0 = .ok (.iload_n 0, 1) := by decide +kernel
theorem dJ3_checkIndex_8e157_1 : decode cJ3_checkIndex_8e157 1 = .ok (.ifCond .lt 8, 3) := by decide +kernel
theorem dJ3_checkIndex_8e157_4 : decode cJ3_checkIndex_8e157 4 = .ok (.iload_n 0, 1) := by decide +kernel
theorem dJ3_checkIndex_8e157_5 : decode cJ3_checkIndex_8e157 5 = .ok (.iload_n 1, 1) := by decide +kernel
theorem dJ3_checkIndex_8e157_6 : decode cJ3_checkIndex_8e157 6 = .ok (.if_icmp .lt 10, 3) := by decide +kernel
theorem dJ3_checkIndex_8e157_16 : decode cJ3_checkIndex_8e157 16 = .ok (.iload_n 0, 1) := by decide +kernel
theorem dJ3_checkIndex_8e157_17 : decode cJ3_checkIndex_8e157 17 = .ok (.ireturn, 1) := by decide +kernel
theorem dJ6_intValue_8abf5_0 : decode cJ6_intValue_8abf5 0 = .ok (.aload_n 0, 1) := by decide +kernel
theorem dJ6_intValue_8abf5_1 : decode cJ6_intValue_8abf5 1 = .ok (.getfield 205, 3) := by decide +kernel
theorem dJ6_intValue_8abf5_4 : decode cJ6_intValue_8abf5 4 = .ok (.ireturn, 1) := by decide +kernel
theorem dJ6_valueOf_2dffe_0 : decode cJ6_valueOf_2dffe 0 = .ok (.iload_n 0, 1) := by decide +kernel
theorem dJ6_valueOf_2dffe_1 : decode cJ6_valueOf_2dffe 1 = .ok (.bipush (-128), 2) := by decide +kernel
theorem dJ6_valueOf_2dffe_3 : decode cJ6_valueOf_2dffe 3 = .ok (.if_icmp .lt 20, 3) := by decide +kernel
theorem dJ6_valueOf_2dffe_6 : decode cJ6_valueOf_2dffe 6 = .ok (.iload_n 0, 1) := by decide +kernel
theorem dJ6_valueOf_2dffe_7 : decode cJ6_valueOf_2dffe 7 = .ok (.getstatic 191, 3) := by decide +kernel
theorem dJ6_valueOf_2dffe_10 : decode cJ6_valueOf_2dffe 10 = .ok (.if_icmp .gt 13, 3) := by decide +kernel
theorem dJ6_valueOf_2dffe_13 : decode cJ6_valueOf_2dffe 13 = .ok (.getstatic 195, 3) := by decide +kernel
theorem dJ6_valueOf_2dffe_16 : decode cJ6_valueOf_2dffe 16 = .ok (.iload_n 0, 1) := by decide +kernel
theorem dJ6_valueOf_2dffe_17 : decode cJ6_valueOf_2dffe 17 = .ok (.sipush 128, 3) := by decide +kernel
theorem dJ6_valueOf_2dffe_20 : decode cJ6_valueOf_2dffe 20 = .ok (.iadd, 1) := by decide +kernel
theorem dJ6_valueOf_2dffe_21 : decode cJ6_valueOf_2dffe 21 = .ok (.aaload, 1) := by decide +kernel
theorem dJ6_valueOf_2dffe_22 : decode cJ6_valueOf_2dffe 22 = .ok (.areturn, 1) := by decide +kernel
theorem dJx35411_checkForComodification_da8c8_0 : decode cJx35411_checkForComodification_da8c8 0 = .ok (.aload_n 0, 1) := by decide +kernel
theorem dJx35411_checkForComodification_da8c8_1 : decode cJx35411_checkForComodification_da8c8 1 = .ok (.getfield 1, 3) := by decide +kernel
theorem dJx35411_checkForComodification_da8c8_4 : decode cJx35411_checkForComodification_da8c8 4 = .ok (.getfield 17, 3) := by decide +kernel
theorem dJx35411_checkForComodification_da8c8_7 : decode cJx35411_checkForComodification_da8c8 7 = .ok (.aload_n 0, 1) := by decide +kernel
theorem dJx35411_checkForComodification_da8c8_8 : decode cJx35411_checkForComodification_da8c8 8 = .ok (.getfield 22, 3) := by decide +kernel
theorem dJx35411_checkForComodification_da8c8_11 : decode cJx35411_checkForComodification_da8c8 11 = .ok (.if_icmp .eq 11, 3) := by decide +kernel
theorem dJx35411_checkForComodification_da8c8_22 : decode cJx35411_checkForComodification_da8c8 22 = .ok (.return_, 1) := by decide +kernel
theorem dJx35411_hasNext_aae02_0 : decode cJx35411_hasNext_aae02 0 = .ok (.aload_n 0, 1) := by decide +kernel
theorem dJx35411_hasNext_aae02_1 : decode cJx35411_hasNext_aae02 1 = .ok (.getfield 25, 3) := by decide +kernel
theorem dJx35411_hasNext_aae02_4 : decode cJx35411_hasNext_aae02 4 = .ok (.aload_n 0, 1) := by decide +kernel
theorem dJx35411_hasNext_aae02_5 : decode cJx35411_hasNext_aae02 5 = .ok (.getfield 1, 3) := by decide +kernel
theorem dJx35411_hasNext_aae02_8 : decode cJx35411_hasNext_aae02 8 = .ok (.getfield 28, 3) := by decide +kernel
theorem dJx35411_hasNext_aae02_11 : decode cJx35411_hasNext_aae02 11 = .ok (.if_icmp .eq 7, 3) := by decide +kernel
theorem dJx35411_hasNext_aae02_14 : decode cJx35411_hasNext_aae02 14 = .ok (.iconst 1, 1) := by decide +kernel
theorem dJx35411_hasNext_aae02_15 : decode cJx35411_hasNext_aae02 15 = .ok (.goto 4, 3) := by decide +kernel
theorem dJx35411_hasNext_aae02_18 : decode cJx35411_hasNext_aae02 18 = .ok (.iconst 0, 1) := by decide +kernel
theorem dJx35411_hasNext_aae02_19 : decode cJx35411_hasNext_aae02 19 = .ok (.ireturn, 1) := by decide +kernel
theorem dJx35411_init_45d68_0 : decode cJx35411_init_45d68 0 = .ok (.aload_n 0, 1) := by decide +kernel
theorem dJx35411_init_45d68_1 : decode cJx35411_init_45d68 1 = .ok (.aload_n 1, 1) := by decide +kernel
theorem dJx35411_init_45d68_2 : decode cJx35411_init_45d68 2 = .ok (.putfield 1, 3) := by decide +kernel
theorem dJx35411_init_45d68_5 : decode cJx35411_init_45d68 5 = .ok (.aload_n 0, 1) := by decide +kernel
theorem dJx35411_init_45d68_6 : decode cJx35411_init_45d68 6 = .ok (.invokespecial 7, 3) := by decide +kernel
theorem dJx35411_init_45d68_9 : decode cJx35411_init_45d68 9 = .ok (.aload_n 0, 1) := by decide +kernel
theorem dJx35411_init_45d68_10 : decode cJx35411_init_45d68 10 = .ok (.iconst (-1), 1) := by decide +kernel
theorem dJx35411_init_45d68_11 : decode cJx35411_init_45d68 11 = .ok (.putfield 13, 3) := by decide +kernel
theorem dJx35411_init_45d68_14 : decode cJx35411_init_45d68 14 = .ok (.aload_n 0, 1) := by decide +kernel
theorem dJx35411_init_45d68_15 : decode cJx35411_init_45d68 15 = .ok (.aload_n 0, 1) := by decide +kernel
theorem dJx35411_init_45d68_16 : decode cJx35411_init_45d68 16 = .ok (.getfield 1, 3) := by decide +kernel
theorem dJx35411_init_45d68_19 : decode cJx35411_init_45d68 19 = .ok (.getfield 17, 3) := by decide +kernel
theorem dJx35411_init_45d68_22 : decode cJx35411_init_45d68 22 = .ok (.putfield 22, 3) := by decide +kernel
theorem dJx35411_init_45d68_25 : decode cJx35411_init_45d68 25 = .ok (.return_, 1) := by decide +kernel
theorem dJx35411_next_0502b_0 : decode cJx35411_next_0502b 0 = .ok (.aload_n 0, 1) := by decide +kernel
theorem dJx35411_next_0502b_1 : decode cJx35411_next_0502b 1 = .ok (.invokevirtual 31, 3) := by decide +kernel
theorem dJx35411_next_0502b_4 : decode cJx35411_next_0502b 4 = .ok (.aload_n 0, 1) := by decide +kernel
theorem dJx35411_next_0502b_5 : decode cJx35411_next_0502b 5 = .ok (.getfield 25, 3) := by decide +kernel
theorem dJx35411_next_0502b_8 : decode cJx35411_next_0502b 8 = .ok (.istore_n 1, 1) := by decide +kernel
theorem dJx35411_next_0502b_9 : decode cJx35411_next_0502b 9 = .ok (.iload_n 1, 1) := by decide +kernel
theorem dJx35411_next_0502b_10 : decode cJx35411_next_0502b 10 = .ok (.aload_n 0, 1) := by decide +kernel
theorem dJx35411_next_0502b_11 : decode cJx35411_next_0502b 11 = .ok (.getfield 1, 3) := by decide +kernel
theorem dJx35411_next_0502b_14 : decode cJx35411_next_0502b 14 = .ok (.getfield 28, 3) := by decide +kernel
theorem dJx35411_next_0502b_17 : decode cJx35411_next_0502b 17 = .ok (.if_icmp .lt 11, 3) := by decide +kernel
theorem dJx35411_next_0502b_28 : decode cJx35411_next_0502b 28 = .ok (.aload_n 0, 1) := by decide +kernel
theorem dJx35411_next_0502b_29 : decode cJx35411_next_0502b 29 = .ok (.getfield 1, 3) := by decide +kernel
theorem dJx35411_next_0502b_32 : decode cJx35411_next_0502b 32 = .ok (.getfield 37, 3) := by decide +kernel
theorem dJx35411_next_0502b_35 : decode cJx35411_next_0502b 35 = .ok (.astore_n 2, 1) := by decide +kernel
theorem dJx35411_next_0502b_36 : decode cJx35411_next_0502b 36 = .ok (.iload_n 1, 1) := by decide +kernel
theorem dJx35411_next_0502b_37 : decode cJx35411_next_0502b 37 = .ok (.aload_n 2, 1) := by decide +kernel
theorem dJx35411_next_0502b_38 : decode cJx35411_next_0502b 38 = .ok (.arraylength, 1) := by decide +kernel
theorem dJx35411_next_0502b_39 : decode cJx35411_next_0502b 39 = .ok (.if_icmp .lt 11, 3) := by decide +kernel
theorem dJx35411_next_0502b_50 : decode cJx35411_next_0502b 50 = .ok (.aload_n 0, 1) := by decide +kernel
theorem dJx35411_next_0502b_51 : decode cJx35411_next_0502b 51 = .ok (.iload_n 1, 1) := by decide +kernel
theorem dJx35411_next_0502b_52 : decode cJx35411_next_0502b 52 = .ok (.iconst 1, 1) := by decide +kernel
theorem dJx35411_next_0502b_53 : decode cJx35411_next_0502b 53 = .ok (.iadd, 1) := by decide +kernel
theorem dJx35411_next_0502b_54 : decode cJx35411_next_0502b 54 = .ok (.putfield 25, 3) := by decide +kernel
theorem dJx35411_next_0502b_57 : decode cJx35411_next_0502b 57 = .ok (.aload_n 2, 1) := by decide +kernel
theorem dJx35411_next_0502b_58 : decode cJx35411_next_0502b 58 = .ok (.aload_n 0, 1) := by decide +kernel
theorem dJx35411_next_0502b_59 : decode cJx35411_next_0502b 59 = .ok (.iload_n 1, 1) := by decide +kernel
theorem dJx35411_next_0502b_60 : decode cJx35411_next_0502b 60 = .ok (.dup_x1, 1) := by decide +kernel
theorem dJx35411_next_0502b_61 : decode cJx35411_next_0502b 61 = .ok (.putfield 13, 3) := by decide +kernel
theorem dJx35411_next_0502b_64 : decode cJx35411_next_0502b 64 = .ok (.aaload, 1) := by decide +kernel
theorem dJx35411_next_0502b_65 : decode cJx35411_next_0502b 65 = .ok (.areturn, 1) := by decide +kernel
theorem dJx4a65c_add_72be8_0 : decode cJx4a65c_add_72be8 0 = .ok (.iload_n 3, 1) := by decide +kernel
theorem dJx4a65c_add_72be8_1 : decode cJx4a65c_add_72be8 1 = .ok (.aload_n 2, 1) := by decide +kernel
theorem dJx4a65c_add_72be8_2 : decode cJx4a65c_add_72be8 2 = .ok (.arraylength, 1) := by decide +kernel
theorem dJx4a65c_add_72be8_3 : decode cJx4a65c_add_72be8 3 = .ok (.if_icmp .ne 8, 3) := by decide +kernel
theorem dJx4a65c_add_72be8_6 : decode cJx4a65c_add_72be8 6 = .ok (.aload_n 0, 1) := by decide +kernel
theorem dJx4a65c_add_72be8_7 : decode cJx4a65c_add_72be8 7 = .ok (.invokevirtual 129, 3) := by decide +kernel
theorem dJx4a65c_add_72be8_10 : decode cJx4a65c_add_72be8 10 = .ok (.astore_n 2, 1) := by decide +kernel
theorem dJx4a65c_add_72be8_11 : decode cJx4a65c_add_72be8 11 = .ok (.aload_n 2, 1) := by decide +kernel
theorem dJx4a65c_add_72be8_12 : decode cJx4a65c_add_72be8 12 = .ok (.iload_n 3, 1) := by decide +kernel
theorem dJx4a65c_add_72be8_13 : decode cJx4a65c_add_72be8 13 = .ok (.aload_n 1, 1) := by decide +kernel
theorem dJx4a65c_add_72be8_14 : decode cJx4a65c_add_72be8 14 = .ok (.aastore, 1) := by decide +kernel
theorem dJx4a65c_add_72be8_15 : decode cJx4a65c_add_72be8 15 = .ok (.aload_n 0, 1) := by decide +kernel
theorem dJx4a65c_add_72be8_16 : decode cJx4a65c_add_72be8 16 = .ok (.iload_n 3, 1) := by decide +kernel
theorem dJx4a65c_add_72be8_17 : decode cJx4a65c_add_72be8 17 = .ok (.iconst 1, 1) := by decide +kernel
theorem dJx4a65c_add_72be8_18 : decode cJx4a65c_add_72be8 18 = .ok (.iadd, 1) := by decide +kernel
theorem dJx4a65c_add_72be8_19 : decode cJx4a65c_add_72be8 19 = .ok (.putfield 48, 3) := by decide +kernel
theorem dJx4a65c_add_72be8_22 : decode cJx4a65c_add_72be8 22 = .ok (.return_, 1) := by decide +kernel
theorem dJx4a65c_add_9ea2d_0 : decode cJx4a65c_add_9ea2d 0 = .ok (.aload_n 0, 1) := by decide +kernel
theorem dJx4a65c_add_9ea2d_1 : decode cJx4a65c_add_9ea2d 1 = .ok (.dup, 1) := by decide +kernel
theorem dJx4a65c_add_9ea2d_2 : decode cJx4a65c_add_9ea2d 2 = .ok (.getfield 63, 3) := by decide +kernel
theorem dJx4a65c_add_9ea2d_5 : decode cJx4a65c_add_9ea2d 5 = .ok (.iconst 1, 1) := by decide +kernel
theorem dJx4a65c_add_9ea2d_6 : decode cJx4a65c_add_9ea2d 6 = .ok (.iadd, 1) := by decide +kernel
theorem dJx4a65c_add_9ea2d_7 : decode cJx4a65c_add_9ea2d 7 = .ok (.putfield 63, 3) := by decide +kernel
theorem dJx4a65c_add_9ea2d_10 : decode cJx4a65c_add_9ea2d 10 = .ok (.aload_n 0, 1) := by decide +kernel
theorem dJx4a65c_add_9ea2d_11 : decode cJx4a65c_add_9ea2d 11 = .ok (.aload_n 1, 1) := by decide +kernel
theorem dJx4a65c_add_9ea2d_12 : decode cJx4a65c_add_9ea2d 12 = .ok (.aload_n 0, 1) := by decide +kernel
theorem dJx4a65c_add_9ea2d_13 : decode cJx4a65c_add_9ea2d 13 = .ok (.getfield 9, 3) := by decide +kernel
theorem dJx4a65c_add_9ea2d_16 : decode cJx4a65c_add_9ea2d 16 = .ok (.aload_n 0, 1) := by decide +kernel
theorem dJx4a65c_add_9ea2d_17 : decode cJx4a65c_add_9ea2d 17 = .ok (.getfield 48, 3) := by decide +kernel
theorem dJx4a65c_add_9ea2d_20 : decode cJx4a65c_add_9ea2d 20 = .ok (.invokevirtual 131, 3) := by decide +kernel
theorem dJx4a65c_add_9ea2d_23 : decode cJx4a65c_add_9ea2d 23 = .ok (.iconst 1, 1) := by decide +kernel
theorem dJx4a65c_add_9ea2d_24 : decode cJx4a65c_add_9ea2d 24 = .ok (.ireturn, 1) := by decide +kernel
theorem dJx4a65c_clear_da8c8_0 : decode cJx4a65c_clear_da8c8 0 = .ok (.aload_n 0, 1) := by decide +kernel
theorem dJx4a65c_clear_da8c8_1 : decode cJx4a65c_clear_da8c8 1 = .ok (.dup, 1) := by decide +kernel
theorem dJx4a65c_clear_da8c8_2 : decode cJx4a65c_clear_da8c8 2 = .ok (.getfield 63, 3) := by decide +kernel
theorem dJx4a65c_clear_da8c8_5 : decode cJx4a65c_clear_da8c8 5 = .ok (.iconst 1, 1) := by decide +kernel
theorem dJx4a65c_clear_da8c8_6 : decode cJx4a65c_clear_da8c8 6 = .ok (.iadd, 1) := by decide +kernel
theorem dJx4a65c_clear_da8c8_7 : decode cJx4a65c_clear_da8c8 7 = .ok (.putfield 63, 3) := by decide +kernel
theorem dJx4a65c_clear_da8c8_10 : decode cJx4a65c_clear_da8c8 10 = .ok (.aload_n 0, 1) := by decide +kernel
theorem dJx4a65c_clear_da8c8_11 : decode cJx4a65c_clear_da8c8 11 = .ok (.getfield 9, 3) := by decide +kernel
theorem dJx4a65c_clear_da8c8_14 : decode cJx4a65c_clear_da8c8 14 = .ok (.astore_n 1, 1) := by decide +kernel
theorem dJx4a65c_clear_da8c8_15 : decode cJx4a65c_clear_da8c8 15 = .ok (.aload_n 0, 1) := by decide +kernel
theorem dJx4a65c_clear_da8c8_16 : decode cJx4a65c_clear_da8c8 16 = .ok (.getfield 48, 3) := by decide +kernel
theorem dJx4a65c_clear_da8c8_19 : decode cJx4a65c_clear_da8c8 19 = .ok (.istore_n 2, 1) := by decide +kernel
theorem dJx4a65c_clear_da8c8_20 : decode cJx4a65c_clear_da8c8 20 = .ok (.aload_n 0, 1) := by decide +kernel
theorem dJx4a65c_clear_da8c8_21 : decode cJx4a65c_clear_da8c8 21 = .ok (.iconst 0, 1) := by decide +kernel
theorem dJx4a65c_clear_da8c8_22 : decode cJx4a65c_clear_da8c8 22 = .ok (.dup_x1, 1) := by decide +kernel
theorem dJx4a65c_clear_da8c8_23 : decode cJx4a65c_clear_da8c8 23 = .ok (.putfield 48, 3) := by decide +kernel
theorem dJx4a65c_clear_da8c8_26 : decode cJx4a65c_clear_da8c8 26 = .ok (.istore_n 3, 1) := by decide +kernel
theorem dJx4a65c_clear_da8c8_27 : decode cJx4a65c_clear_da8c8 27 = .ok (.iload_n 3, 1) := by decide +kernel
theorem dJx4a65c_clear_da8c8_28 : decode cJx4a65c_clear_da8c8 28 = .ok (.iload_n 2, 1) := by decide +kernel
theorem dJx4a65c_clear_da8c8_29 : decode cJx4a65c_clear_da8c8 29 = .ok (.if_icmp .ge 13, 3) := by decide +kernel
theorem dJx4a65c_clear_da8c8_32 : decode cJx4a65c_clear_da8c8 32 = .ok (.aload_n 1, 1) := by decide +kernel
theorem dJx4a65c_clear_da8c8_33 : decode cJx4a65c_clear_da8c8 33 = .ok (.iload_n 3, 1) := by decide +kernel
theorem dJx4a65c_clear_da8c8_34 : decode cJx4a65c_clear_da8c8 34 = .ok (.aconst_null, 1) := by decide +kernel
theorem dJx4a65c_clear_da8c8_35 : decode cJx4a65c_clear_da8c8 35 = .ok (.aastore, 1) := by decide +kernel
theorem dJx4a65c_clear_da8c8_36 : decode cJx4a65c_clear_da8c8 36 = .ok (.iinc 3 1, 3) := by decide +kernel
theorem dJx4a65c_clear_da8c8_39 : decode cJx4a65c_clear_da8c8 39 = .ok (.goto (-12), 3) := by decide +kernel
theorem dJx4a65c_clear_da8c8_42 : decode cJx4a65c_clear_da8c8 42 = .ok (.return_, 1) := by decide +kernel
theorem dJx4a65c_elementData_915e3_0 : decode cJx4a65c_elementData_915e3 0 = .ok (.aload_n 0, 1) := by decide +kernel
theorem dJx4a65c_elementData_915e3_1 : decode cJx4a65c_elementData_915e3 1 = .ok (.getfield 9, 3) := by decide +kernel
theorem dJx4a65c_elementData_915e3_4 : decode cJx4a65c_elementData_915e3 4 = .ok (.iload_n 1, 1) := by decide +kernel
theorem dJx4a65c_elementData_915e3_5 : decode cJx4a65c_elementData_915e3 5 = .ok (.aaload, 1) := by decide +kernel
theorem dJx4a65c_elementData_915e3_6 : decode cJx4a65c_elementData_915e3 6 = .ok (.areturn, 1) := by decide +kernel
theorem dJx4a65c_get_915e3_0 : decode cJx4a65c_get_915e3 0 = .ok (.iload_n 1, 1) := by decide +kernel
theorem dJx4a65c_get_915e3_1 : decode cJx4a65c_get_915e3 1 = .ok (.aload_n 0, 1) := by decide +kernel
theorem dJx4a65c_get_915e3_2 : decode cJx4a65c_get_915e3 2 = .ok (.getfield 48, 3) := by decide +kernel
theorem dJx4a65c_get_915e3_5 : decode cJx4a65c_get_915e3 5 = .ok (.invokestatic 118, 3) := by decide +kernel
theorem dJx4a65c_get_915e3_8 : decode cJx4a65c_get_915e3 8 = .ok (.pop, 1) := by decide +kernel
theorem dJx4a65c_get_915e3_9 : decode cJx4a65c_get_915e3 9 = .ok (.aload_n 0, 1) := by decide +kernel
theorem dJx4a65c_get_915e3_10 : decode cJx4a65c_get_915e3 10 = .ok (.iload_n 1, 1) := by decide +kernel
theorem dJx4a65c_get_915e3_11 : decode cJx4a65c_get_915e3 11 = .ok (.invokevirtual 123, 3) := by decide +kernel
theorem dJx4a65c_get_915e3_14 : decode cJx4a65c_get_915e3 14 = .ok (.areturn, 1) := by decide +kernel
theorem dJx4a65c_grow_92f84_0 : decode cJx4a65c_grow_92f84 0 = .ok (.aload_n 0, 1) := by decide +kernel
theorem dJx4a65c_grow_92f84_1 : decode cJx4a65c_grow_92f84 1 = .ok (.getfield 9, 3) := by decide +kernel
theorem dJx4a65c_grow_92f84_4 : decode cJx4a65c_grow_92f84 4 = .ok (.arraylength, 1) := by decide +kernel
theorem dJx4a65c_grow_92f84_5 : decode cJx4a65c_grow_92f84 5 = .ok (.istore_n 2, 1) := by decide +kernel
theorem dJx4a65c_grow_92f84_6 : decode cJx4a65c_grow_92f84 6 = .ok (.iload_n 2, 1) := by decide +kernel
theorem dJx4a65c_grow_92f84_7 : decode cJx4a65c_grow_92f84 7 = .ok (.ifCond .gt 13, 3) := by decide +kernel
theorem dJx4a65c_grow_92f84_10 : decode cJx4a65c_grow_92f84 10 = .ok (.aload_n 0, 1) := by decide +kernel
theorem dJx4a65c_grow_92f84_11 : decode cJx4a65c_grow_92f84 11 = .ok (.getfield 9, 3) := by decide +kernel
theorem dJx4a65c_grow_92f84_14 : decode cJx4a65c_grow_92f84 14 = .ok (.getstatic 39, 3) := by decide +kernel
theorem dJx4a65c_grow_92f84_17 : decode cJx4a65c_grow_92f84 17 = .ok (.if_acmp .eq 28, 3) := by decide +kernel
theorem dJx4a65c_grow_92f84_45 : decode cJx4a65c_grow_92f84 45 = .ok (.aload_n 0, 1) := by decide +kernel
theorem dJx4a65c_grow_92f84_46 : decode cJx4a65c_grow_92f84 46 = .ok (.bipush 10, 2) := by decide +kernel
theorem dJx4a65c_grow_92f84_48 : decode cJx4a65c_grow_92f84 48 = .ok (.iload_n 1, 1) := by decide +kernel
theorem dJx4a65c_grow_92f84_49 : decode cJx4a65c_grow_92f84 49 = .ok (.invokestatic 79, 3) := by decide +kernel
theorem dJx4a65c_grow_92f84_52 : decode cJx4a65c_grow_92f84 52 = .ok (.anewarray 7, 3) := by decide +kernel
theorem dJx4a65c_grow_92f84_55 : decode cJx4a65c_grow_92f84 55 = .ok (.dup_x1, 1) := by decide +kernel
theorem dJx4a65c_grow_92f84_56 : decode cJx4a65c_grow_92f84 56 = .ok (.putfield 9, 3) := by decide +kernel
theorem dJx4a65c_grow_92f84_59 : decode cJx4a65c_grow_92f84 59 = .ok (.areturn, 1) := by decide +kernel
theorem dJx4a65c_grow_d5877_0 : decode cJx4a65c_grow_d5877 0 = .ok (.aload_n 0, 1) := by decide +kernel
theorem dJx4a65c_grow_d5877_1 : decode cJx4a65c_grow_d5877 1 = .ok (.aload_n 0, 1) := by decide +kernel
theorem dJx4a65c_grow_d5877_2 : decode cJx4a65c_grow_d5877 2 = .ok (.getfield 48, 3) := by decide +kernel
theorem dJx4a65c_grow_d5877_5 : decode cJx4a65c_grow_d5877 5 = .ok (.iconst 1, 1) := by decide +kernel
theorem dJx4a65c_grow_d5877_6 : decode cJx4a65c_grow_d5877 6 = .ok (.iadd, 1) := by decide +kernel
theorem dJx4a65c_grow_d5877_7 : decode cJx4a65c_grow_d5877 7 = .ok (.invokevirtual 69, 3) := by decide +kernel
theorem dJx4a65c_grow_d5877_10 : decode cJx4a65c_grow_d5877 10 = .ok (.areturn, 1) := by decide +kernel
theorem dJx4a65c_init_da8c8_0 : decode cJx4a65c_init_da8c8 0 = .ok (.aload_n 0, 1) := by decide +kernel
theorem dJx4a65c_init_da8c8_1 : decode cJx4a65c_init_da8c8 1 = .ok (.invokespecial 1, 3) := by decide +kernel
theorem dJx4a65c_init_da8c8_4 : decode cJx4a65c_init_da8c8 4 = .ok (.aload_n 0, 1) := by decide +kernel
theorem dJx4a65c_init_da8c8_5 : decode cJx4a65c_init_da8c8 5 = .ok (.getstatic 39, 3) := by decide +kernel
theorem dJx4a65c_init_da8c8_8 : decode cJx4a65c_init_da8c8 8 = .ok (.putfield 9, 3) := by decide +kernel
theorem dJx4a65c_init_da8c8_11 : decode cJx4a65c_init_da8c8 11 = .ok (.return_, 1) := by decide +kernel
theorem dJx4a65c_iterator_32c93_0 : decode cJx4a65c_iterator_32c93 0 = .ok (.new 267, 3) := by decide +kernel
theorem dJx4a65c_iterator_32c93_3 : decode cJx4a65c_iterator_32c93 3 = .ok (.dup, 1) := by decide +kernel
theorem dJx4a65c_iterator_32c93_4 : decode cJx4a65c_iterator_32c93 4 = .ok (.aload_n 0, 1) := by decide +kernel
theorem dJx4a65c_iterator_32c93_5 : decode cJx4a65c_iterator_32c93 5 = .ok (.invokespecial 269, 3) := by decide +kernel
theorem dJx4a65c_iterator_32c93_8 : decode cJx4a65c_iterator_32c93 8 = .ok (.areturn, 1) := by decide +kernel
theorem dJx4a65c_size_8abf5_0 : decode cJx4a65c_size_8abf5 0 = .ok (.aload_n 0, 1) := by decide +kernel
theorem dJx4a65c_size_8abf5_1 : decode cJx4a65c_size_8abf5 1 = .ok (.getfield 48, 3) := by decide +kernel
theorem dJx4a65c_size_8abf5_4 : decode cJx4a65c_size_8abf5 4 = .ok (.ireturn, 1) := by decide +kernel
theorem dJxa1e45_init_da8c8_0 : decode cJxa1e45_init_da8c8 0 = .ok (.aload_n 0, 1) := by decide +kernel
theorem dJxa1e45_init_da8c8_1 : decode cJxa1e45_init_da8c8 1 = .ok (.invokespecial 1, 3) := by decide +kernel
theorem dJxa1e45_init_da8c8_4 : decode cJxa1e45_init_da8c8 4 = .ok (.return_, 1) := by decide +kernel
theorem dJxc12de_init_da8c8_0 : decode cJxc12de_init_da8c8 0 = .ok (.aload_n 0, 1) := by decide +kernel
theorem dJxc12de_init_da8c8_1 : decode cJxc12de_init_da8c8 1 = .ok (.invokespecial 1, 3) := by decide +kernel
theorem dJxc12de_init_da8c8_4 : decode cJxc12de_init_da8c8 4 = .ok (.aload_n 0, 1) := by decide +kernel
theorem dJxc12de_init_da8c8_5 : decode cJxc12de_init_da8c8 5 = .ok (.iconst 0, 1) := by decide +kernel
theorem dJxc12de_init_da8c8_6 : decode cJxc12de_init_da8c8 6 = .ok (.putfield 7, 3) := by decide +kernel
theorem dJxc12de_init_da8c8_9 : decode cJxc12de_init_da8c8 9 = .ok (.return_, 1) := by decide +kernel
theorem dL_addInput_0 : decode cL_addInput 0 = .ok (.aload_n 1, 1) := by decide +kernel
theorem dL_addInput_1 : decode cL_addInput 1 = .ok (.iconst 0, 1) := by decide +kernel
theorem dL_addInput_2 : decode cL_addInput 2 = .ok (.aload_n 0, 1) := by decide +kernel
theorem dL_addInput_3 : decode cL_addInput 3 = .ok (.invokevirtual 7, 3) := by decide +kernel
theorem dL_addInput_6 : decode cL_addInput 6 = .ok (.i2l, 1) := by decide +kernel
theorem dL_addInput_7 : decode cL_addInput 7 = .ok (.lastore, 1) := by decide +kernel
theorem dL_addInput_8 : decode cL_addInput 8 = .ok (.goto 9, 3) := by decide +kernel
theorem dL_addInput_17 : decode cL_addInput 17 = .ok (.iconst 0, 1) := by decide +kernel
theorem dL_addInput_18 : decode cL_addInput 18 = .ok (.ireturn, 1) := by decide +kernel
theorem dL_addTest_0 : decode cL_addTest 0 = .ok (.aload_n 2, 1) := by decide +kernel
theorem dL_addTest_1 : decode cL_addTest 1 = .ok (.iconst 0, 1) := by decide +kernel
theorem dL_addTest_2 : decode cL_addTest 2 = .ok (.aload_n 0, 1) := by decide +kernel
theorem dL_addTest_3 : decode cL_addTest 3 = .ok (.iload_n 1, 1) := by decide +kernel
theorem dL_addTest_4 : decode cL_addTest 4 = .ok (.invokevirtual 89, 3) := by decide +kernel
theorem dL_addTest_7 : decode cL_addTest 7 = .ok (.i2l, 1) := by decide +kernel
theorem dL_addTest_8 : decode cL_addTest 8 = .ok (.lastore, 1) := by decide +kernel
theorem dL_addTest_9 : decode cL_addTest 9 = .ok (.goto 9, 3) := by decide +kernel
theorem dL_addTest_18 : decode cL_addTest 18 = .ok (.iconst 0, 1) := by decide +kernel
theorem dL_addTest_19 : decode cL_addTest 19 = .ok (.ireturn, 1) := by decide +kernel
theorem dL_law_0 : decode cL_law 0 = .ok (.new 8, 3) := by decide +kernel
theorem dL_law_3 : decode cL_law 3 = .ok (.dup, 1) := by decide +kernel
theorem dL_law_4 : decode cL_law 4 = .ok (.invokespecial 102, 3) := by decide +kernel
theorem dL_law_7 : decode cL_law 7 = .ok (.astore_n 1, 1) := by decide +kernel
theorem dL_law_8 : decode cL_law 8 = .ok (.new 103, 3) := by decide +kernel
theorem dL_law_11 : decode cL_law 11 = .ok (.dup, 1) := by decide +kernel
theorem dL_law_12 : decode cL_law 12 = .ok (.invokespecial 105, 3) := by decide +kernel
theorem dL_law_15 : decode cL_law 15 = .ok (.astore_n 2, 1) := by decide +kernel
theorem dL_law_16 : decode cL_law 16 = .ok (.iconst 1, 1) := by decide +kernel
theorem dL_law_17 : decode cL_law 17 = .ok (.newarray .long, 2) := by decide +kernel
theorem dL_law_19 : decode cL_law 19 = .ok (.astore_n 3, 1) := by decide +kernel
theorem dL_law_20 : decode cL_law 20 = .ok (.iconst 1, 1) := by decide +kernel
theorem dL_law_21 : decode cL_law 21 = .ok (.newarray .double, 2) := by decide +kernel
theorem dL_law_23 : decode cL_law 23 = .ok (.astore 4, 2) := by decide +kernel
theorem dL_law_25 : decode cL_law 25 = .ok (.iconst 0, 1) := by decide +kernel
theorem dL_law_26 : decode cL_law 26 = .ok (.istore 5, 2) := by decide +kernel
theorem dL_law_28 : decode cL_law 28 = .ok (.iload 5, 2) := by decide +kernel
theorem dL_law_30 : decode cL_law 30 = .ok (.aload_n 0, 1) := by decide +kernel
theorem dL_law_31 : decode cL_law 31 = .ok (.arraylength, 1) := by decide +kernel
theorem dL_law_32 : decode cL_law 32 = .ok (.iconst 5, 1) := by decide +kernel
theorem dL_law_33 : decode cL_law 33 = .ok (.isub, 1) := by decide +kernel
theorem dL_law_34 : decode cL_law 34 = .ok (.if_icmp .gt 1029, 3) := by decide +kernel
theorem dL_law_37 : decode cL_law 37 = .ok (.aload_n 0, 1) := by decide +kernel
theorem dL_law_38 : decode cL_law 38 = .ok (.iload 5, 2) := by decide +kernel
theorem dL_law_40 : decode cL_law 40 = .ok (.iaload, 1) := by decide +kernel
theorem dL_law_41 : decode cL_law 41 = .ok (.bipush 31, 2) := by decide +kernel
theorem dL_law_43 : decode cL_law 43 = .ok (.iand, 1) := by decide +kernel
theorem dL_law_44 : decode cL_law 44 = .ok (.tableswitch 1013 0 27 #[128, 144, 210, 226, 290, 306, 346, 402, 444, 457, 499, 527, 555, 583, 611, 624, 652, 680, 720, 748, 788, 842, 912, 940, 953, 966, 983, 1000], 128) := by decide +kernel
theorem dL_law_172 : decode cL_law 172 = .ok (.aload_n 1, 1) := by decide +kernel
theorem dL_law_173 : decode cL_law 173 = .ok (.aload_n 3, 1) := by decide +kernel
theorem dL_law_174 : decode cL_law 174 = .ok (.invokestatic 106, 3) := by decide +kernel
theorem dL_law_177 : decode cL_law 177 = .ok (.istore 6, 2) := by decide +kernel
theorem dL_law_179 : decode cL_law 179 = .ok (.aload_n 2, 1) := by decide +kernel
theorem dL_law_180 : decode cL_law 180 = .ok (.invokevirtual 111, 3) := by decide +kernel
theorem dL_law_183 : decode cL_law 183 = .ok (.istore 7, 2) := by decide +kernel
theorem dL_law_185 : decode cL_law 185 = .ok (.goto 872, 3) := by decide +kernel
theorem dL_law_956 : decode cL_law 956 = .ok (.aload_n 1, 1) := by decide +kernel
theorem dL_law_957 : decode cL_law 957 = .ok (.aload_n 0, 1) := by decide +kernel
theorem dL_law_958 : decode cL_law 958 = .ok (.iload 5, 2) := by decide +kernel
theorem dL_law_960 : decode cL_law 960 = .ok (.iconst 1, 1) := by decide +kernel
theorem dL_law_961 : decode cL_law 961 = .ok (.iadd, 1) := by decide +kernel
theorem dL_law_962 : decode cL_law 962 = .ok (.iaload, 1) := by decide +kernel
theorem dL_law_963 : decode cL_law 963 = .ok (.aload_n 3, 1) := by decide +kernel
theorem dL_law_964 : decode cL_law 964 = .ok (.invokestatic 187, 3) := by decide +kernel
theorem dL_law_967 : decode cL_law 967 = .ok (.istore 6, 2) := by decide +kernel
theorem dL_law_969 : decode cL_law 969 = .ok (.aload_n 2, 1) := by decide +kernel
theorem dL_law_970 : decode cL_law 970 = .ok (.aload_n 0, 1) := by decide +kernel
theorem dL_law_971 : decode cL_law 971 = .ok (.iload 5, 2) := by decide +kernel
theorem dL_law_973 : decode cL_law 973 = .ok (.iconst 1, 1) := by decide +kernel
theorem dL_law_974 : decode cL_law 974 = .ok (.iadd, 1) := by decide +kernel
theorem dL_law_975 : decode cL_law 975 = .ok (.iaload, 1) := by decide +kernel
theorem dL_law_976 : decode cL_law 976 = .ok (.invokevirtual 189, 3) := by decide +kernel
theorem dL_law_979 : decode cL_law 979 = .ok (.istore 7, 2) := by decide +kernel
theorem dL_law_981 : decode cL_law 981 = .ok (.goto 76, 3) := by decide +kernel
theorem dL_law_984 : decode cL_law 984 = .ok (.aload_n 1, 1) := by decide +kernel
theorem dL_law_985 : decode cL_law 985 = .ok (.invokevirtual 190, 3) := by decide +kernel
theorem dL_law_988 : decode cL_law 988 = .ok (.pop, 1) := by decide +kernel
theorem dL_law_989 : decode cL_law 989 = .ok (.aload_n 2, 1) := by decide +kernel
theorem dL_law_990 : decode cL_law 990 = .ok (.invokevirtual 193, 3) := by decide +kernel
theorem dL_law_993 : decode cL_law 993 = .ok (.pop, 1) := by decide +kernel
theorem dL_law_994 : decode cL_law 994 = .ok (.goto 63, 3) := by decide +kernel
theorem dL_law_1057 : decode cL_law 1057 = .ok (.iinc 5 5, 3) := by decide +kernel
theorem dL_law_1060 : decode cL_law 1060 = .ok (.goto (-1032), 3) := by decide +kernel
theorem dL_law_1063 : decode cL_law 1063 = .ok (.iconst 1, 1) := by decide +kernel
theorem dL_law_1064 : decode cL_law 1064 = .ok (.ireturn, 1) := by decide +kernel
theorem dX0_countReaders_0 : decode cX0_countReaders 0 = .ok (.iconst 0, 1) := by decide +kernel
theorem dX0_countReaders_1 : decode cX0_countReaders 1 = .ok (.istore_n 1, 1) := by decide +kernel
theorem dX0_countReaders_2 : decode cX0_countReaders 2 = .ok (.iload_n 1, 1) := by decide +kernel
theorem dX0_countReaders_3 : decode cX0_countReaders 3 = .ok (.aload_n 0, 1) := by decide +kernel
theorem dX0_countReaders_4 : decode cX0_countReaders 4 = .ok (.getfield 12, 3) := by decide +kernel
theorem dX0_countReaders_7 : decode cX0_countReaders 7 = .ok (.invokevirtual 29, 3) := by decide +kernel
theorem dX0_countReaders_10 : decode cX0_countReaders 10 = .ok (.if_icmp .ge 24, 3) := by decide +kernel
theorem dX0_countReaders_13 : decode cX0_countReaders 13 = .ok (.aload_n 0, 1) := by decide +kernel
theorem dX0_countReaders_14 : decode cX0_countReaders 14 = .ok (.getfield 12, 3) := by decide +kernel
theorem dX0_countReaders_17 : decode cX0_countReaders 17 = .ok (.iload_n 1, 1) := by decide +kernel
theorem dX0_countReaders_18 : decode cX0_countReaders 18 = .ok (.invokevirtual 71, 3) := by decide +kernel
theorem dX0_countReaders_21 : decode cX0_countReaders 21 = .ok (.checkcast 27, 3) := by decide +kernel
theorem dX0_countReaders_24 : decode cX0_countReaders 24 = .ok (.iconst 0, 1) := by decide +kernel
theorem dX0_countReaders_25 : decode cX0_countReaders 25 = .ok (.putfield 85, 3) := by decide +kernel
theorem dX0_countReaders_28 : decode cX0_countReaders 28 = .ok (.iinc 1 1, 3) := by decide +kernel
theorem dX0_countReaders_31 : decode cX0_countReaders 31 = .ok (.goto (-29), 3) := by decide +kernel
theorem dX0_countReaders_34 : decode cX0_countReaders 34 = .ok (.iconst 0, 1) := by decide +kernel
theorem dX0_countReaders_35 : decode cX0_countReaders 35 = .ok (.istore_n 1, 1) := by decide +kernel
theorem dX0_countReaders_36 : decode cX0_countReaders 36 = .ok (.iload_n 1, 1) := by decide +kernel
theorem dX0_countReaders_37 : decode cX0_countReaders 37 = .ok (.aload_n 0, 1) := by decide +kernel
theorem dX0_countReaders_38 : decode cX0_countReaders 38 = .ok (.getfield 21, 3) := by decide +kernel
theorem dX0_countReaders_41 : decode cX0_countReaders 41 = .ok (.invokevirtual 29, 3) := by decide +kernel
theorem dX0_countReaders_44 : decode cX0_countReaders 44 = .ok (.if_icmp .ge 58, 3) := by decide +kernel
theorem dX0_countReaders_102 : decode cX0_countReaders 102 = .ok (.return_, 1) := by decide +kernel
theorem dX0_findStandings_0 : decode cX0_findStandings 0 = .ok (.iconst 0, 1) := by decide +kernel
theorem dX0_findStandings_1 : decode cX0_findStandings 1 = .ok (.istore_n 1, 1) := by decide +kernel
theorem dX0_findStandings_2 : decode cX0_findStandings 2 = .ok (.iload_n 1, 1) := by decide +kernel
theorem dX0_findStandings_3 : decode cX0_findStandings 3 = .ok (.aload_n 0, 1) := by decide +kernel
theorem dX0_findStandings_4 : decode cX0_findStandings 4 = .ok (.getfield 12, 3) := by decide +kernel
theorem dX0_findStandings_7 : decode cX0_findStandings 7 = .ok (.invokevirtual 29, 3) := by decide +kernel
theorem dX0_findStandings_10 : decode cX0_findStandings 10 = .ok (.if_icmp .ge 34, 3) := by decide +kernel
theorem dX0_findStandings_13 : decode cX0_findStandings 13 = .ok (.aload_n 0, 1) := by decide +kernel
theorem dX0_findStandings_14 : decode cX0_findStandings 14 = .ok (.getfield 12, 3) := by decide +kernel
theorem dX0_findStandings_17 : decode cX0_findStandings 17 = .ok (.iload_n 1, 1) := by decide +kernel
theorem dX0_findStandings_18 : decode cX0_findStandings 18 = .ok (.invokevirtual 71, 3) := by decide +kernel
theorem dX0_findStandings_21 : decode cX0_findStandings 21 = .ok (.checkcast 27, 3) := by decide +kernel
theorem dX0_findStandings_24 : decode cX0_findStandings 24 = .ok (.aload_n 0, 1) := by decide +kernel
theorem dX0_findStandings_25 : decode cX0_findStandings 25 = .ok (.getfield 12, 3) := by decide +kernel
theorem dX0_findStandings_28 : decode cX0_findStandings 28 = .ok (.iload_n 1, 1) := by decide +kernel
theorem dX0_findStandings_29 : decode cX0_findStandings 29 = .ok (.invokevirtual 71, 3) := by decide +kernel
theorem dX0_findStandings_32 : decode cX0_findStandings 32 = .ok (.checkcast 27, 3) := by decide +kernel
theorem dX0_findStandings_35 : decode cX0_findStandings 35 = .ok (.putfield 107, 3) := by decide +kernel
theorem dX0_findStandings_38 : decode cX0_findStandings 38 = .ok (.iinc 1 1, 3) := by decide +kernel
theorem dX0_findStandings_41 : decode cX0_findStandings 41 = .ok (.goto (-39), 3) := by decide +kernel
theorem dX0_findStandings_44 : decode cX0_findStandings 44 = .ok (.iconst 0, 1) := by decide +kernel
theorem dX0_findStandings_45 : decode cX0_findStandings 45 = .ok (.istore_n 1, 1) := by decide +kernel
theorem dX0_findStandings_46 : decode cX0_findStandings 46 = .ok (.iload_n 1, 1) := by decide +kernel
theorem dX0_findStandings_47 : decode cX0_findStandings 47 = .ok (.aload_n 0, 1) := by decide +kernel
theorem dX0_findStandings_48 : decode cX0_findStandings 48 = .ok (.getfield 21, 3) := by decide +kernel
theorem dX0_findStandings_51 : decode cX0_findStandings 51 = .ok (.invokevirtual 29, 3) := by decide +kernel
theorem dX0_findStandings_54 : decode cX0_findStandings 54 = .ok (.if_icmp .ge 77, 3) := by decide +kernel
theorem dX0_findStandings_131 : decode cX0_findStandings 131 = .ok (.return_, 1) := by decide +kernel
theorem dX0_findTaken_0 : decode cX0_findTaken 0 = .ok (.iconst 0, 1) := by decide +kernel
theorem dX0_findTaken_1 : decode cX0_findTaken 1 = .ok (.istore_n 1, 1) := by decide +kernel
theorem dX0_findTaken_2 : decode cX0_findTaken 2 = .ok (.iload_n 1, 1) := by decide +kernel
theorem dX0_findTaken_3 : decode cX0_findTaken 3 = .ok (.aload_n 0, 1) := by decide +kernel
theorem dX0_findTaken_4 : decode cX0_findTaken 4 = .ok (.getfield 12, 3) := by decide +kernel
theorem dX0_findTaken_7 : decode cX0_findTaken 7 = .ok (.invokevirtual 29, 3) := by decide +kernel
theorem dX0_findTaken_10 : decode cX0_findTaken 10 = .ok (.if_icmp .ge 24, 3) := by decide +kernel
theorem dX0_findTaken_13 : decode cX0_findTaken 13 = .ok (.aload_n 0, 1) := by decide +kernel
theorem dX0_findTaken_14 : decode cX0_findTaken 14 = .ok (.getfield 12, 3) := by decide +kernel
theorem dX0_findTaken_17 : decode cX0_findTaken 17 = .ok (.iload_n 1, 1) := by decide +kernel
theorem dX0_findTaken_18 : decode cX0_findTaken 18 = .ok (.invokevirtual 71, 3) := by decide +kernel
theorem dX0_findTaken_21 : decode cX0_findTaken 21 = .ok (.checkcast 27, 3) := by decide +kernel
theorem dX0_findTaken_24 : decode cX0_findTaken 24 = .ok (.iconst 0, 1) := by decide +kernel
theorem dX0_findTaken_25 : decode cX0_findTaken 25 = .ok (.putfield 140, 3) := by decide +kernel
theorem dX0_findTaken_28 : decode cX0_findTaken 28 = .ok (.iinc 1 1, 3) := by decide +kernel
theorem dX0_findTaken_31 : decode cX0_findTaken 31 = .ok (.goto (-29), 3) := by decide +kernel
theorem dX0_findTaken_34 : decode cX0_findTaken 34 = .ok (.iconst 0, 1) := by decide +kernel
theorem dX0_findTaken_35 : decode cX0_findTaken 35 = .ok (.istore_n 1, 1) := by decide +kernel
theorem dX0_findTaken_36 : decode cX0_findTaken 36 = .ok (.iload_n 1, 1) := by decide +kernel
theorem dX0_findTaken_37 : decode cX0_findTaken 37 = .ok (.aload_n 0, 1) := by decide +kernel
theorem dX0_findTaken_38 : decode cX0_findTaken 38 = .ok (.getfield 18, 3) := by decide +kernel
theorem dX0_findTaken_41 : decode cX0_findTaken 41 = .ok (.invokevirtual 29, 3) := by decide +kernel
theorem dX0_findTaken_44 : decode cX0_findTaken 44 = .ok (.if_icmp .ge 33, 3) := by decide +kernel
theorem dX0_findTaken_47 : decode cX0_findTaken 47 = .ok (.aload_n 0, 1) := by decide +kernel
theorem dX0_findTaken_48 : decode cX0_findTaken 48 = .ok (.getfield 18, 3) := by decide +kernel
theorem dX0_findTaken_51 : decode cX0_findTaken 51 = .ok (.iload_n 1, 1) := by decide +kernel
theorem dX0_findTaken_52 : decode cX0_findTaken 52 = .ok (.invokevirtual 71, 3) := by decide +kernel
theorem dX0_findTaken_55 : decode cX0_findTaken 55 = .ok (.checkcast 27, 3) := by decide +kernel
theorem dX0_findTaken_58 : decode cX0_findTaken 58 = .ok (.getfield 143, 3) := by decide +kernel
theorem dX0_findTaken_61 : decode cX0_findTaken 61 = .ok (.astore_n 2, 1) := by decide +kernel
theorem dX0_findTaken_62 : decode cX0_findTaken 62 = .ok (.aload_n 2, 1) := by decide +kernel
theorem dX0_findTaken_63 : decode cX0_findTaken 63 = .ok (.ifnull 8, 3) := by decide +kernel
theorem dX0_findTaken_71 : decode cX0_findTaken 71 = .ok (.iinc 1 1, 3) := by decide +kernel
theorem dX0_findTaken_74 : decode cX0_findTaken 74 = .ok (.goto (-38), 3) := by decide +kernel
theorem dX0_findTaken_77 : decode cX0_findTaken 77 = .ok (.return_, 1) := by decide +kernel
theorem dX0_init_0 : decode cX0_init 0 = .ok (.aload_n 0, 1) := by decide +kernel
theorem dX0_init_1 : decode cX0_init 1 = .ok (.invokespecial 3, 3) := by decide +kernel
theorem dX0_init_4 : decode cX0_init 4 = .ok (.aload_n 0, 1) := by decide +kernel
theorem dX0_init_5 : decode cX0_init 5 = .ok (.new 9, 3) := by decide +kernel
theorem dX0_init_8 : decode cX0_init 8 = .ok (.dup, 1) := by decide +kernel
theorem dX0_init_9 : decode cX0_init 9 = .ok (.invokespecial 11, 3) := by decide +kernel
theorem dX0_init_12 : decode cX0_init 12 = .ok (.putfield 12, 3) := by decide +kernel
theorem dX0_init_15 : decode cX0_init 15 = .ok (.aload_n 0, 1) := by decide +kernel
theorem dX0_init_16 : decode cX0_init 16 = .ok (.new 9, 3) := by decide +kernel
theorem dX0_init_19 : decode cX0_init 19 = .ok (.dup, 1) := by decide +kernel
theorem dX0_init_20 : decode cX0_init 20 = .ok (.invokespecial 11, 3) := by decide +kernel
theorem dX0_init_23 : decode cX0_init 23 = .ok (.putfield 18, 3) := by decide +kernel
theorem dX0_init_26 : decode cX0_init 26 = .ok (.aload_n 0, 1) := by decide +kernel
theorem dX0_init_27 : decode cX0_init 27 = .ok (.new 9, 3) := by decide +kernel
theorem dX0_init_30 : decode cX0_init 30 = .ok (.dup, 1) := by decide +kernel
theorem dX0_init_31 : decode cX0_init 31 = .ok (.invokespecial 11, 3) := by decide +kernel
theorem dX0_init_34 : decode cX0_init 34 = .ok (.putfield 21, 3) := by decide +kernel
theorem dX0_init_37 : decode cX0_init 37 = .ok (.aload_n 0, 1) := by decide +kernel
theorem dX0_init_38 : decode cX0_init 38 = .ok (.new 9, 3) := by decide +kernel
theorem dX0_init_41 : decode cX0_init 41 = .ok (.dup, 1) := by decide +kernel
theorem dX0_init_42 : decode cX0_init 42 = .ok (.invokespecial 11, 3) := by decide +kernel
theorem dX0_init_45 : decode cX0_init 45 = .ok (.putfield 24, 3) := by decide +kernel
theorem dX0_init_48 : decode cX0_init 48 = .ok (.return_, 1) := by decide +kernel
theorem dX0_layOut_0 : decode cX0_layOut 0 = .ok (.aload_n 0, 1) := by decide +kernel
theorem dX0_layOut_1 : decode cX0_layOut 1 = .ok (.invokevirtual 53, 3) := by decide +kernel
theorem dX0_layOut_4 : decode cX0_layOut 4 = .ok (.aload_n 0, 1) := by decide +kernel
theorem dX0_layOut_5 : decode cX0_layOut 5 = .ok (.invokevirtual 56, 3) := by decide +kernel
theorem dX0_layOut_8 : decode cX0_layOut 8 = .ok (.aload_n 0, 1) := by decide +kernel
theorem dX0_layOut_9 : decode cX0_layOut 9 = .ok (.invokevirtual 59, 3) := by decide +kernel
theorem dX0_layOut_12 : decode cX0_layOut 12 = .ok (.aload_n 0, 1) := by decide +kernel
theorem dX0_layOut_13 : decode cX0_layOut 13 = .ok (.invokevirtual 62, 3) := by decide +kernel
theorem dX0_layOut_16 : decode cX0_layOut 16 = .ok (.aload_n 0, 1) := by decide +kernel
theorem dX0_layOut_17 : decode cX0_layOut 17 = .ok (.invokevirtual 65, 3) := by decide +kernel
theorem dX0_layOut_20 : decode cX0_layOut 20 = .ok (.return_, 1) := by decide +kernel
theorem dX0_makeNet_0 : decode cX0_makeNet 0 = .ok (.new 27, 3) := by decide +kernel
theorem dX0_makeNet_3 : decode cX0_makeNet 3 = .ok (.dup, 1) := by decide +kernel
theorem dX0_makeNet_4 : decode cX0_makeNet 4 = .ok (.aload_n 0, 1) := by decide +kernel
theorem dX0_makeNet_5 : decode cX0_makeNet 5 = .ok (.getfield 12, 3) := by decide +kernel
theorem dX0_makeNet_8 : decode cX0_makeNet 8 = .ok (.invokevirtual 29, 3) := by decide +kernel
theorem dX0_makeNet_11 : decode cX0_makeNet 11 = .ok (.aload_n 1, 1) := by decide +kernel
theorem dX0_makeNet_12 : decode cX0_makeNet 12 = .ok (.invokespecial 33, 3) := by decide +kernel
theorem dX0_makeNet_15 : decode cX0_makeNet 15 = .ok (.astore_n 2, 1) := by decide +kernel
theorem dX0_makeNet_16 : decode cX0_makeNet 16 = .ok (.aload_n 0, 1) := by decide +kernel
theorem dX0_makeNet_17 : decode cX0_makeNet 17 = .ok (.getfield 12, 3) := by decide +kernel
theorem dX0_makeNet_20 : decode cX0_makeNet 20 = .ok (.aload_n 2, 1) := by decide +kernel
theorem dX0_makeNet_21 : decode cX0_makeNet 21 = .ok (.invokevirtual 36, 3) := by decide +kernel
theorem dX0_makeNet_24 : decode cX0_makeNet 24 = .ok (.pop, 1) := by decide +kernel
theorem dX0_makeNet_25 : decode cX0_makeNet 25 = .ok (.aload_n 2, 1) := by decide +kernel
theorem dX0_makeNet_26 : decode cX0_makeNet 26 = .ok (.invokevirtual 40, 3) := by decide +kernel
theorem dX0_makeNet_29 : decode cX0_makeNet 29 = .ok (.ifCond .eq 12, 3) := by decide +kernel
theorem dX0_makeNet_32 : decode cX0_makeNet 32 = .ok (.aload_n 0, 1) := by decide +kernel
theorem dX0_makeNet_33 : decode cX0_makeNet 33 = .ok (.getfield 18, 3) := by decide +kernel
theorem dX0_makeNet_36 : decode cX0_makeNet 36 = .ok (.aload_n 2, 1) := by decide +kernel
theorem dX0_makeNet_37 : decode cX0_makeNet 37 = .ok (.invokevirtual 36, 3) := by decide +kernel
theorem dX0_makeNet_40 : decode cX0_makeNet 40 = .ok (.pop, 1) := by decide +kernel
theorem dX0_makeNet_41 : decode cX0_makeNet 41 = .ok (.aload_n 2, 1) := by decide +kernel
theorem dX0_makeNet_42 : decode cX0_makeNet 42 = .ok (.areturn, 1) := by decide +kernel
theorem dX0_placeThoseReady_0 : decode cX0_placeThoseReady 0 = .ok (.iconst 0, 1) := by decide +kernel
theorem dX0_placeThoseReady_1 : decode cX0_placeThoseReady 1 = .ok (.istore_n 1, 1) := by decide +kernel
theorem dX0_placeThoseReady_2 : decode cX0_placeThoseReady 2 = .ok (.iload_n 1, 1) := by decide +kernel
theorem dX0_placeThoseReady_3 : decode cX0_placeThoseReady 3 = .ok (.aload_n 0, 1) := by decide +kernel
theorem dX0_placeThoseReady_4 : decode cX0_placeThoseReady 4 = .ok (.getfield 12, 3) := by decide +kernel
theorem dX0_placeThoseReady_7 : decode cX0_placeThoseReady 7 = .ok (.invokevirtual 29, 3) := by decide +kernel
theorem dX0_placeThoseReady_10 : decode cX0_placeThoseReady 10 = .ok (.if_icmp .ge 49, 3) := by decide +kernel
theorem dX0_placeThoseReady_13 : decode cX0_placeThoseReady 13 = .ok (.aload_n 0, 1) := by decide +kernel
theorem dX0_placeThoseReady_14 : decode cX0_placeThoseReady 14 = .ok (.getfield 12, 3) := by decide +kernel
theorem dX0_placeThoseReady_17 : decode cX0_placeThoseReady 17 = .ok (.iload_n 1, 1) := by decide +kernel
theorem dX0_placeThoseReady_18 : decode cX0_placeThoseReady 18 = .ok (.invokevirtual 71, 3) := by decide +kernel
theorem dX0_placeThoseReady_21 : decode cX0_placeThoseReady 21 = .ok (.checkcast 27, 3) := by decide +kernel
theorem dX0_placeThoseReady_24 : decode cX0_placeThoseReady 24 = .ok (.astore_n 2, 1) := by decide +kernel
theorem dX0_placeThoseReady_25 : decode cX0_placeThoseReady 25 = .ok (.aload_n 2, 1) := by decide +kernel
theorem dX0_placeThoseReady_26 : decode cX0_placeThoseReady 26 = .ok (.getfield 75, 3) := by decide +kernel
theorem dX0_placeThoseReady_29 : decode cX0_placeThoseReady 29 = .ok (.ifCond .ne 24, 3) := by decide +kernel
theorem dX0_placeThoseReady_32 : decode cX0_placeThoseReady 32 = .ok (.aload_n 2, 1) := by decide +kernel
theorem dX0_placeThoseReady_33 : decode cX0_placeThoseReady 33 = .ok (.invokevirtual 82, 3) := by decide +kernel
theorem dX0_placeThoseReady_36 : decode cX0_placeThoseReady 36 = .ok (.ifCond .eq 17, 3) := by decide +kernel
theorem dX0_placeThoseReady_39 : decode cX0_placeThoseReady 39 = .ok (.aload_n 2, 1) := by decide +kernel
theorem dX0_placeThoseReady_40 : decode cX0_placeThoseReady 40 = .ok (.iconst 1, 1) := by decide +kernel
theorem dX0_placeThoseReady_41 : decode cX0_placeThoseReady 41 = .ok (.putfield 75, 3) := by decide +kernel
theorem dX0_placeThoseReady_44 : decode cX0_placeThoseReady 44 = .ok (.aload_n 0, 1) := by decide +kernel
theorem dX0_placeThoseReady_45 : decode cX0_placeThoseReady 45 = .ok (.getfield 24, 3) := by decide +kernel
theorem dX0_placeThoseReady_48 : decode cX0_placeThoseReady 48 = .ok (.aload_n 2, 1) := by decide +kernel
theorem dX0_placeThoseReady_49 : decode cX0_placeThoseReady 49 = .ok (.invokevirtual 36, 3) := by decide +kernel
theorem dX0_placeThoseReady_52 : decode cX0_placeThoseReady 52 = .ok (.pop, 1) := by decide +kernel
theorem dX0_placeThoseReady_53 : decode cX0_placeThoseReady 53 = .ok (.iinc 1 1, 3) := by decide +kernel
theorem dX0_placeThoseReady_56 : decode cX0_placeThoseReady 56 = .ok (.goto (-54), 3) := by decide +kernel
theorem dX0_placeThoseReady_59 : decode cX0_placeThoseReady 59 = .ok (.return_, 1) := by decide +kernel
theorem dX0_putInOrder_0 : decode cX0_putInOrder 0 = .ok (.aload_n 0, 1) := by decide +kernel
theorem dX0_putInOrder_1 : decode cX0_putInOrder 1 = .ok (.getfield 24, 3) := by decide +kernel
theorem dX0_putInOrder_4 : decode cX0_putInOrder 4 = .ok (.invokevirtual 68, 3) := by decide +kernel
theorem dX0_putInOrder_7 : decode cX0_putInOrder 7 = .ok (.iconst 0, 1) := by decide +kernel
theorem dX0_putInOrder_8 : decode cX0_putInOrder 8 = .ok (.istore_n 1, 1) := by decide +kernel
theorem dX0_putInOrder_9 : decode cX0_putInOrder 9 = .ok (.iload_n 1, 1) := by decide +kernel
theorem dX0_putInOrder_10 : decode cX0_putInOrder 10 = .ok (.aload_n 0, 1) := by decide +kernel
theorem dX0_putInOrder_11 : decode cX0_putInOrder 11 = .ok (.getfield 12, 3) := by decide +kernel
theorem dX0_putInOrder_14 : decode cX0_putInOrder 14 = .ok (.invokevirtual 29, 3) := by decide +kernel
theorem dX0_putInOrder_17 : decode cX0_putInOrder 17 = .ok (.if_icmp .ge 24, 3) := by decide +kernel
theorem dX0_putInOrder_20 : decode cX0_putInOrder 20 = .ok (.aload_n 0, 1) := by decide +kernel
theorem dX0_putInOrder_21 : decode cX0_putInOrder 21 = .ok (.getfield 12, 3) := by decide +kernel
theorem dX0_putInOrder_24 : decode cX0_putInOrder 24 = .ok (.iload_n 1, 1) := by decide +kernel
theorem dX0_putInOrder_25 : decode cX0_putInOrder 25 = .ok (.invokevirtual 71, 3) := by decide +kernel
theorem dX0_putInOrder_28 : decode cX0_putInOrder 28 = .ok (.checkcast 27, 3) := by decide +kernel
theorem dX0_putInOrder_31 : decode cX0_putInOrder 31 = .ok (.iconst 0, 1) := by decide +kernel
theorem dX0_putInOrder_32 : decode cX0_putInOrder 32 = .ok (.putfield 75, 3) := by decide +kernel
theorem dX0_putInOrder_35 : decode cX0_putInOrder 35 = .ok (.iinc 1 1, 3) := by decide +kernel
theorem dX0_putInOrder_38 : decode cX0_putInOrder 38 = .ok (.goto (-29), 3) := by decide +kernel
theorem dX0_putInOrder_41 : decode cX0_putInOrder 41 = .ok (.iconst 0, 1) := by decide +kernel
theorem dX0_putInOrder_42 : decode cX0_putInOrder 42 = .ok (.istore_n 1, 1) := by decide +kernel
theorem dX0_putInOrder_43 : decode cX0_putInOrder 43 = .ok (.iload_n 1, 1) := by decide +kernel
theorem dX0_putInOrder_44 : decode cX0_putInOrder 44 = .ok (.bipush 40, 2) := by decide +kernel
theorem dX0_putInOrder_46 : decode cX0_putInOrder 46 = .ok (.if_icmp .ge 30, 3) := by decide +kernel
theorem dX0_putInOrder_49 : decode cX0_putInOrder 49 = .ok (.aload_n 0, 1) := by decide +kernel
theorem dX0_putInOrder_50 : decode cX0_putInOrder 50 = .ok (.getfield 24, 3) := by decide +kernel
theorem dX0_putInOrder_53 : decode cX0_putInOrder 53 = .ok (.invokevirtual 29, 3) := by decide +kernel
theorem dX0_putInOrder_56 : decode cX0_putInOrder 56 = .ok (.aload_n 0, 1) := by decide +kernel
theorem dX0_putInOrder_57 : decode cX0_putInOrder 57 = .ok (.getfield 12, 3) := by decide +kernel
theorem dX0_putInOrder_60 : decode cX0_putInOrder 60 = .ok (.invokevirtual 29, 3) := by decide +kernel
theorem dX0_putInOrder_63 : decode cX0_putInOrder 63 = .ok (.if_icmp .ge 13, 3) := by decide +kernel
theorem dX0_putInOrder_66 : decode cX0_putInOrder 66 = .ok (.aload_n 0, 1) := by decide +kernel
theorem dX0_putInOrder_67 : decode cX0_putInOrder 67 = .ok (.invokevirtual 79, 3) := by decide +kernel
theorem dX0_putInOrder_70 : decode cX0_putInOrder 70 = .ok (.iinc 1 1, 3) := by decide +kernel
theorem dX0_putInOrder_73 : decode cX0_putInOrder 73 = .ok (.goto (-30), 3) := by decide +kernel
theorem dX0_putInOrder_76 : decode cX0_putInOrder 76 = .ok (.return_, 1) := by decide +kernel
theorem dX0_reckonDelays_0 : decode cX0_reckonDelays 0 = .ok (.iconst 0, 1) := by decide +kernel
theorem dX0_reckonDelays_1 : decode cX0_reckonDelays 1 = .ok (.istore_n 1, 1) := by decide +kernel
theorem dX0_reckonDelays_2 : decode cX0_reckonDelays 2 = .ok (.iload_n 1, 1) := by decide +kernel
theorem dX0_reckonDelays_3 : decode cX0_reckonDelays 3 = .ok (.aload_n 0, 1) := by decide +kernel
theorem dX0_reckonDelays_4 : decode cX0_reckonDelays 4 = .ok (.getfield 24, 3) := by decide +kernel
theorem dX0_reckonDelays_7 : decode cX0_reckonDelays 7 = .ok (.invokevirtual 29, 3) := by decide +kernel
theorem dX0_reckonDelays_10 : decode cX0_reckonDelays 10 = .ok (.if_icmp .ge 34, 3) := by decide +kernel
theorem dX0_reckonDelays_13 : decode cX0_reckonDelays 13 = .ok (.aload_n 0, 1) := by decide +kernel
theorem dX0_reckonDelays_14 : decode cX0_reckonDelays 14 = .ok (.getfield 24, 3) := by decide +kernel
theorem dX0_reckonDelays_17 : decode cX0_reckonDelays 17 = .ok (.iload_n 1, 1) := by decide +kernel
theorem dX0_reckonDelays_18 : decode cX0_reckonDelays 18 = .ok (.invokevirtual 71, 3) := by decide +kernel
theorem dX0_reckonDelays_21 : decode cX0_reckonDelays 21 = .ok (.checkcast 27, 3) := by decide +kernel
theorem dX0_reckonDelays_24 : decode cX0_reckonDelays 24 = .ok (.astore_n 2, 1) := by decide +kernel
theorem dX0_reckonDelays_25 : decode cX0_reckonDelays 25 = .ok (.aload_n 2, 1) := by decide +kernel
theorem dX0_reckonDelays_26 : decode cX0_reckonDelays 26 = .ok (.aload_n 2, 1) := by decide +kernel
theorem dX0_reckonDelays_27 : decode cX0_reckonDelays 27 = .ok (.invokevirtual 95, 3) := by decide +kernel
theorem dX0_reckonDelays_30 : decode cX0_reckonDelays 30 = .ok (.putfield 98, 3) := by decide +kernel
theorem dX0_reckonDelays_33 : decode cX0_reckonDelays 33 = .ok (.aload_n 2, 1) := by decide +kernel
theorem dX0_reckonDelays_34 : decode cX0_reckonDelays 34 = .ok (.iconst 0, 1) := by decide +kernel
theorem dX0_reckonDelays_35 : decode cX0_reckonDelays 35 = .ok (.putfield 101, 3) := by decide +kernel
theorem dX0_reckonDelays_38 : decode cX0_reckonDelays 38 = .ok (.iinc 1 1, 3) := by decide +kernel
theorem dX0_reckonDelays_41 : decode cX0_reckonDelays 41 = .ok (.goto (-39), 3) := by decide +kernel
theorem dX0_reckonDelays_44 : decode cX0_reckonDelays 44 = .ok (.aload_n 0, 1) := by decide +kernel
theorem dX0_reckonDelays_45 : decode cX0_reckonDelays 45 = .ok (.getfield 24, 3) := by decide +kernel
theorem dX0_reckonDelays_48 : decode cX0_reckonDelays 48 = .ok (.invokevirtual 29, 3) := by decide +kernel
theorem dX0_reckonDelays_51 : decode cX0_reckonDelays 51 = .ok (.iconst 1, 1) := by decide +kernel
theorem dX0_reckonDelays_52 : decode cX0_reckonDelays 52 = .ok (.isub, 1) := by decide +kernel
theorem dX0_reckonDelays_53 : decode cX0_reckonDelays 53 = .ok (.istore_n 1, 1) := by decide +kernel
theorem dX0_reckonDelays_54 : decode cX0_reckonDelays 54 = .ok (.iload_n 1, 1) := by decide +kernel
theorem dX0_reckonDelays_55 : decode cX0_reckonDelays 55 = .ok (.ifCond .lt 23, 3) := by decide +kernel
theorem dX0_reckonDelays_58 : decode cX0_reckonDelays 58 = .ok (.aload_n 0, 1) := by decide +kernel
theorem dX0_reckonDelays_59 : decode cX0_reckonDelays 59 = .ok (.getfield 24, 3) := by decide +kernel
theorem dX0_reckonDelays_62 : decode cX0_reckonDelays 62 = .ok (.iload_n 1, 1) := by decide +kernel
theorem dX0_reckonDelays_63 : decode cX0_reckonDelays 63 = .ok (.invokevirtual 71, 3) := by decide +kernel
theorem dX0_reckonDelays_66 : decode cX0_reckonDelays 66 = .ok (.checkcast 27, 3) := by decide +kernel
theorem dX0_reckonDelays_69 : decode cX0_reckonDelays 69 = .ok (.invokevirtual 104, 3) := by decide +kernel
theorem dX0_reckonDelays_72 : decode cX0_reckonDelays 72 = .ok (.iinc 1 (-1), 3) := by decide +kernel
theorem dX0_reckonDelays_75 : decode cX0_reckonDelays 75 = .ok (.goto (-21), 3) := by decide +kernel
theorem dX0_reckonDelays_78 : decode cX0_reckonDelays 78 = .ok (.return_, 1) := by decide +kernel
theorem dX0_settle_0 : decode cX0_settle 0 = .ok (.iconst 0, 1) := by decide +kernel
theorem dX0_settle_1 : decode cX0_settle 1 = .ok (.istore_n 3, 1) := by decide +kernel
theorem dX0_settle_2 : decode cX0_settle 2 = .ok (.iload_n 3, 1) := by decide +kernel
theorem dX0_settle_3 : decode cX0_settle 3 = .ok (.aload_n 0, 1) := by decide +kernel
theorem dX0_settle_4 : decode cX0_settle 4 = .ok (.getfield 24, 3) := by decide +kernel
theorem dX0_settle_7 : decode cX0_settle 7 = .ok (.invokevirtual 29, 3) := by decide +kernel
theorem dX0_settle_10 : decode cX0_settle 10 = .ok (.if_icmp .ge 55, 3) := by decide +kernel
theorem dX0_settle_13 : decode cX0_settle 13 = .ok (.aload_n 0, 1) := by decide +kernel
theorem dX0_settle_14 : decode cX0_settle 14 = .ok (.getfield 24, 3) := by decide +kernel
theorem dX0_settle_17 : decode cX0_settle 17 = .ok (.iload_n 3, 1) := by decide +kernel
theorem dX0_settle_18 : decode cX0_settle 18 = .ok (.invokevirtual 71, 3) := by decide +kernel
theorem dX0_settle_21 : decode cX0_settle 21 = .ok (.checkcast 27, 3) := by decide +kernel
theorem dX0_settle_24 : decode cX0_settle 24 = .ok (.astore 4, 2) := by decide +kernel
theorem dX0_settle_26 : decode cX0_settle 26 = .ok (.aload 4, 2) := by decide +kernel
theorem dX0_settle_28 : decode cX0_settle 28 = .ok (.aload_n 1, 1) := by decide +kernel
theorem dX0_settle_29 : decode cX0_settle 29 = .ok (.if_acmp .ne 12, 3) := by decide +kernel
theorem dX0_settle_32 : decode cX0_settle 32 = .ok (.aload 4, 2) := by decide +kernel
theorem dX0_settle_34 : decode cX0_settle 34 = .ok (.iload_n 2, 1) := by decide +kernel
theorem dX0_settle_35 : decode cX0_settle 35 = .ok (.putfield 155, 3) := by decide +kernel
theorem dX0_settle_38 : decode cX0_settle 38 = .ok (.goto 21, 3) := by decide +kernel
theorem dX0_settle_41 : decode cX0_settle 41 = .ok (.aload 4, 2) := by decide +kernel
theorem dX0_settle_43 : decode cX0_settle 43 = .ok (.invokevirtual 40, 3) := by decide +kernel
theorem dX0_settle_46 : decode cX0_settle 46 = .ok (.ifCond .ne 13, 3) := by decide +kernel
theorem dX0_settle_59 : decode cX0_settle 59 = .ok (.iinc 3 1, 3) := by decide +kernel
theorem dX0_settle_62 : decode cX0_settle 62 = .ok (.goto (-60), 3) := by decide +kernel
theorem dX0_settle_65 : decode cX0_settle 65 = .ok (.return_, 1) := by decide +kernel
theorem dX2_init_0 : decode cX2_init 0 = .ok (.aload_n 0, 1) := by decide +kernel
theorem dX2_init_1 : decode cX2_init 1 = .ok (.invokespecial 1, 3) := by decide +kernel
theorem dX2_init_4 : decode cX2_init 4 = .ok (.aload_n 0, 1) := by decide +kernel
theorem dX2_init_5 : decode cX2_init 5 = .ok (.new 7, 3) := by decide +kernel
theorem dX2_init_8 : decode cX2_init 8 = .ok (.dup, 1) := by decide +kernel
theorem dX2_init_9 : decode cX2_init 9 = .ok (.invokespecial 9, 3) := by decide +kernel
theorem dX2_init_12 : decode cX2_init 12 = .ok (.putfield 10, 3) := by decide +kernel
theorem dX2_init_15 : decode cX2_init 15 = .ok (.aload_n 0, 1) := by decide +kernel
theorem dX2_init_16 : decode cX2_init 16 = .ok (.iload_n 1, 1) := by decide +kernel
theorem dX2_init_17 : decode cX2_init 17 = .ok (.putfield 16, 3) := by decide +kernel
theorem dX2_init_20 : decode cX2_init 20 = .ok (.aload_n 0, 1) := by decide +kernel
theorem dX2_init_21 : decode cX2_init 21 = .ok (.aload_n 2, 1) := by decide +kernel
theorem dX2_init_22 : decode cX2_init 22 = .ok (.putfield 20, 3) := by decide +kernel
theorem dX2_init_25 : decode cX2_init 25 = .ok (.aload_n 0, 1) := by decide +kernel
theorem dX2_init_26 : decode cX2_init 26 = .ok (.bipush 120, 2) := by decide +kernel
theorem dX2_init_28 : decode cX2_init 28 = .ok (.putfield 24, 3) := by decide +kernel
theorem dX2_init_31 : decode cX2_init 31 = .ok (.aload_n 0, 1) := by decide +kernel
theorem dX2_init_32 : decode cX2_init 32 = .ok (.bipush 120, 2) := by decide +kernel
theorem dX2_init_34 : decode cX2_init 34 = .ok (.putfield 28, 3) := by decide +kernel
theorem dX2_init_37 : decode cX2_init 37 = .ok (.aload_n 0, 1) := by decide +kernel
theorem dX2_init_38 : decode cX2_init 38 = .ok (.bipush 120, 2) := by decide +kernel
theorem dX2_init_40 : decode cX2_init 40 = .ok (.putfield 31, 3) := by decide +kernel
theorem dX2_init_43 : decode cX2_init 43 = .ok (.aload_n 0, 1) := by decide +kernel
theorem dX2_init_44 : decode cX2_init 44 = .ok (.bipush 120, 2) := by decide +kernel
theorem dX2_init_46 : decode cX2_init 46 = .ok (.putfield 34, 3) := by decide +kernel
theorem dX2_init_49 : decode cX2_init 49 = .ok (.aload_n 0, 1) := by decide +kernel
theorem dX2_init_50 : decode cX2_init 50 = .ok (.aload_n 0, 1) := by decide +kernel
theorem dX2_init_51 : decode cX2_init 51 = .ok (.putfield 37, 3) := by decide +kernel
theorem dX2_init_54 : decode cX2_init 54 = .ok (.return_, 1) := by decide +kernel
theorem dX2_isSource_0 : decode cX2_isSource 0 = .ok (.aload_n 0, 1) := by decide +kernel
theorem dX2_isSource_1 : decode cX2_isSource 1 = .ok (.getfield 20, 3) := by decide +kernel
theorem dX2_isSource_4 : decode cX2_isSource 4 = .ok (.getstatic 41, 3) := by decide +kernel
theorem dX2_isSource_7 : decode cX2_isSource 7 = .ok (.if_acmp .eq 13, 3) := by decide +kernel
theorem dX2_isSource_20 : decode cX2_isSource 20 = .ok (.iconst 1, 1) := by decide +kernel
theorem dX2_isSource_21 : decode cX2_isSource 21 = .ok (.goto 4, 3) := by decide +kernel
theorem dX2_isSource_25 : decode cX2_isSource 25 = .ok (.ireturn, 1) := by decide +kernel
theorem dX2_isWatched_0 : decode cX2_isWatched 0 = .ok (.aload_n 0, 1) := by decide +kernel
theorem dX2_isWatched_1 : decode cX2_isWatched 1 = .ok (.getfield 49, 3) := by decide +kernel
theorem dX2_isWatched_4 : decode cX2_isWatched 4 = .ok (.ifCond .ne 10, 3) := by decide +kernel
theorem dX2_isWatched_7 : decode cX2_isWatched 7 = .ok (.aload_n 0, 1) := by decide +kernel
theorem dX2_isWatched_8 : decode cX2_isWatched 8 = .ok (.getfield 53, 3) := by decide +kernel
theorem dX2_isWatched_11 : decode cX2_isWatched 11 = .ok (.ifCond .eq 7, 3) := by decide +kernel
theorem dX2_isWatched_18 : decode cX2_isWatched 18 = .ok (.iconst 0, 1) := by decide +kernel
theorem dX2_isWatched_19 : decode cX2_isWatched 19 = .ok (.ireturn, 1) := by decide +kernel
theorem dX2_latestArrival_0 : decode cX2_latestArrival 0 = .ok (.iconst 0, 1) := by decide +kernel
theorem dX2_latestArrival_1 : decode cX2_latestArrival 1 = .ok (.istore_n 1, 1) := by decide +kernel
theorem dX2_latestArrival_2 : decode cX2_latestArrival 2 = .ok (.iconst 0, 1) := by decide +kernel
theorem dX2_latestArrival_3 : decode cX2_latestArrival 3 = .ok (.istore_n 2, 1) := by decide +kernel
theorem dX2_latestArrival_4 : decode cX2_latestArrival 4 = .ok (.iload_n 2, 1) := by decide +kernel
theorem dX2_latestArrival_5 : decode cX2_latestArrival 5 = .ok (.aload_n 0, 1) := by decide +kernel
theorem dX2_latestArrival_6 : decode cX2_latestArrival 6 = .ok (.getfield 10, 3) := by decide +kernel
theorem dX2_latestArrival_9 : decode cX2_latestArrival 9 = .ok (.invokevirtual 65, 3) := by decide +kernel
theorem dX2_latestArrival_12 : decode cX2_latestArrival 12 = .ok (.if_icmp .ge 48, 3) := by decide +kernel
theorem dX2_latestArrival_60 : decode cX2_latestArrival 60 = .ok (.iload_n 1, 1) := by decide +kernel
theorem dX2_latestArrival_61 : decode cX2_latestArrival 61 = .ok (.ireturn, 1) := by decide +kernel
theorem dX2_lengthenWaysOfRead_0 : decode cX2_lengthenWaysOfRead 0 = .ok (.iconst 0, 1) := by decide +kernel
theorem dX2_lengthenWaysOfRead_1 : decode cX2_lengthenWaysOfRead 1 = .ok (.istore_n 1, 1) := by decide +kernel
theorem dX2_lengthenWaysOfRead_2 : decode cX2_lengthenWaysOfRead 2 = .ok (.iload_n 1, 1) := by decide +kernel
theorem dX2_lengthenWaysOfRead_3 : decode cX2_lengthenWaysOfRead 3 = .ok (.aload_n 0, 1) := by decide +kernel
theorem dX2_lengthenWaysOfRead_4 : decode cX2_lengthenWaysOfRead 4 = .ok (.getfield 10, 3) := by decide +kernel
theorem dX2_lengthenWaysOfRead_7 : decode cX2_lengthenWaysOfRead 7 = .ok (.invokevirtual 65, 3) := by decide +kernel
theorem dX2_lengthenWaysOfRead_10 : decode cX2_lengthenWaysOfRead 10 = .ok (.if_icmp .ge 67, 3) := by decide +kernel
theorem dX2_lengthenWaysOfRead_77 : decode cX2_lengthenWaysOfRead 77 = .ok (.return_, 1) := by decide +kernel
theorem dX2_readsOnlyPlaced_0 : decode cX2_readsOnlyPlaced 0 = .ok (.iconst 0, 1) := by decide +kernel
theorem dX2_readsOnlyPlaced_1 : decode cX2_readsOnlyPlaced 1 = .ok (.istore_n 1, 1) := by decide +kernel
theorem dX2_readsOnlyPlaced_2 : decode cX2_readsOnlyPlaced 2 = .ok (.iload_n 1, 1) := by decide +kernel
theorem dX2_readsOnlyPlaced_3 : decode cX2_readsOnlyPlaced 3 = .ok (.aload_n 0, 1) := by decide +kernel
theorem dX2_readsOnlyPlaced_4 : decode cX2_readsOnlyPlaced 4 = .ok (.getfield 10, 3) := by decide +kernel
theorem dX2_readsOnlyPlaced_7 : decode cX2_readsOnlyPlaced 7 = .ok (.invokevirtual 65, 3) := by decide +kernel
theorem dX2_readsOnlyPlaced_10 : decode cX2_readsOnlyPlaced 10 = .ok (.if_icmp .ge 43, 3) := by decide +kernel
theorem dX2_readsOnlyPlaced_53 : decode cX2_readsOnlyPlaced 53 = .ok (.iconst 1, 1) := by decide +kernel
theorem dX2_readsOnlyPlaced_54 : decode cX2_readsOnlyPlaced 54 = .ok (.ireturn, 1) := by decide +kernel
theorem dX2_restart_0 : decode cX2_restart 0 = .ok (.aload_n 0, 1) := by decide +kernel
theorem dX2_restart_1 : decode cX2_restart 1 = .ok (.aload_n 0, 1) := by decide +kernel
theorem dX2_restart_2 : decode cX2_restart 2 = .ok (.getfield 31, 3) := by decide +kernel
theorem dX2_restart_5 : decode cX2_restart 5 = .ok (.putfield 24, 3) := by decide +kernel
theorem dX2_restart_8 : decode cX2_restart 8 = .ok (.aload_n 0, 1) := by decide +kernel
theorem dX2_restart_9 : decode cX2_restart 9 = .ok (.iconst 0, 1) := by decide +kernel
theorem dX2_restart_10 : decode cX2_restart 10 = .ok (.putfield 56, 3) := by decide +kernel
theorem dX2_restart_13 : decode cX2_restart 13 = .ok (.aload_n 0, 1) := by decide +kernel
theorem dX2_restart_14 : decode cX2_restart 14 = .ok (.iconst 0, 1) := by decide +kernel
theorem dX2_restart_15 : decode cX2_restart 15 = .ok (.putfield 59, 3) := by decide +kernel
theorem dX2_restart_18 : decode cX2_restart 18 = .ok (.aload_n 0, 1) := by decide +kernel
theorem dX2_restart_19 : decode cX2_restart 19 = .ok (.iconst 0, 1) := by decide +kernel
theorem dX2_restart_20 : decode cX2_restart 20 = .ok (.putfield 62, 3) := by decide +kernel
theorem dX2_restart_23 : decode cX2_restart 23 = .ok (.return_, 1) := by decide +kernel
theorem dX4_init_0 : decode cX4_init 0 = .ok (.aload_n 0, 1) := by decide +kernel
theorem dX4_init_1 : decode cX4_init 1 = .ok (.invokespecial 3, 3) := by decide +kernel
theorem dX4_init_4 : decode cX4_init 4 = .ok (.aload_n 0, 1) := by decide +kernel
theorem dX4_init_5 : decode cX4_init 5 = .ok (.bipush 8, 2) := by decide +kernel
theorem dX4_init_7 : decode cX4_init 7 = .ok (.newarray .int, 2) := by decide +kernel
theorem dX4_init_9 : decode cX4_init 9 = .ok (.putfield 9, 3) := by decide +kernel
theorem dX4_init_12 : decode cX4_init 12 = .ok (.aload_n 0, 1) := by decide +kernel
theorem dX4_init_13 : decode cX4_init 13 = .ok (.aload_n 1, 1) := by decide +kernel
theorem dX4_init_14 : decode cX4_init 14 = .ok (.putfield 15, 3) := by decide +kernel
theorem dX4_init_17 : decode cX4_init 17 = .ok (.return_, 1) := by decide +kernel
theorem dX4_isDifferenceWatched_0 : decode cX4_isDifferenceWatched 0 = .ok (.iconst 0, 1) := by decide +kernel
theorem dX4_isDifferenceWatched_1 : decode cX4_isDifferenceWatched 1 = .ok (.istore_n 1, 1) := by decide +kernel
theorem dX4_isDifferenceWatched_2 : decode cX4_isDifferenceWatched 2 = .ok (.iload_n 1, 1) := by decide +kernel
theorem dX4_isDifferenceWatched_3 : decode cX4_isDifferenceWatched 3 = .ok (.aload_n 0, 1) := by decide +kernel
theorem dX4_isDifferenceWatched_4 : decode cX4_isDifferenceWatched 4 = .ok (.getfield 15, 3) := by decide +kernel
theorem dX4_isDifferenceWatched_7 : decode cX4_isDifferenceWatched 7 = .ok (.getfield 48, 3) := by decide +kernel
theorem dX4_isDifferenceWatched_10 : decode cX4_isDifferenceWatched 10 = .ok (.invokevirtual 25, 3) := by decide +kernel
theorem dX4_isDifferenceWatched_13 : decode cX4_isDifferenceWatched 13 = .ok (.if_icmp .ge 74, 3) := by decide +kernel
theorem dX4_isDifferenceWatched_16 : decode cX4_isDifferenceWatched 16 = .ok (.aload_n 0, 1) := by decide +kernel
theorem dX4_isDifferenceWatched_17 : decode cX4_isDifferenceWatched 17 = .ok (.getfield 15, 3) := by decide +kernel
theorem dX4_isDifferenceWatched_20 : decode cX4_isDifferenceWatched 20 = .ok (.getfield 48, 3) := by decide +kernel
theorem dX4_isDifferenceWatched_23 : decode cX4_isDifferenceWatched 23 = .ok (.iload_n 1, 1) := by decide +kernel
theorem dX4_isDifferenceWatched_24 : decode cX4_isDifferenceWatched 24 = .ok (.invokevirtual 51, 3) := by decide +kernel
theorem dX4_isDifferenceWatched_27 : decode cX4_isDifferenceWatched 27 = .ok (.checkcast 43, 3) := by decide +kernel
theorem dX4_isDifferenceWatched_30 : decode cX4_isDifferenceWatched 30 = .ok (.astore_n 2, 1) := by decide +kernel
theorem dX4_isDifferenceWatched_31 : decode cX4_isDifferenceWatched 31 = .ok (.aload_n 2, 1) := by decide +kernel
theorem dX4_isDifferenceWatched_32 : decode cX4_isDifferenceWatched 32 = .ok (.getfield 42, 3) := by decide +kernel
theorem dX4_isDifferenceWatched_35 : decode cX4_isDifferenceWatched 35 = .ok (.invokestatic 70, 3) := by decide +kernel
theorem dX4_isDifferenceWatched_38 : decode cX4_isDifferenceWatched 38 = .ok (.ifCond .eq 17, 3) := by decide +kernel
theorem dX4_isDifferenceWatched_41 : decode cX4_isDifferenceWatched 41 = .ok (.aload_n 2, 1) := by decide +kernel
theorem dX4_isDifferenceWatched_42 : decode cX4_isDifferenceWatched 42 = .ok (.getfield 63, 3) := by decide +kernel
theorem dX4_isDifferenceWatched_45 : decode cX4_isDifferenceWatched 45 = .ok (.invokestatic 70, 3) := by decide +kernel
theorem dX4_isDifferenceWatched_48 : decode cX4_isDifferenceWatched 48 = .ok (.ifCond .eq 7, 3) := by decide +kernel
theorem dX4_isDifferenceWatched_51 : decode cX4_isDifferenceWatched 51 = .ok (.iconst 1, 1) := by decide +kernel
theorem dX4_isDifferenceWatched_52 : decode cX4_isDifferenceWatched 52 = .ok (.goto 4, 3) := by decide +kernel
theorem dX4_isDifferenceWatched_56 : decode cX4_isDifferenceWatched 56 = .ok (.istore_n 3, 1) := by decide +kernel
theorem dX4_isDifferenceWatched_57 : decode cX4_isDifferenceWatched 57 = .ok (.aload_n 2, 1) := by decide +kernel
theorem dX4_isDifferenceWatched_58 : decode cX4_isDifferenceWatched 58 = .ok (.invokevirtual 74, 3) := by decide +kernel
theorem dX4_isDifferenceWatched_61 : decode cX4_isDifferenceWatched 61 = .ok (.ifCond .eq 20, 3) := by decide +kernel
theorem dX4_isDifferenceWatched_81 : decode cX4_isDifferenceWatched 81 = .ok (.iinc 1 1, 3) := by decide +kernel
theorem dX4_isDifferenceWatched_84 : decode cX4_isDifferenceWatched 84 = .ok (.goto (-82), 3) := by decide +kernel
theorem dX4_isDifferenceWatched_87 : decode cX4_isDifferenceWatched 87 = .ok (.iconst 0, 1) := by decide +kernel
theorem dX4_isDifferenceWatched_88 : decode cX4_isDifferenceWatched 88 = .ok (.ireturn, 1) := by decide +kernel
theorem dX4_isShownBySomeTest_0 : decode cX4_isShownBySomeTest 0 = .ok (.iconst 0, 1) := by decide +kernel
theorem dX4_isShownBySomeTest_1 : decode cX4_isShownBySomeTest 1 = .ok (.istore_n 3, 1) := by decide +kernel
theorem dX4_isShownBySomeTest_2 : decode cX4_isShownBySomeTest 2 = .ok (.iload_n 3, 1) := by decide +kernel

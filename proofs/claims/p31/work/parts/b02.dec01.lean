theorem dJ0_equals_9ea2d_0 : decode cJ0_equals_9ea2d 0 = .ok (.aload_n 0, 1) := by decide +kernel
theorem dJ0_equals_9ea2d_1 : decode cJ0_equals_9ea2d 1 = .ok (.aload_n 1, 1) := by decide +kernel
theorem dJ0_equals_9ea2d_2 : decode cJ0_equals_9ea2d 2 = .ok (.if_acmp .ne 5, 3) := by decide +kernel
theorem dJ0_equals_9ea2d_5 : decode cJ0_equals_9ea2d 5 = .ok (.iconst 1, 1) := by decide +kernel
theorem dJ0_equals_9ea2d_6 : decode cJ0_equals_9ea2d 6 = .ok (.ireturn, 1) := by decide +kernel
theorem dJ0_equals_9ea2d_7 : decode cJ0_equals_9ea2d 7 = .ok (.aload_n 1, 1) := by decide +kernel
theorem dJ0_equals_9ea2d_8 : decode cJ0_equals_9ea2d 8 = .ok (.instanceof 10, 3) := by decide +kernel
theorem dJ0_equals_9ea2d_11 : decode cJ0_equals_9ea2d 11 = .ok (.ifCond .eq 43, 3) := by decide +kernel
theorem dJ0_equals_9ea2d_14 : decode cJ0_equals_9ea2d 14 = .ok (.aload_n 1, 1) := by decide +kernel
theorem dJ0_equals_9ea2d_15 : decode cJ0_equals_9ea2d 15 = .ok (.checkcast 10, 3) := by decide +kernel
theorem dJ0_equals_9ea2d_18 : decode cJ0_equals_9ea2d 18 = .ok (.astore_n 2, 1) := by decide +kernel
theorem dJ0_equals_9ea2d_19 : decode cJ0_equals_9ea2d 19 = .ok (.getstatic 38, 3) := by decide +kernel
theorem dJ0_equals_9ea2d_22 : decode cJ0_equals_9ea2d 22 = .ok (.ifCond .eq 14, 3) := by decide +kernel
theorem dJ0_equals_9ea2d_25 : decode cJ0_equals_9ea2d 25 = .ok (.aload_n 0, 1) := by decide +kernel
theorem dJ0_equals_9ea2d_26 : decode cJ0_equals_9ea2d 26 = .ok (.getfield 15, 3) := by decide +kernel
theorem dJ0_equals_9ea2d_29 : decode cJ0_equals_9ea2d 29 = .ok (.aload_n 2, 1) := by decide +kernel
theorem dJ0_equals_9ea2d_30 : decode cJ0_equals_9ea2d 30 = .ok (.getfield 15, 3) := by decide +kernel
theorem dJ0_equals_9ea2d_33 : decode cJ0_equals_9ea2d 33 = .ok (.if_icmp .ne 21, 3) := by decide +kernel
theorem dJ0_equals_9ea2d_36 : decode cJ0_equals_9ea2d 36 = .ok (.aload_n 0, 1) := by decide +kernel
theorem dJ0_equals_9ea2d_37 : decode cJ0_equals_9ea2d 37 = .ok (.getfield 9, 3) := by decide +kernel
theorem dJ0_equals_9ea2d_40 : decode cJ0_equals_9ea2d 40 = .ok (.aload_n 2, 1) := by decide +kernel
theorem dJ0_equals_9ea2d_41 : decode cJ0_equals_9ea2d 41 = .ok (.getfield 9, 3) := by decide +kernel
theorem dJ0_equals_9ea2d_44 : decode cJ0_equals_9ea2d 44 = .ok (.invokestatic 541, 3) := by decide +kernel
theorem dJ0_equals_9ea2d_47 : decode cJ0_equals_9ea2d 47 = .ok (.ifCond .eq 7, 3) := by decide +kernel
theorem dJ0_equals_9ea2d_50 : decode cJ0_equals_9ea2d 50 = .ok (.iconst 1, 1) := by decide +kernel
theorem dJ0_equals_9ea2d_51 : decode cJ0_equals_9ea2d 51 = .ok (.goto 4, 3) := by decide +kernel
theorem dJ0_equals_9ea2d_54 : decode cJ0_equals_9ea2d 54 = .ok (.iconst 0, 1) := by decide +kernel
theorem dJ0_equals_9ea2d_55 : decode cJ0_equals_9ea2d 55 = .ok (.ireturn, 1) := by decide +kernel
theorem dJ0_getBytes_840e7_0 : decode cJ0_getBytes_840e7 0 = .ok (.aload_n 0, 1) := by decide +kernel
theorem dJ0_getBytes_840e7_1 : decode cJ0_getBytes_840e7 1 = .ok (.invokevirtual 335, 3) := by decide +kernel
theorem dJ0_getBytes_840e7_4 : decode cJ0_getBytes_840e7 4 = .ok (.iload_n 3, 1) := by decide +kernel
theorem dJ0_getBytes_840e7_5 : decode cJ0_getBytes_840e7 5 = .ok (.if_icmp .ne 23, 3) := by decide +kernel
theorem dJ0_getBytes_840e7_8 : decode cJ0_getBytes_840e7 8 = .ok (.aload_n 0, 1) := by decide +kernel
theorem dJ0_getBytes_840e7_9 : decode cJ0_getBytes_840e7 9 = .ok (.getfield 9, 3) := by decide +kernel
theorem dJ0_getBytes_840e7_12 : decode cJ0_getBytes_840e7 12 = .ok (.iconst 0, 1) := by decide +kernel
theorem dJ0_getBytes_840e7_13 : decode cJ0_getBytes_840e7 13 = .ok (.aload_n 1, 1) := by decide +kernel
theorem dJ0_getBytes_840e7_14 : decode cJ0_getBytes_840e7 14 = .ok (.iload_n 2, 1) := by decide +kernel
theorem dJ0_getBytes_840e7_15 : decode cJ0_getBytes_840e7 15 = .ok (.iload_n 3, 1) := by decide +kernel
theorem dJ0_getBytes_840e7_16 : decode cJ0_getBytes_840e7 16 = .ok (.ishl, 1) := by decide +kernel
theorem dJ0_getBytes_840e7_17 : decode cJ0_getBytes_840e7 17 = .ok (.aload_n 0, 1) := by decide +kernel
theorem dJ0_getBytes_840e7_18 : decode cJ0_getBytes_840e7 18 = .ok (.getfield 9, 3) := by decide +kernel
theorem dJ0_getBytes_840e7_21 : decode cJ0_getBytes_840e7 21 = .ok (.arraylength, 1) := by decide +kernel
theorem dJ0_getBytes_840e7_22 : decode cJ0_getBytes_840e7 22 = .ok (.invokestatic 212, 3) := by decide +kernel
theorem dJ0_getBytes_840e7_25 : decode cJ0_getBytes_840e7 25 = .ok (.goto 18, 3) := by decide +kernel
theorem dJ0_getBytes_840e7_43 : decode cJ0_getBytes_840e7 43 = .ok (.return_, 1) := by decide +kernel
theorem dJ0_init_81219_0 : decode cJ0_init_81219 0 = .ok (.aload_n 0, 1) := by decide +kernel
theorem dJ0_init_81219_1 : decode cJ0_init_81219 1 = .ok (.aload_n 1, 1) := by decide +kernel
theorem dJ0_init_81219_2 : decode cJ0_init_81219 2 = .ok (.aconst_null, 1) := by decide +kernel
theorem dJ0_init_81219_3 : decode cJ0_init_81219 3 = .ok (.invokespecial 489, 3) := by decide +kernel
theorem dJ0_init_81219_6 : decode cJ0_init_81219 6 = .ok (.return_, 1) := by decide +kernel
theorem dJ0_init_db425_0 : decode cJ0_init_db425 0 = .ok (.aload_n 0, 1) := by decide +kernel
theorem dJ0_init_db425_1 : decode cJ0_init_db425 1 = .ok (.invokespecial 1, 3) := by decide +kernel
theorem dJ0_init_db425_4 : decode cJ0_init_db425 4 = .ok (.aload_n 1, 1) := by decide +kernel
theorem dJ0_init_db425_5 : decode cJ0_init_db425 5 = .ok (.invokevirtual 552, 3) := by decide +kernel
theorem dJ0_init_db425_8 : decode cJ0_init_db425 8 = .ok (.astore_n 3, 1) := by decide +kernel
theorem dJ0_init_db425_9 : decode cJ0_init_db425 9 = .ok (.aload_n 1, 1) := by decide +kernel
theorem dJ0_init_db425_10 : decode cJ0_init_db425 10 = .ok (.invokevirtual 549, 3) := by decide +kernel
theorem dJ0_init_db425_13 : decode cJ0_init_db425 13 = .ok (.istore 4, 2) := by decide +kernel
theorem dJ0_init_db425_15 : decode cJ0_init_db425 15 = .ok (.aload_n 1, 1) := by decide +kernel
theorem dJ0_init_db425_16 : decode cJ0_init_db425 16 = .ok (.invokevirtual 1047, 3) := by decide +kernel
theorem dJ0_init_db425_19 : decode cJ0_init_db425 19 = .ok (.ifCond .eq 22, 3) := by decide +kernel
theorem dJ0_init_db425_22 : decode cJ0_init_db425 22 = .ok (.aload_n 0, 1) := by decide +kernel
theorem dJ0_init_db425_23 : decode cJ0_init_db425 23 = .ok (.iconst 0, 1) := by decide +kernel
theorem dJ0_init_db425_24 : decode cJ0_init_db425 24 = .ok (.putfield 15, 3) := by decide +kernel
theorem dJ0_init_db425_27 : decode cJ0_init_db425 27 = .ok (.aload_n 0, 1) := by decide +kernel
theorem dJ0_init_db425_28 : decode cJ0_init_db425 28 = .ok (.aload_n 3, 1) := by decide +kernel
theorem dJ0_init_db425_29 : decode cJ0_init_db425 29 = .ok (.iconst 0, 1) := by decide +kernel
theorem dJ0_init_db425_30 : decode cJ0_init_db425 30 = .ok (.iload 4, 2) := by decide +kernel
theorem dJ0_init_db425_32 : decode cJ0_init_db425 32 = .ok (.invokestatic 54, 3) := by decide +kernel
theorem dJ0_init_db425_35 : decode cJ0_init_db425 35 = .ok (.putfield 9, 3) := by decide +kernel
theorem dJ0_init_db425_38 : decode cJ0_init_db425 38 = .ok (.goto 59, 3) := by decide +kernel
theorem dJ0_init_db425_97 : decode cJ0_init_db425 97 = .ok (.return_, 1) := by decide +kernel
theorem dJ1_canEncode_fc78d_0 : decode cJ1_canEncode_fc78d 0 = .ok (.iload_n 0, 1) := by decide +kernel
theorem dJ1_canEncode_fc78d_1 : decode cJ1_canEncode_fc78d 1 = .ok (.sipush 255, 3) := by decide +kernel
theorem dJ1_canEncode_fc78d_4 : decode cJ1_canEncode_fc78d 4 = .ok (.if_icmp .gt 7, 3) := by decide +kernel
theorem dJ1_canEncode_fc78d_7 : decode cJ1_canEncode_fc78d 7 = .ok (.iconst 1, 1) := by decide +kernel
theorem dJ1_canEncode_fc78d_8 : decode cJ1_canEncode_fc78d 8 = .ok (.goto 4, 3) := by decide +kernel
theorem dJ1_canEncode_fc78d_11 : decode cJ1_canEncode_fc78d 11 = .ok (.iconst 0, 1) := by decide +kernel
theorem dJ1_canEncode_fc78d_12 : decode cJ1_canEncode_fc78d 12 = .ok (.ireturn, 1) := by decide +kernel
theorem dJ1_equals_b5fdf_0 : decode cJ1_equals_b5fdf 0 = .ok (.aload_n 0, 1) := by decide +kernel
theorem dJ1_equals_b5fdf_1 : decode cJ1_equals_b5fdf 1 = .ok (.arraylength, 1) := by decide +kernel
theorem dJ1_equals_b5fdf_2 : decode cJ1_equals_b5fdf 2 = .ok (.aload_n 1, 1) := by decide +kernel
theorem dJ1_equals_b5fdf_3 : decode cJ1_equals_b5fdf 3 = .ok (.arraylength, 1) := by decide +kernel
theorem dJ1_equals_b5fdf_4 : decode cJ1_equals_b5fdf 4 = .ok (.if_icmp .ne 30, 3) := by decide +kernel
theorem dJ1_equals_b5fdf_7 : decode cJ1_equals_b5fdf 7 = .ok (.iconst 0, 1) := by decide +kernel
theorem dJ1_equals_b5fdf_8 : decode cJ1_equals_b5fdf 8 = .ok (.istore_n 2, 1) := by decide +kernel
theorem dJ1_equals_b5fdf_9 : decode cJ1_equals_b5fdf 9 = .ok (.iload_n 2, 1) := by decide +kernel
theorem dJ1_equals_b5fdf_10 : decode cJ1_equals_b5fdf 10 = .ok (.aload_n 0, 1) := by decide +kernel
theorem dJ1_equals_b5fdf_11 : decode cJ1_equals_b5fdf 11 = .ok (.arraylength, 1) := by decide +kernel
theorem dJ1_equals_b5fdf_12 : decode cJ1_equals_b5fdf 12 = .ok (.if_icmp .ge 20, 3) := by decide +kernel
theorem dJ1_equals_b5fdf_15 : decode cJ1_equals_b5fdf 15 = .ok (.aload_n 0, 1) := by decide +kernel
theorem dJ1_equals_b5fdf_16 : decode cJ1_equals_b5fdf 16 = .ok (.iload_n 2, 1) := by decide +kernel
theorem dJ1_equals_b5fdf_17 : decode cJ1_equals_b5fdf 17 = .ok (.baload, 1) := by decide +kernel
theorem dJ1_equals_b5fdf_18 : decode cJ1_equals_b5fdf 18 = .ok (.aload_n 1, 1) := by decide +kernel
theorem dJ1_equals_b5fdf_19 : decode cJ1_equals_b5fdf 19 = .ok (.iload_n 2, 1) := by decide +kernel
theorem dJ1_equals_b5fdf_20 : decode cJ1_equals_b5fdf 20 = .ok (.baload, 1) := by decide +kernel
theorem dJ1_equals_b5fdf_21 : decode cJ1_equals_b5fdf 21 = .ok (.if_icmp .eq 5, 3) := by decide +kernel
theorem dJ1_equals_b5fdf_24 : decode cJ1_equals_b5fdf 24 = .ok (.iconst 0, 1) := by decide +kernel
theorem dJ1_equals_b5fdf_25 : decode cJ1_equals_b5fdf 25 = .ok (.ireturn, 1) := by decide +kernel
theorem dJ1_equals_b5fdf_26 : decode cJ1_equals_b5fdf 26 = .ok (.iinc 2 1, 3) := by decide +kernel
theorem dJ1_equals_b5fdf_29 : decode cJ1_equals_b5fdf 29 = .ok (.goto (-20), 3) := by decide +kernel
theorem dJ1_equals_b5fdf_32 : decode cJ1_equals_b5fdf 32 = .ok (.iconst 1, 1) := by decide +kernel
theorem dJ1_equals_b5fdf_33 : decode cJ1_equals_b5fdf 33 = .ok (.ireturn, 1) := by decide +kernel
theorem dJ1_equals_b5fdf_34 : decode cJ1_equals_b5fdf 34 = .ok (.iconst 0, 1) := by decide +kernel
theorem dJ1_equals_b5fdf_35 : decode cJ1_equals_b5fdf 35 = .ok (.ireturn, 1) := by decide +kernel
theorem dJ4_append_15ec4_0 : decode cJ4_append_15ec4 0 = .ok (.aload_n 0, 1) := by decide +kernel
theorem dJ4_append_15ec4_1 : decode cJ4_append_15ec4 1 = .ok (.aload_n 1, 1) := by decide +kernel
theorem dJ4_append_15ec4_2 : decode cJ4_append_15ec4 2 = .ok (.invokespecial 29, 3) := by decide +kernel
theorem dJ4_append_15ec4_5 : decode cJ4_append_15ec4 5 = .ok (.pop, 1) := by decide +kernel
theorem dJ4_append_15ec4_6 : decode cJ4_append_15ec4 6 = .ok (.aload_n 0, 1) := by decide +kernel
theorem dJ4_append_15ec4_7 : decode cJ4_append_15ec4 7 = .ok (.areturn, 1) := by decide +kernel
theorem dJ4_append_bf812_0 : decode cJ4_append_bf812 0 = .ok (.aload_n 0, 1) := by decide +kernel
theorem dJ4_append_bf812_1 : decode cJ4_append_bf812 1 = .ok (.iload_n 1, 1) := by decide +kernel
theorem dJ4_append_bf812_2 : decode cJ4_append_bf812 2 = .ok (.invokespecial 53, 3) := by decide +kernel
theorem dJ4_append_bf812_5 : decode cJ4_append_bf812 5 = .ok (.pop, 1) := by decide +kernel
theorem dJ4_append_bf812_6 : decode cJ4_append_bf812 6 = .ok (.aload_n 0, 1) := by decide +kernel
theorem dJ4_append_bf812_7 : decode cJ4_append_bf812 7 = .ok (.areturn, 1) := by decide +kernel
theorem dJ4_append_cf468_0 : decode cJ4_append_cf468 0 = .ok (.aload_n 0, 1) := by decide +kernel
theorem dJ4_append_cf468_1 : decode cJ4_append_cf468 1 = .ok (.iload_n 1, 1) := by decide +kernel
theorem dJ4_append_cf468_2 : decode cJ4_append_cf468 2 = .ok (.invokespecial 50, 3) := by decide +kernel
theorem dJ4_append_cf468_5 : decode cJ4_append_cf468 5 = .ok (.pop, 1) := by decide +kernel
theorem dJ4_append_cf468_6 : decode cJ4_append_cf468 6 = .ok (.aload_n 0, 1) := by decide +kernel
theorem dJ4_append_cf468_7 : decode cJ4_append_cf468 7 = .ok (.areturn, 1) := by decide +kernel
theorem dJ4_init_d00df_0 : decode cJ4_init_d00df 0 = .ok (.aload_n 0, 1) := by decide +kernel
theorem dJ4_init_d00df_1 : decode cJ4_init_d00df 1 = .ok (.iload_n 1, 1) := by decide +kernel
theorem dJ4_init_d00df_2 : decode cJ4_init_d00df 2 = .ok (.invokespecial 1, 3) := by decide +kernel
theorem dJ4_init_d00df_5 : decode cJ4_init_d00df 5 = .ok (.return_, 1) := by decide +kernel
theorem dJ4_init_da8c8_0 : decode cJ4_init_da8c8 0 = .ok (.aload_n 0, 1) := by decide +kernel
theorem dJ4_init_da8c8_1 : decode cJ4_init_da8c8 1 = .ok (.bipush 16, 2) := by decide +kernel
theorem dJ4_init_da8c8_3 : decode cJ4_init_da8c8 3 = .ok (.invokespecial 1, 3) := by decide +kernel
theorem dJ4_init_da8c8_6 : decode cJ4_init_da8c8 6 = .ok (.return_, 1) := by decide +kernel
theorem dJ4_length_8abf5_0 : decode cJ4_length_8abf5 0 = .ok (.aload_n 0, 1) := by decide +kernel
theorem dJ4_length_8abf5_1 : decode cJ4_length_8abf5 1 = .ok (.invokespecial 343, 3) := by decide +kernel
theorem dJ4_length_8abf5_4 : decode cJ4_length_8abf5 4 = .ok (.ireturn, 1) := by decide +kernel
theorem dJ4_toString_0e30d_0 : decode cJ4_toString_0e30d 0 = .ok (.new 18, 3) := by decide +kernel
theorem dJ4_toString_0e30d_3 : decode cJ4_toString_0e30d 3 = .ok (.dup, 1) := by decide +kernel
theorem dJ4_toString_0e30d_4 : decode cJ4_toString_0e30d 4 = .ok (.aload_n 0, 1) := by decide +kernel
theorem dJ4_toString_0e30d_5 : decode cJ4_toString_0e30d 5 = .ok (.invokespecial 137, 3) := by decide +kernel
theorem dJ4_toString_0e30d_8 : decode cJ4_toString_0e30d 8 = .ok (.areturn, 1) := by decide +kernel
theorem dJ5_append_3fe6f_0 : decode cJ5_append_3fe6f 0 = .ok (.aload_n 0, 1) := by decide +kernel
theorem dJ5_append_3fe6f_1 : decode cJ5_append_3fe6f 1 = .ok (.aload_n 0, 1) := by decide +kernel
theorem dJ5_append_3fe6f_2 : decode cJ5_append_3fe6f 2 = .ok (.getfield 79, 3) := by decide +kernel
theorem dJ5_append_3fe6f_5 : decode cJ5_append_3fe6f 5 = .ok (.iconst 1, 1) := by decide +kernel
theorem dJ5_append_3fe6f_6 : decode cJ5_append_3fe6f 6 = .ok (.iadd, 1) := by decide +kernel
theorem dJ5_append_3fe6f_7 : decode cJ5_append_3fe6f 7 = .ok (.invokevirtual 100, 3) := by decide +kernel
theorem dJ5_append_3fe6f_10 : decode cJ5_append_3fe6f 10 = .ok (.aload_n 0, 1) := by decide +kernel
theorem dJ5_append_3fe6f_11 : decode cJ5_append_3fe6f 11 = .ok (.invokevirtual 83, 3) := by decide +kernel
theorem dJ5_append_3fe6f_14 : decode cJ5_append_3fe6f 14 = .ok (.ifCond .eq 31, 3) := by decide +kernel
theorem dJ5_append_3fe6f_17 : decode cJ5_append_3fe6f 17 = .ok (.iload_n 1, 1) := by decide +kernel
theorem dJ5_append_3fe6f_18 : decode cJ5_append_3fe6f 18 = .ok (.invokestatic 191, 3) := by decide +kernel
theorem dJ5_append_3fe6f_21 : decode cJ5_append_3fe6f 21 = .ok (.ifCond .eq 24, 3) := by decide +kernel
theorem dJ5_append_3fe6f_24 : decode cJ5_append_3fe6f 24 = .ok (.aload_n 0, 1) := by decide +kernel
theorem dJ5_append_3fe6f_25 : decode cJ5_append_3fe6f 25 = .ok (.getfield 15, 3) := by decide +kernel
theorem dJ5_append_3fe6f_28 : decode cJ5_append_3fe6f 28 = .ok (.aload_n 0, 1) := by decide +kernel
theorem dJ5_append_3fe6f_29 : decode cJ5_append_3fe6f 29 = .ok (.dup, 1) := by decide +kernel
theorem dJ5_append_3fe6f_30 : decode cJ5_append_3fe6f 30 = .ok (.getfield 79, 3) := by decide +kernel
theorem dJ5_append_3fe6f_33 : decode cJ5_append_3fe6f 33 = .ok (.dup_x1, 1) := by decide +kernel
theorem dJ5_append_3fe6f_34 : decode cJ5_append_3fe6f 34 = .ok (.iconst 1, 1) := by decide +kernel
theorem dJ5_append_3fe6f_35 : decode cJ5_append_3fe6f 35 = .ok (.iadd, 1) := by decide +kernel
theorem dJ5_append_3fe6f_36 : decode cJ5_append_3fe6f 36 = .ok (.putfield 79, 3) := by decide +kernel
theorem dJ5_append_3fe6f_39 : decode cJ5_append_3fe6f 39 = .ok (.iload_n 1, 1) := by decide +kernel
theorem dJ5_append_3fe6f_40 : decode cJ5_append_3fe6f 40 = .ok (.i2b, 1) := by decide +kernel
theorem dJ5_append_3fe6f_41 : decode cJ5_append_3fe6f 41 = .ok (.bastore, 1) := by decide +kernel
theorem dJ5_append_3fe6f_42 : decode cJ5_append_3fe6f 42 = .ok (.goto 33, 3) := by decide +kernel
theorem dJ5_append_3fe6f_75 : decode cJ5_append_3fe6f 75 = .ok (.aload_n 0, 1) := by decide +kernel
theorem dJ5_append_3fe6f_76 : decode cJ5_append_3fe6f 76 = .ok (.areturn, 1) := by decide +kernel
theorem dJ5_append_c97b9_0 : decode cJ5_append_c97b9 0 = .ok (.aload_n 0, 1) := by decide +kernel
theorem dJ5_append_c97b9_1 : decode cJ5_append_c97b9 1 = .ok (.getfield 79, 3) := by decide +kernel
theorem dJ5_append_c97b9_4 : decode cJ5_append_c97b9 4 = .ok (.istore_n 2, 1) := by decide +kernel
theorem dJ5_append_c97b9_5 : decode cJ5_append_c97b9 5 = .ok (.iload_n 2, 1) := by decide +kernel
theorem dJ5_append_c97b9_6 : decode cJ5_append_c97b9 6 = .ok (.iload_n 1, 1) := by decide +kernel
theorem dJ5_append_c97b9_7 : decode cJ5_append_c97b9 7 = .ok (.invokestatic 245, 3) := by decide +kernel
theorem dJ5_append_c97b9_10 : decode cJ5_append_c97b9 10 = .ok (.iadd, 1) := by decide +kernel
theorem dJ5_append_c97b9_11 : decode cJ5_append_c97b9 11 = .ok (.istore_n 3, 1) := by decide +kernel
theorem dJ5_append_c97b9_12 : decode cJ5_append_c97b9 12 = .ok (.aload_n 0, 1) := by decide +kernel
theorem dJ5_append_c97b9_13 : decode cJ5_append_c97b9 13 = .ok (.iload_n 3, 1) := by decide +kernel
theorem dJ5_append_c97b9_14 : decode cJ5_append_c97b9 14 = .ok (.invokevirtual 100, 3) := by decide +kernel
theorem dJ5_append_c97b9_17 : decode cJ5_append_c97b9 17 = .ok (.aload_n 0, 1) := by decide +kernel
theorem dJ5_append_c97b9_18 : decode cJ5_append_c97b9 18 = .ok (.invokevirtual 83, 3) := by decide +kernel
theorem dJ5_append_c97b9_21 : decode cJ5_append_c97b9 21 = .ok (.ifCond .eq 16, 3) := by decide +kernel
theorem dJ5_append_c97b9_24 : decode cJ5_append_c97b9 24 = .ok (.iload_n 1, 1) := by decide +kernel
theorem dJ5_append_c97b9_25 : decode cJ5_append_c97b9 25 = .ok (.iload_n 3, 1) := by decide +kernel
theorem dJ5_append_c97b9_26 : decode cJ5_append_c97b9 26 = .ok (.aload_n 0, 1) := by decide +kernel
theorem dJ5_append_c97b9_27 : decode cJ5_append_c97b9 27 = .ok (.getfield 15, 3) := by decide +kernel
theorem dJ5_append_c97b9_30 : decode cJ5_append_c97b9 30 = .ok (.invokestatic 248, 3) := by decide +kernel
theorem dJ5_append_c97b9_33 : decode cJ5_append_c97b9 33 = .ok (.pop, 1) := by decide +kernel
theorem dJ5_append_c97b9_34 : decode cJ5_append_c97b9 34 = .ok (.goto 14, 3) := by decide +kernel
theorem dJ5_append_c97b9_48 : decode cJ5_append_c97b9 48 = .ok (.aload_n 0, 1) := by decide +kernel
theorem dJ5_append_c97b9_49 : decode cJ5_append_c97b9 49 = .ok (.iload_n 3, 1) := by decide +kernel
theorem dJ5_append_c97b9_50 : decode cJ5_append_c97b9 50 = .ok (.putfield 79, 3) := by decide +kernel
theorem dJ5_append_c97b9_53 : decode cJ5_append_c97b9 53 = .ok (.aload_n 0, 1) := by decide +kernel
theorem dJ5_append_c97b9_54 : decode cJ5_append_c97b9 54 = .ok (.areturn, 1) := by decide +kernel
theorem dJ5_append_cf1ce_0 : decode cJ5_append_cf1ce 0 = .ok (.aload_n 1, 1) := by decide +kernel
theorem dJ5_append_cf1ce_1 : decode cJ5_append_cf1ce 1 = .ok (.ifnonnull 8, 3) := by decide +kernel
theorem dJ5_append_cf1ce_9 : decode cJ5_append_cf1ce 9 = .ok (.aload_n 1, 1) := by decide +kernel
theorem dJ5_append_cf1ce_10 : decode cJ5_append_cf1ce 10 = .ok (.invokevirtual 32, 3) := by decide +kernel
theorem dJ5_append_cf1ce_13 : decode cJ5_append_cf1ce 13 = .ok (.istore_n 2, 1) := by decide +kernel
theorem dJ5_append_cf1ce_14 : decode cJ5_append_cf1ce 14 = .ok (.aload_n 0, 1) := by decide +kernel
theorem dJ5_append_cf1ce_15 : decode cJ5_append_cf1ce 15 = .ok (.aload_n 0, 1) := by decide +kernel
theorem dJ5_append_cf1ce_16 : decode cJ5_append_cf1ce 16 = .ok (.getfield 79, 3) := by decide +kernel
theorem dJ5_append_cf1ce_19 : decode cJ5_append_cf1ce 19 = .ok (.iload_n 2, 1) := by decide +kernel
theorem dJ5_append_cf1ce_20 : decode cJ5_append_cf1ce 20 = .ok (.iadd, 1) := by decide +kernel
theorem dJ5_append_cf1ce_21 : decode cJ5_append_cf1ce 21 = .ok (.invokevirtual 100, 3) := by decide +kernel
theorem dJ5_append_cf1ce_24 : decode cJ5_append_cf1ce 24 = .ok (.aload_n 0, 1) := by decide +kernel
theorem dJ5_append_cf1ce_25 : decode cJ5_append_cf1ce 25 = .ok (.aload_n 0, 1) := by decide +kernel
theorem dJ5_append_cf1ce_26 : decode cJ5_append_cf1ce 26 = .ok (.getfield 79, 3) := by decide +kernel
theorem dJ5_append_cf1ce_29 : decode cJ5_append_cf1ce 29 = .ok (.aload_n 1, 1) := by decide +kernel
theorem dJ5_append_cf1ce_30 : decode cJ5_append_cf1ce 30 = .ok (.invokevirtual 208, 3) := by decide +kernel
theorem dJ5_append_cf1ce_33 : decode cJ5_append_cf1ce 33 = .ok (.aload_n 0, 1) := by decide +kernel
theorem dJ5_append_cf1ce_34 : decode cJ5_append_cf1ce 34 = .ok (.dup, 1) := by decide +kernel
theorem dJ5_append_cf1ce_35 : decode cJ5_append_cf1ce 35 = .ok (.getfield 79, 3) := by decide +kernel
theorem dJ5_append_cf1ce_38 : decode cJ5_append_cf1ce 38 = .ok (.iload_n 2, 1) := by decide +kernel
theorem dJ5_append_cf1ce_39 : decode cJ5_append_cf1ce 39 = .ok (.iadd, 1) := by decide +kernel
theorem dJ5_append_cf1ce_40 : decode cJ5_append_cf1ce 40 = .ok (.putfield 79, 3) := by decide +kernel
theorem dJ5_append_cf1ce_43 : decode cJ5_append_cf1ce 43 = .ok (.aload_n 0, 1) := by decide +kernel
theorem dJ5_append_cf1ce_44 : decode cJ5_append_cf1ce 44 = .ok (.areturn, 1) := by decide +kernel
theorem dJ5_ensureCapacityInternal_d00df_0 : decode cJ5_ensureCapacityInternal_d00df 0 = .ok (.aload_n 0, 1) := by decide +kernel
theorem dJ5_ensureCapacityInternal_d00df_1 : decode cJ5_ensureCapacityInternal_d00df 1 = .ok (.getfield 15, 3) := by decide +kernel
theorem dJ5_ensureCapacityInternal_d00df_4 : decode cJ5_ensureCapacityInternal_d00df 4 = .ok (.arraylength, 1) := by decide +kernel
theorem dJ5_ensureCapacityInternal_d00df_5 : decode cJ5_ensureCapacityInternal_d00df 5 = .ok (.aload_n 0, 1) := by decide +kernel
theorem dJ5_ensureCapacityInternal_d00df_6 : decode cJ5_ensureCapacityInternal_d00df 6 = .ok (.getfield 22, 3) := by decide +kernel
theorem dJ5_ensureCapacityInternal_d00df_9 : decode cJ5_ensureCapacityInternal_d00df 9 = .ok (.ishr, 1) := by decide +kernel
theorem dJ5_ensureCapacityInternal_d00df_10 : decode cJ5_ensureCapacityInternal_d00df 10 = .ok (.istore_n 2, 1) := by decide +kernel
theorem dJ5_ensureCapacityInternal_d00df_11 : decode cJ5_ensureCapacityInternal_d00df 11 = .ok (.iload_n 1, 1) := by decide +kernel
theorem dJ5_ensureCapacityInternal_d00df_12 : decode cJ5_ensureCapacityInternal_d00df 12 = .ok (.iload_n 2, 1) := by decide +kernel
theorem dJ5_ensureCapacityInternal_d00df_13 : decode cJ5_ensureCapacityInternal_d00df 13 = .ok (.isub, 1) := by decide +kernel
theorem dJ5_ensureCapacityInternal_d00df_14 : decode cJ5_ensureCapacityInternal_d00df 14 = .ok (.ifCond .le 24, 3) := by decide +kernel
theorem dJ5_ensureCapacityInternal_d00df_17 : decode cJ5_ensureCapacityInternal_d00df 17 = .ok (.aload_n 0, 1) := by decide +kernel
theorem dJ5_ensureCapacityInternal_d00df_18 : decode cJ5_ensureCapacityInternal_d00df 18 = .ok (.aload_n 0, 1) := by decide +kernel
theorem dJ5_ensureCapacityInternal_d00df_19 : decode cJ5_ensureCapacityInternal_d00df 19 = .ok (.getfield 15, 3) := by decide +kernel
theorem dJ5_ensureCapacityInternal_d00df_22 : decode cJ5_ensureCapacityInternal_d00df 22 = .ok (.aload_n 0, 1) := by decide +kernel
theorem dJ5_ensureCapacityInternal_d00df_23 : decode cJ5_ensureCapacityInternal_d00df 23 = .ok (.iload_n 1, 1) := by decide +kernel
theorem dJ5_ensureCapacityInternal_d00df_24 : decode cJ5_ensureCapacityInternal_d00df 24 = .ok (.invokevirtual 104, 3) := by decide +kernel
theorem dJ5_ensureCapacityInternal_d00df_27 : decode cJ5_ensureCapacityInternal_d00df 27 = .ok (.aload_n 0, 1) := by decide +kernel
theorem dJ5_ensureCapacityInternal_d00df_28 : decode cJ5_ensureCapacityInternal_d00df 28 = .ok (.getfield 22, 3) := by decide +kernel
theorem dJ5_ensureCapacityInternal_d00df_31 : decode cJ5_ensureCapacityInternal_d00df 31 = .ok (.ishl, 1) := by decide +kernel
theorem dJ5_ensureCapacityInternal_d00df_32 : decode cJ5_ensureCapacityInternal_d00df 32 = .ok (.invokestatic 108, 3) := by decide +kernel
theorem dJ5_ensureCapacityInternal_d00df_35 : decode cJ5_ensureCapacityInternal_d00df 35 = .ok (.putfield 15, 3) := by decide +kernel
theorem dJ5_ensureCapacityInternal_d00df_38 : decode cJ5_ensureCapacityInternal_d00df 38 = .ok (.return_, 1) := by decide +kernel
theorem dJ5_getValue_6d5f1_0 : decode cJ5_getValue_6d5f1 0 = .ok (.aload_n 0, 1) := by decide +kernel
theorem dJ5_getValue_6d5f1_1 : decode cJ5_getValue_6d5f1 1 = .ok (.getfield 15, 3) := by decide +kernel
theorem dJ5_getValue_6d5f1_4 : decode cJ5_getValue_6d5f1 4 = .ok (.areturn, 1) := by decide +kernel
theorem dJ5_inflateIfNeededFor_a7421_0 : decode cJ5_inflateIfNeededFor_a7421 0 = .ok (.getstatic 18, 3) := by decide +kernel
theorem dJ5_inflateIfNeededFor_a7421_3 : decode cJ5_inflateIfNeededFor_a7421 3 = .ok (.ifCond .eq 18, 3) := by decide +kernel
theorem dJ5_inflateIfNeededFor_a7421_6 : decode cJ5_inflateIfNeededFor_a7421 6 = .ok (.aload_n 0, 1) := by decide +kernel
theorem dJ5_inflateIfNeededFor_a7421_7 : decode cJ5_inflateIfNeededFor_a7421 7 = .ok (.getfield 22, 3) := by decide +kernel
theorem dJ5_inflateIfNeededFor_a7421_10 : decode cJ5_inflateIfNeededFor_a7421 10 = .ok (.aload_n 1, 1) := by decide +kernel
theorem dJ5_inflateIfNeededFor_a7421_11 : decode cJ5_inflateIfNeededFor_a7421 11 = .ok (.invokevirtual 40, 3) := by decide +kernel
theorem dJ5_inflateIfNeededFor_a7421_14 : decode cJ5_inflateIfNeededFor_a7421 14 = .ok (.if_icmp .eq 7, 3) := by decide +kernel
theorem dJ5_inflateIfNeededFor_a7421_21 : decode cJ5_inflateIfNeededFor_a7421 21 = .ok (.return_, 1) := by decide +kernel
theorem dJ5_init_d00df_0 : decode cJ5_init_d00df 0 = .ok (.aload_n 0, 1) := by decide +kernel
theorem dJ5_init_d00df_1 : decode cJ5_init_d00df 1 = .ok (.invokespecial 3, 3) := by decide +kernel
theorem dJ5_init_d00df_4 : decode cJ5_init_d00df 4 = .ok (.getstatic 18, 3) := by decide +kernel
theorem dJ5_init_d00df_7 : decode cJ5_init_d00df 7 = .ok (.ifCond .eq 18, 3) := by decide +kernel
theorem dJ5_init_d00df_10 : decode cJ5_init_d00df 10 = .ok (.aload_n 0, 1) := by decide +kernel
theorem dJ5_init_d00df_11 : decode cJ5_init_d00df 11 = .ok (.iload_n 1, 1) := by decide +kernel
theorem dJ5_init_d00df_12 : decode cJ5_init_d00df 12 = .ok (.newarray .byte, 2) := by decide +kernel
theorem dJ5_init_d00df_14 : decode cJ5_init_d00df 14 = .ok (.putfield 15, 3) := by decide +kernel
theorem dJ5_init_d00df_17 : decode cJ5_init_d00df 17 = .ok (.aload_n 0, 1) := by decide +kernel
theorem dJ5_init_d00df_18 : decode cJ5_init_d00df 18 = .ok (.iconst 0, 1) := by decide +kernel
theorem dJ5_init_d00df_19 : decode cJ5_init_d00df 19 = .ok (.putfield 22, 3) := by decide +kernel
theorem dJ5_init_d00df_22 : decode cJ5_init_d00df 22 = .ok (.goto 16, 3) := by decide +kernel
theorem dJ5_init_d00df_38 : decode cJ5_init_d00df 38 = .ok (.return_, 1) := by decide +kernel
theorem dJ5_isLatin1_aae02_0 : decode cJ5_isLatin1_aae02 0 = .ok (.getstatic 18, 3) := by decide +kernel
theorem dJ5_isLatin1_aae02_3 : decode cJ5_isLatin1_aae02 3 = .ok (.ifCond .eq 14, 3) := by decide +kernel
theorem dJ5_isLatin1_aae02_6 : decode cJ5_isLatin1_aae02 6 = .ok (.aload_n 0, 1) := by decide +kernel
theorem dJ5_isLatin1_aae02_7 : decode cJ5_isLatin1_aae02 7 = .ok (.getfield 22, 3) := by decide +kernel
theorem dJ5_isLatin1_aae02_10 : decode cJ5_isLatin1_aae02 10 = .ok (.ifCond .ne 7, 3) := by decide +kernel
theorem dJ5_isLatin1_aae02_13 : decode cJ5_isLatin1_aae02 13 = .ok (.iconst 1, 1) := by decide +kernel
theorem dJ5_isLatin1_aae02_14 : decode cJ5_isLatin1_aae02 14 = .ok (.goto 4, 3) := by decide +kernel
theorem dJ5_isLatin1_aae02_17 : decode cJ5_isLatin1_aae02 17 = .ok (.iconst 0, 1) := by decide +kernel
theorem dJ5_isLatin1_aae02_18 : decode cJ5_isLatin1_aae02 18 = .ok (.ireturn, 1) := by decide +kernel
theorem dJ5_length_8abf5_0 : decode cJ5_length_8abf5 0 = .ok (.aload_n 0, 1) := by decide +kernel
theorem dJ5_length_8abf5_1 : decode cJ5_length_8abf5 1 = .ok (.getfield 79, 3) := by decide +kernel
theorem dJ5_length_8abf5_4 : decode cJ5_length_8abf5 4 = .ok (.ireturn, 1) := by decide +kernel
theorem dJ5_newCapacity_0f7a4_0 : decode cJ5_newCapacity_0f7a4 0 = .ok (.aload_n 0, 1) := by decide +kernel
theorem dJ5_newCapacity_0f7a4_1 : decode cJ5_newCapacity_0f7a4 1 = .ok (.getfield 15, 3) := by decide +kernel
theorem dJ5_newCapacity_0f7a4_4 : decode cJ5_newCapacity_0f7a4 4 = .ok (.arraylength, 1) := by decide +kernel
theorem dJ5_newCapacity_0f7a4_5 : decode cJ5_newCapacity_0f7a4 5 = .ok (.istore_n 2, 1) := by decide +kernel
theorem dJ5_newCapacity_0f7a4_6 : decode cJ5_newCapacity_0f7a4 6 = .ok (.iload_n 1, 1) := by decide +kernel
theorem dJ5_newCapacity_0f7a4_7 : decode cJ5_newCapacity_0f7a4 7 = .ok (.aload_n 0, 1) := by decide +kernel
theorem dJ5_newCapacity_0f7a4_8 : decode cJ5_newCapacity_0f7a4 8 = .ok (.getfield 22, 3) := by decide +kernel
theorem dJ5_newCapacity_0f7a4_11 : decode cJ5_newCapacity_0f7a4 11 = .ok (.ishl, 1) := by decide +kernel
theorem dJ5_newCapacity_0f7a4_12 : decode cJ5_newCapacity_0f7a4 12 = .ok (.istore_n 3, 1) := by decide +kernel
theorem dJ5_newCapacity_0f7a4_13 : decode cJ5_newCapacity_0f7a4 13 = .ok (.iload_n 3, 1) := by decide +kernel
theorem dJ5_newCapacity_0f7a4_14 : decode cJ5_newCapacity_0f7a4 14 = .ok (.iload_n 2, 1) := by decide +kernel
theorem dJ5_newCapacity_0f7a4_15 : decode cJ5_newCapacity_0f7a4 15 = .ok (.isub, 1) := by decide +kernel
theorem dJ5_newCapacity_0f7a4_16 : decode cJ5_newCapacity_0f7a4 16 = .ok (.istore 4, 2) := by decide +kernel
theorem dJ5_newCapacity_0f7a4_18 : decode cJ5_newCapacity_0f7a4 18 = .ok (.iload_n 2, 1) := by decide +kernel
theorem dJ5_newCapacity_0f7a4_19 : decode cJ5_newCapacity_0f7a4 19 = .ok (.iload 4, 2) := by decide +kernel
theorem dJ5_newCapacity_0f7a4_21 : decode cJ5_newCapacity_0f7a4 21 = .ok (.iload_n 2, 1) := by decide +kernel
theorem dJ5_newCapacity_0f7a4_22 : decode cJ5_newCapacity_0f7a4 22 = .ok (.iconst 2, 1) := by decide +kernel
theorem dJ5_newCapacity_0f7a4_23 : decode cJ5_newCapacity_0f7a4 23 = .ok (.aload_n 0, 1) := by decide +kernel
theorem dJ5_newCapacity_0f7a4_24 : decode cJ5_newCapacity_0f7a4 24 = .ok (.getfield 22, 3) := by decide +kernel
theorem dJ5_newCapacity_0f7a4_27 : decode cJ5_newCapacity_0f7a4 27 = .ok (.ishl, 1) := by decide +kernel
theorem dJ5_newCapacity_0f7a4_28 : decode cJ5_newCapacity_0f7a4 28 = .ok (.iadd, 1) := by decide +kernel
theorem dJ5_newCapacity_0f7a4_29 : decode cJ5_newCapacity_0f7a4 29 = .ok (.invokestatic 114, 3) := by decide +kernel
theorem dJ5_newCapacity_0f7a4_32 : decode cJ5_newCapacity_0f7a4 32 = .ok (.istore 5, 2) := by decide +kernel
theorem dJ5_newCapacity_0f7a4_34 : decode cJ5_newCapacity_0f7a4 34 = .ok (.iload 5, 2) := by decide +kernel
theorem dJ5_newCapacity_0f7a4_36 : decode cJ5_newCapacity_0f7a4 36 = .ok (.ldc 39, 2) := by decide +kernel
theorem dJ5_newCapacity_0f7a4_38 : decode cJ5_newCapacity_0f7a4 38 = .ok (.if_icmp .ne 13, 3) := by decide +kernel
theorem dJ5_newCapacity_0f7a4_51 : decode cJ5_newCapacity_0f7a4 51 = .ok (.iload 5, 2) := by decide +kernel
theorem dJ5_newCapacity_0f7a4_53 : decode cJ5_newCapacity_0f7a4 53 = .ok (.aload_n 0, 1) := by decide +kernel
theorem dJ5_newCapacity_0f7a4_54 : decode cJ5_newCapacity_0f7a4 54 = .ok (.getfield 22, 3) := by decide +kernel
theorem dJ5_newCapacity_0f7a4_57 : decode cJ5_newCapacity_0f7a4 57 = .ok (.ishr, 1) := by decide +kernel
theorem dJ5_newCapacity_0f7a4_58 : decode cJ5_newCapacity_0f7a4 58 = .ok (.ireturn, 1) := by decide +kernel
theorem dJ5_putStringAt_47b60_0 : decode cJ5_putStringAt_47b60 0 = .ok (.aload_n 0, 1) := by decide +kernel
theorem dJ5_putStringAt_47b60_1 : decode cJ5_putStringAt_47b60 1 = .ok (.aload_n 2, 1) := by decide +kernel
theorem dJ5_putStringAt_47b60_2 : decode cJ5_putStringAt_47b60 2 = .ok (.invokevirtual 397, 3) := by decide +kernel
theorem dJ5_putStringAt_47b60_5 : decode cJ5_putStringAt_47b60 5 = .ok (.aload_n 2, 1) := by decide +kernel
theorem dJ5_putStringAt_47b60_6 : decode cJ5_putStringAt_47b60 6 = .ok (.aload_n 0, 1) := by decide +kernel
theorem dJ5_putStringAt_47b60_7 : decode cJ5_putStringAt_47b60 7 = .ok (.getfield 15, 3) := by decide +kernel
theorem dJ5_putStringAt_47b60_10 : decode cJ5_putStringAt_47b60 10 = .ok (.iload_n 1, 1) := by decide +kernel
theorem dJ5_putStringAt_47b60_11 : decode cJ5_putStringAt_47b60 11 = .ok (.aload_n 0, 1) := by decide +kernel
theorem dJ5_putStringAt_47b60_12 : decode cJ5_putStringAt_47b60 12 = .ok (.getfield 22, 3) := by decide +kernel
theorem dJ5_putStringAt_47b60_15 : decode cJ5_putStringAt_47b60 15 = .ok (.invokevirtual 399, 3) := by decide +kernel
theorem dJ5_putStringAt_47b60_18 : decode cJ5_putStringAt_47b60 18 = .ok (.return_, 1) := by decide +kernel
theorem dJ6_getChars_ba4f3_0 : decode cJ6_getChars_ba4f3 0 = .ok (.iload_n 1, 1) := by decide +kernel
theorem dJ6_getChars_ba4f3_1 : decode cJ6_getChars_ba4f3 1 = .ok (.istore 5, 2) := by decide +kernel
theorem dJ6_getChars_ba4f3_3 : decode cJ6_getChars_ba4f3 3 = .ok (.iload_n 0, 1) := by decide +kernel
theorem dJ6_getChars_ba4f3_4 : decode cJ6_getChars_ba4f3 4 = .ok (.ifCond .ge 7, 3) := by decide +kernel
theorem dJ6_getChars_ba4f3_7 : decode cJ6_getChars_ba4f3 7 = .ok (.iconst 1, 1) := by decide +kernel
theorem dJ6_getChars_ba4f3_8 : decode cJ6_getChars_ba4f3 8 = .ok (.goto 4, 3) := by decide +kernel
theorem dJ6_getChars_ba4f3_11 : decode cJ6_getChars_ba4f3 11 = .ok (.iconst 0, 1) := by decide +kernel
theorem dJ6_getChars_ba4f3_12 : decode cJ6_getChars_ba4f3 12 = .ok (.istore 6, 2) := by decide +kernel
theorem dJ6_getChars_ba4f3_14 : decode cJ6_getChars_ba4f3 14 = .ok (.iload 6, 2) := by decide +kernel
theorem dJ6_getChars_ba4f3_16 : decode cJ6_getChars_ba4f3 16 = .ok (.ifCond .ne 6, 3) := by decide +kernel
theorem dJ6_getChars_ba4f3_19 : decode cJ6_getChars_ba4f3 19 = .ok (.iload_n 0, 1) := by decide +kernel
theorem dJ6_getChars_ba4f3_20 : decode cJ6_getChars_ba4f3 20 = .ok (.ineg, 1) := by decide +kernel
theorem dJ6_getChars_ba4f3_21 : decode cJ6_getChars_ba4f3 21 = .ok (.istore_n 0, 1) := by decide +kernel
theorem dJ6_getChars_ba4f3_22 : decode cJ6_getChars_ba4f3 22 = .ok (.iload_n 0, 1) := by decide +kernel
theorem dJ6_getChars_ba4f3_23 : decode cJ6_getChars_ba4f3 23 = .ok (.bipush (-100), 2) := by decide +kernel
theorem dJ6_getChars_ba4f3_25 : decode cJ6_getChars_ba4f3 25 = .ok (.if_icmp .gt 47, 3) := by decide +kernel
theorem dJ6_getChars_ba4f3_28 : decode cJ6_getChars_ba4f3 28 = .ok (.iload_n 0, 1) := by decide +kernel
theorem dJ6_getChars_ba4f3_29 : decode cJ6_getChars_ba4f3 29 = .ok (.bipush 100, 2) := by decide +kernel
theorem dJ6_getChars_ba4f3_31 : decode cJ6_getChars_ba4f3 31 = .ok (.idiv, 1) := by decide +kernel
theorem dJ6_getChars_ba4f3_32 : decode cJ6_getChars_ba4f3 32 = .ok (.istore_n 3, 1) := by decide +kernel
theorem dJ6_getChars_ba4f3_33 : decode cJ6_getChars_ba4f3 33 = .ok (.iload_n 3, 1) := by decide +kernel
theorem dJ6_getChars_ba4f3_34 : decode cJ6_getChars_ba4f3 34 = .ok (.bipush 100, 2) := by decide +kernel
theorem dJ6_getChars_ba4f3_36 : decode cJ6_getChars_ba4f3 36 = .ok (.imul, 1) := by decide +kernel
theorem dJ6_getChars_ba4f3_37 : decode cJ6_getChars_ba4f3 37 = .ok (.iload_n 0, 1) := by decide +kernel
theorem dJ6_getChars_ba4f3_38 : decode cJ6_getChars_ba4f3 38 = .ok (.isub, 1) := by decide +kernel
theorem dJ6_getChars_ba4f3_39 : decode cJ6_getChars_ba4f3 39 = .ok (.istore 4, 2) := by decide +kernel
theorem dJ6_getChars_ba4f3_41 : decode cJ6_getChars_ba4f3 41 = .ok (.iload_n 3, 1) := by decide +kernel
theorem dJ6_getChars_ba4f3_42 : decode cJ6_getChars_ba4f3 42 = .ok (.istore_n 0, 1) := by decide +kernel
theorem dJ6_getChars_ba4f3_43 : decode cJ6_getChars_ba4f3 43 = .ok (.aload_n 2, 1) := by decide +kernel
theorem dJ6_getChars_ba4f3_44 : decode cJ6_getChars_ba4f3 44 = .ok (.iinc 5 (-1), 3) := by decide +kernel
theorem dJ6_getChars_ba4f3_47 : decode cJ6_getChars_ba4f3 47 = .ok (.iload 5, 2) := by decide +kernel
theorem dJ6_getChars_ba4f3_49 : decode cJ6_getChars_ba4f3 49 = .ok (.getstatic 83, 3) := by decide +kernel
theorem dJ6_getChars_ba4f3_52 : decode cJ6_getChars_ba4f3 52 = .ok (.iload 4, 2) := by decide +kernel
theorem dJ6_getChars_ba4f3_54 : decode cJ6_getChars_ba4f3 54 = .ok (.baload, 1) := by decide +kernel
theorem dJ6_getChars_ba4f3_55 : decode cJ6_getChars_ba4f3 55 = .ok (.bastore, 1) := by decide +kernel
theorem dJ6_getChars_ba4f3_56 : decode cJ6_getChars_ba4f3 56 = .ok (.aload_n 2, 1) := by decide +kernel
theorem dJ6_getChars_ba4f3_57 : decode cJ6_getChars_ba4f3 57 = .ok (.iinc 5 (-1), 3) := by decide +kernel
theorem dJ6_getChars_ba4f3_60 : decode cJ6_getChars_ba4f3 60 = .ok (.iload 5, 2) := by decide +kernel
theorem dJ6_getChars_ba4f3_62 : decode cJ6_getChars_ba4f3 62 = .ok (.getstatic 87, 3) := by decide +kernel
theorem dJ6_getChars_ba4f3_65 : decode cJ6_getChars_ba4f3 65 = .ok (.iload 4, 2) := by decide +kernel
theorem dJ6_getChars_ba4f3_67 : decode cJ6_getChars_ba4f3 67 = .ok (.baload, 1) := by decide +kernel
theorem dJ6_getChars_ba4f3_68 : decode cJ6_getChars_ba4f3 68 = .ok (.bastore, 1) := by decide +kernel
theorem dJ6_getChars_ba4f3_69 : decode cJ6_getChars_ba4f3 69 = .ok (.goto (-47), 3) := by decide +kernel
theorem dJ6_getChars_ba4f3_72 : decode cJ6_getChars_ba4f3 72 = .ok (.aload_n 2, 1) := by decide +kernel
theorem dJ6_getChars_ba4f3_73 : decode cJ6_getChars_ba4f3 73 = .ok (.iinc 5 (-1), 3) := by decide +kernel
theorem dJ6_getChars_ba4f3_76 : decode cJ6_getChars_ba4f3 76 = .ok (.iload 5, 2) := by decide +kernel
theorem dJ6_getChars_ba4f3_78 : decode cJ6_getChars_ba4f3 78 = .ok (.getstatic 83, 3) := by decide +kernel
theorem dJ6_getChars_ba4f3_81 : decode cJ6_getChars_ba4f3 81 = .ok (.iload_n 0, 1) := by decide +kernel
theorem dJ6_getChars_ba4f3_82 : decode cJ6_getChars_ba4f3 82 = .ok (.ineg, 1) := by decide +kernel
theorem dJ6_getChars_ba4f3_83 : decode cJ6_getChars_ba4f3 83 = .ok (.baload, 1) := by decide +kernel
theorem dJ6_getChars_ba4f3_84 : decode cJ6_getChars_ba4f3 84 = .ok (.bastore, 1) := by decide +kernel
theorem dJ6_getChars_ba4f3_85 : decode cJ6_getChars_ba4f3 85 = .ok (.iload_n 0, 1) := by decide +kernel
theorem dJ6_getChars_ba4f3_86 : decode cJ6_getChars_ba4f3 86 = .ok (.bipush (-9), 2) := by decide +kernel
theorem dJ6_getChars_ba4f3_88 : decode cJ6_getChars_ba4f3 88 = .ok (.if_icmp .ge 16, 3) := by decide +kernel
theorem dJ6_getChars_ba4f3_91 : decode cJ6_getChars_ba4f3 91 = .ok (.aload_n 2, 1) := by decide +kernel
theorem dJ6_getChars_ba4f3_92 : decode cJ6_getChars_ba4f3 92 = .ok (.iinc 5 (-1), 3) := by decide +kernel
theorem dJ6_getChars_ba4f3_95 : decode cJ6_getChars_ba4f3 95 = .ok (.iload 5, 2) := by decide +kernel
theorem dJ6_getChars_ba4f3_97 : decode cJ6_getChars_ba4f3 97 = .ok (.getstatic 87, 3) := by decide +kernel
theorem dJ6_getChars_ba4f3_100 : decode cJ6_getChars_ba4f3 100 = .ok (.iload_n 0, 1) := by decide +kernel
theorem dJ6_getChars_ba4f3_101 : decode cJ6_getChars_ba4f3 101 = .ok (.ineg, 1) := by decide +kernel
theorem dJ6_getChars_ba4f3_102 : decode cJ6_getChars_ba4f3 102 = .ok (.baload, 1) := by decide +kernel
theorem dJ6_getChars_ba4f3_103 : decode cJ6_getChars_ba4f3 103 = .ok (.bastore, 1) := by decide +kernel
theorem dJ6_getChars_ba4f3_104 : decode cJ6_getChars_ba4f3 104 = .ok (.iload 6, 2) := by decide +kernel
theorem dJ6_getChars_ba4f3_106 : decode cJ6_getChars_ba4f3 106 = .ok (.ifCond .eq 12, 3) := by decide +kernel
theorem dJ6_getChars_ba4f3_109 : decode cJ6_getChars_ba4f3 109 = .ok (.aload_n 2, 1) := by decide +kernel
theorem dJ6_getChars_ba4f3_110 : decode cJ6_getChars_ba4f3 110 = .ok (.iinc 5 (-1), 3) := by decide +kernel
theorem dJ6_getChars_ba4f3_113 : decode cJ6_getChars_ba4f3 113 = .ok (.iload 5, 2) := by decide +kernel
theorem dJ6_getChars_ba4f3_115 : decode cJ6_getChars_ba4f3 115 = .ok (.bipush 45, 2) := by decide +kernel
theorem dJ6_getChars_ba4f3_117 : decode cJ6_getChars_ba4f3 117 = .ok (.bastore, 1) := by decide +kernel
theorem dJ6_getChars_ba4f3_118 : decode cJ6_getChars_ba4f3 118 = .ok (.iload 5, 2) := by decide +kernel
theorem dJ6_getChars_ba4f3_120 : decode cJ6_getChars_ba4f3 120 = .ok (.ireturn, 1) := by decide +kernel
theorem dJ6_stringSize_0f7a4_0 : decode cJ6_stringSize_0f7a4 0 = .ok (.iconst 1, 1) := by decide +kernel
theorem dJ6_stringSize_0f7a4_1 : decode cJ6_stringSize_0f7a4 1 = .ok (.istore_n 1, 1) := by decide +kernel
theorem dJ6_stringSize_0f7a4_2 : decode cJ6_stringSize_0f7a4 2 = .ok (.iload_n 0, 1) := by decide +kernel
theorem dJ6_stringSize_0f7a4_3 : decode cJ6_stringSize_0f7a4 3 = .ok (.ifCond .lt 8, 3) := by decide +kernel
theorem dJ6_stringSize_0f7a4_6 : decode cJ6_stringSize_0f7a4 6 = .ok (.iconst 0, 1) := by decide +kernel
theorem dJ6_stringSize_0f7a4_7 : decode cJ6_stringSize_0f7a4 7 = .ok (.istore_n 1, 1) := by decide +kernel
theorem dJ6_stringSize_0f7a4_8 : decode cJ6_stringSize_0f7a4 8 = .ok (.iload_n 0, 1) := by decide +kernel
theorem dJ6_stringSize_0f7a4_9 : decode cJ6_stringSize_0f7a4 9 = .ok (.ineg, 1) := by decide +kernel
theorem dJ6_stringSize_0f7a4_10 : decode cJ6_stringSize_0f7a4 10 = .ok (.istore_n 0, 1) := by decide +kernel
theorem dJ6_stringSize_0f7a4_11 : decode cJ6_stringSize_0f7a4 11 = .ok (.bipush (-10), 2) := by decide +kernel
theorem dJ6_stringSize_0f7a4_13 : decode cJ6_stringSize_0f7a4 13 = .ok (.istore_n 2, 1) := by decide +kernel
theorem dJ6_stringSize_0f7a4_14 : decode cJ6_stringSize_0f7a4 14 = .ok (.iconst 1, 1) := by decide +kernel
theorem dJ6_stringSize_0f7a4_15 : decode cJ6_stringSize_0f7a4 15 = .ok (.istore_n 3, 1) := by decide +kernel
theorem dJ6_stringSize_0f7a4_16 : decode cJ6_stringSize_0f7a4 16 = .ok (.iload_n 3, 1) := by decide +kernel
theorem dJ6_stringSize_0f7a4_17 : decode cJ6_stringSize_0f7a4 17 = .ok (.bipush 10, 2) := by decide +kernel
theorem dJ6_stringSize_0f7a4_19 : decode cJ6_stringSize_0f7a4 19 = .ok (.if_icmp .ge 23, 3) := by decide +kernel
theorem dJ6_stringSize_0f7a4_22 : decode cJ6_stringSize_0f7a4 22 = .ok (.iload_n 0, 1) := by decide +kernel
theorem dJ6_stringSize_0f7a4_23 : decode cJ6_stringSize_0f7a4 23 = .ok (.iload_n 2, 1) := by decide +kernel
theorem dJ6_stringSize_0f7a4_24 : decode cJ6_stringSize_0f7a4 24 = .ok (.if_icmp .le 7, 3) := by decide +kernel
theorem dJ6_stringSize_0f7a4_27 : decode cJ6_stringSize_0f7a4 27 = .ok (.iload_n 3, 1) := by decide +kernel
theorem dJ6_stringSize_0f7a4_28 : decode cJ6_stringSize_0f7a4 28 = .ok (.iload_n 1, 1) := by decide +kernel
theorem dJ6_stringSize_0f7a4_29 : decode cJ6_stringSize_0f7a4 29 = .ok (.iadd, 1) := by decide +kernel
theorem dJ6_stringSize_0f7a4_30 : decode cJ6_stringSize_0f7a4 30 = .ok (.ireturn, 1) := by decide +kernel
theorem dJ6_stringSize_0f7a4_31 : decode cJ6_stringSize_0f7a4 31 = .ok (.bipush 10, 2) := by decide +kernel
theorem dJ6_stringSize_0f7a4_33 : decode cJ6_stringSize_0f7a4 33 = .ok (.iload_n 2, 1) := by decide +kernel
theorem dJ6_stringSize_0f7a4_34 : decode cJ6_stringSize_0f7a4 34 = .ok (.imul, 1) := by decide +kernel
theorem dJ6_stringSize_0f7a4_35 : decode cJ6_stringSize_0f7a4 35 = .ok (.istore_n 2, 1) := by decide +kernel
theorem dJ6_stringSize_0f7a4_36 : decode cJ6_stringSize_0f7a4 36 = .ok (.iinc 3 1, 3) := by decide +kernel
theorem dJ6_stringSize_0f7a4_39 : decode cJ6_stringSize_0f7a4 39 = .ok (.goto (-23), 3) := by decide +kernel
theorem dJ6_stringSize_0f7a4_42 : decode cJ6_stringSize_0f7a4 42 = .ok (.bipush 10, 2) := by decide +kernel
theorem dJ6_stringSize_0f7a4_44 : decode cJ6_stringSize_0f7a4 44 = .ok (.iload_n 1, 1) := by decide +kernel
theorem dJ6_stringSize_0f7a4_45 : decode cJ6_stringSize_0f7a4 45 = .ok (.iadd, 1) := by decide +kernel
theorem dJ6_stringSize_0f7a4_46 : decode cJ6_stringSize_0f7a4 46 = .ok (.ireturn, 1) := by decide +kernel
theorem dJ7_checkLength_df160_0 : decode cJ7_checkLength_df160 0 = .ok (.iload_n 1, 1) := by decide +kernel
theorem dJ7_checkLength_df160_1 : decode cJ7_checkLength_df160 1 = .ok (.iload_n 0, 1) := by decide +kernel
theorem dJ7_checkLength_df160_2 : decode cJ7_checkLength_df160 2 = .ok (.if_icmp .ge 35, 3) := by decide +kernel
theorem dJ7_checkLength_df160_37 : decode cJ7_checkLength_df160 37 = .ok (.return_, 1) := by decide +kernel
theorem dJ7_copyOfRangeByte_39247_0 : decode cJ7_copyOfRangeByte_39247 0 = .ok (.iload_n 1, 1) := by decide +kernel
theorem dJ7_copyOfRangeByte_39247_1 : decode cJ7_copyOfRangeByte_39247 1 = .ok (.iload_n 2, 1) := by decide +kernel
theorem dJ7_copyOfRangeByte_39247_2 : decode cJ7_copyOfRangeByte_39247 2 = .ok (.invokestatic 343, 3) := by decide +kernel
theorem dJ7_copyOfRangeByte_39247_5 : decode cJ7_copyOfRangeByte_39247 5 = .ok (.iload_n 2, 1) := by decide +kernel
theorem dJ7_copyOfRangeByte_39247_6 : decode cJ7_copyOfRangeByte_39247 6 = .ok (.iload_n 1, 1) := by decide +kernel
theorem dJ7_copyOfRangeByte_39247_7 : decode cJ7_copyOfRangeByte_39247 7 = .ok (.isub, 1) := by decide +kernel
theorem dJ7_copyOfRangeByte_39247_8 : decode cJ7_copyOfRangeByte_39247 8 = .ok (.istore_n 3, 1) := by decide +kernel
theorem dJ7_copyOfRangeByte_39247_9 : decode cJ7_copyOfRangeByte_39247 9 = .ok (.iload_n 3, 1) := by decide +kernel
theorem dJ7_copyOfRangeByte_39247_10 : decode cJ7_copyOfRangeByte_39247 10 = .ok (.newarray .byte, 2) := by decide +kernel
theorem dJ7_copyOfRangeByte_39247_12 : decode cJ7_copyOfRangeByte_39247 12 = .ok (.astore 4, 2) := by decide +kernel
theorem dJ7_copyOfRangeByte_39247_14 : decode cJ7_copyOfRangeByte_39247 14 = .ok (.aload_n 0, 1) := by decide +kernel
theorem dJ7_copyOfRangeByte_39247_15 : decode cJ7_copyOfRangeByte_39247 15 = .ok (.iload_n 1, 1) := by decide +kernel
theorem dJ7_copyOfRangeByte_39247_16 : decode cJ7_copyOfRangeByte_39247 16 = .ok (.aload 4, 2) := by decide +kernel
theorem dJ7_copyOfRangeByte_39247_18 : decode cJ7_copyOfRangeByte_39247 18 = .ok (.iconst 0, 1) := by decide +kernel
theorem dJ7_copyOfRangeByte_39247_19 : decode cJ7_copyOfRangeByte_39247 19 = .ok (.aload_n 0, 1) := by decide +kernel
theorem dJ7_copyOfRangeByte_39247_20 : decode cJ7_copyOfRangeByte_39247 20 = .ok (.arraylength, 1) := by decide +kernel
theorem dJ7_copyOfRangeByte_39247_21 : decode cJ7_copyOfRangeByte_39247 21 = .ok (.iload_n 1, 1) := by decide +kernel
theorem dJ7_copyOfRangeByte_39247_22 : decode cJ7_copyOfRangeByte_39247 22 = .ok (.isub, 1) := by decide +kernel
theorem dJ7_copyOfRangeByte_39247_23 : decode cJ7_copyOfRangeByte_39247 23 = .ok (.iload_n 3, 1) := by decide +kernel
theorem dJ7_copyOfRangeByte_39247_24 : decode cJ7_copyOfRangeByte_39247 24 = .ok (.invokestatic 304, 3) := by decide +kernel
theorem dJ7_copyOfRangeByte_39247_27 : decode cJ7_copyOfRangeByte_39247 27 = .ok (.invokestatic 150, 3) := by decide +kernel
theorem dJ7_copyOfRangeByte_39247_30 : decode cJ7_copyOfRangeByte_39247 30 = .ok (.aload 4, 2) := by decide +kernel
theorem dJ7_copyOfRangeByte_39247_32 : decode cJ7_copyOfRangeByte_39247 32 = .ok (.areturn, 1) := by decide +kernel
theorem dJ7_copyOfRange_39247_0 : decode cJ7_copyOfRange_39247 0 = .ok (.iload_n 1, 1) := by decide +kernel
theorem dJ7_copyOfRange_39247_1 : decode cJ7_copyOfRange_39247 1 = .ok (.ifCond .ne 9, 3) := by decide +kernel
theorem dJ7_copyOfRange_39247_4 : decode cJ7_copyOfRange_39247 4 = .ok (.iload_n 2, 1) := by decide +kernel
theorem dJ7_copyOfRange_39247_5 : decode cJ7_copyOfRange_39247 5 = .ok (.aload_n 0, 1) := by decide +kernel
theorem dJ7_copyOfRange_39247_6 : decode cJ7_copyOfRange_39247 6 = .ok (.arraylength, 1) := by decide +kernel
theorem dJ7_copyOfRange_39247_7 : decode cJ7_copyOfRange_39247 7 = .ok (.if_icmp .eq 10, 3) := by decide +kernel
theorem dJ7_copyOfRange_39247_10 : decode cJ7_copyOfRange_39247 10 = .ok (.aload_n 0, 1) := by decide +kernel
theorem dJ7_copyOfRange_39247_11 : decode cJ7_copyOfRange_39247 11 = .ok (.iload_n 1, 1) := by decide +kernel
theorem dJ7_copyOfRange_39247_12 : decode cJ7_copyOfRange_39247 12 = .ok (.iload_n 2, 1) := by decide +kernel
theorem dJ7_copyOfRange_39247_13 : decode cJ7_copyOfRange_39247 13 = .ok (.invokestatic 339, 3) := by decide +kernel
theorem dJ7_copyOfRange_39247_16 : decode cJ7_copyOfRange_39247 16 = .ok (.areturn, 1) := by decide +kernel
theorem dJ7_copyOfRange_39247_17 : decode cJ7_copyOfRange_39247 17 = .ok (.aload_n 0, 1) := by decide +kernel
theorem dJ7_copyOfRange_39247_18 : decode cJ7_copyOfRange_39247 18 = .ok (.invokevirtual 310, 3) := by decide +kernel
theorem dJ7_copyOfRange_39247_21 : decode cJ7_copyOfRange_39247 21 = .ok (.checkcast 311, 3) := by decide +kernel
theorem dJ7_copyOfRange_39247_24 : decode cJ7_copyOfRange_39247 24 = .ok (.areturn, 1) := by decide +kernel
theorem dJ8_newLength_cabcc_0 : decode cJ8_newLength_cabcc 0 = .ok (.iload_n 0, 1) := by decide +kernel
theorem dJ8_newLength_cabcc_1 : decode cJ8_newLength_cabcc 1 = .ok (.iload_n 1, 1) := by decide +kernel
theorem dJ8_newLength_cabcc_2 : decode cJ8_newLength_cabcc 2 = .ok (.iload_n 2, 1) := by decide +kernel
theorem dJ8_newLength_cabcc_3 : decode cJ8_newLength_cabcc 3 = .ok (.invokestatic 194, 3) := by decide +kernel
theorem dJ8_newLength_cabcc_6 : decode cJ8_newLength_cabcc 6 = .ok (.iadd, 1) := by decide +kernel
theorem dJ8_newLength_cabcc_7 : decode cJ8_newLength_cabcc 7 = .ok (.istore_n 3, 1) := by decide +kernel
theorem dJ8_newLength_cabcc_8 : decode cJ8_newLength_cabcc 8 = .ok (.iconst 0, 1) := by decide +kernel
theorem dJ8_newLength_cabcc_9 : decode cJ8_newLength_cabcc 9 = .ok (.iload_n 3, 1) := by decide +kernel
theorem dJ8_newLength_cabcc_10 : decode cJ8_newLength_cabcc 10 = .ok (.if_icmp .ge 11, 3) := by decide +kernel
theorem dJ8_newLength_cabcc_13 : decode cJ8_newLength_cabcc 13 = .ok (.iload_n 3, 1) := by decide +kernel
theorem dJ8_newLength_cabcc_14 : decode cJ8_newLength_cabcc 14 = .ok (.ldc 200, 2) := by decide +kernel
theorem dJ8_newLength_cabcc_16 : decode cJ8_newLength_cabcc 16 = .ok (.if_icmp .gt 5, 3) := by decide +kernel
theorem dJ8_newLength_cabcc_19 : decode cJ8_newLength_cabcc 19 = .ok (.iload_n 3, 1) := by decide +kernel
theorem dJ8_newLength_cabcc_20 : decode cJ8_newLength_cabcc 20 = .ok (.ireturn, 1) := by decide +kernel
theorem dX13_init_0 : decode cX13_init 0 = .ok (.aload_n 0, 1) := by decide +kernel
theorem dX13_init_1 : decode cX13_init 1 = .ok (.invokespecial 3, 3) := by decide +kernel
theorem dX13_init_4 : decode cX13_init 4 = .ok (.aload_n 0, 1) := by decide +kernel
theorem dX13_init_5 : decode cX13_init 5 = .ok (.bipush 24, 2) := by decide +kernel
theorem dX13_init_7 : decode cX13_init 7 = .ok (.anewarray 9, 3) := by decide +kernel
theorem dX13_init_10 : decode cX13_init 10 = .ok (.putfield 11, 3) := by decide +kernel
theorem dX13_init_13 : decode cX13_init 13 = .ok (.aload_n 0, 1) := by decide +kernel
theorem dX13_init_14 : decode cX13_init 14 = .ok (.bipush 24, 2) := by decide +kernel
theorem dX13_init_16 : decode cX13_init 16 = .ok (.anewarray 9, 3) := by decide +kernel
theorem dX13_init_19 : decode cX13_init 19 = .ok (.putfield 17, 3) := by decide +kernel
theorem dX13_init_22 : decode cX13_init 22 = .ok (.aload_n 0, 1) := by decide +kernel
theorem dX13_init_23 : decode cX13_init 23 = .ok (.bipush 24, 2) := by decide +kernel
theorem dX13_init_25 : decode cX13_init 25 = .ok (.anewarray 9, 3) := by decide +kernel
theorem dX13_init_28 : decode cX13_init 28 = .ok (.putfield 20, 3) := by decide +kernel
theorem dX13_init_31 : decode cX13_init 31 = .ok (.aload_n 0, 1) := by decide +kernel
theorem dX13_init_32 : decode cX13_init 32 = .ok (.bipush 24, 2) := by decide +kernel
theorem dX13_init_34 : decode cX13_init 34 = .ok (.anewarray 9, 3) := by decide +kernel
theorem dX13_init_37 : decode cX13_init 37 = .ok (.putfield 23, 3) := by decide +kernel
theorem dX13_init_40 : decode cX13_init 40 = .ok (.aload_n 0, 1) := by decide +kernel
theorem dX13_init_41 : decode cX13_init 41 = .ok (.bipush 24, 2) := by decide +kernel
theorem dX13_init_43 : decode cX13_init 43 = .ok (.anewarray 9, 3) := by decide +kernel
theorem dX13_init_46 : decode cX13_init 46 = .ok (.putfield 26, 3) := by decide +kernel
theorem dX13_init_49 : decode cX13_init 49 = .ok (.aload_n 0, 1) := by decide +kernel
theorem dX13_init_50 : decode cX13_init 50 = .ok (.bipush 24, 2) := by decide +kernel
theorem dX13_init_52 : decode cX13_init 52 = .ok (.anewarray 9, 3) := by decide +kernel
theorem dX13_init_55 : decode cX13_init 55 = .ok (.putfield 29, 3) := by decide +kernel
theorem dX13_init_58 : decode cX13_init 58 = .ok (.aload_n 0, 1) := by decide +kernel
theorem dX13_init_59 : decode cX13_init 59 = .ok (.bipush 24, 2) := by decide +kernel
theorem dX13_init_61 : decode cX13_init 61 = .ok (.anewarray 9, 3) := by decide +kernel
theorem dX13_init_64 : decode cX13_init 64 = .ok (.putfield 32, 3) := by decide +kernel
theorem dX13_init_67 : decode cX13_init 67 = .ok (.aload_n 0, 1) := by decide +kernel
theorem dX13_init_68 : decode cX13_init 68 = .ok (.bipush 24, 2) := by decide +kernel
theorem dX13_init_70 : decode cX13_init 70 = .ok (.newarray .int, 2) := by decide +kernel
theorem dX13_init_72 : decode cX13_init 72 = .ok (.putfield 35, 3) := by decide +kernel
theorem dX13_init_75 : decode cX13_init 75 = .ok (.aload_n 0, 1) := by decide +kernel
theorem dX13_init_76 : decode cX13_init 76 = .ok (.bipush 24, 2) := by decide +kernel
theorem dX13_init_78 : decode cX13_init 78 = .ok (.newarray .int, 2) := by decide +kernel
theorem dX13_init_80 : decode cX13_init 80 = .ok (.putfield 39, 3) := by decide +kernel
theorem dX13_init_83 : decode cX13_init 83 = .ok (.aload_n 0, 1) := by decide +kernel
theorem dX13_init_84 : decode cX13_init 84 = .ok (.bipush 24, 2) := by decide +kernel
theorem dX13_init_86 : decode cX13_init 86 = .ok (.newarray .int, 2) := by decide +kernel
theorem dX13_init_88 : decode cX13_init 88 = .ok (.putfield 42, 3) := by decide +kernel
theorem dX13_init_91 : decode cX13_init 91 = .ok (.aload_n 0, 1) := by decide +kernel
theorem dX13_init_92 : decode cX13_init 92 = .ok (.bipush 24, 2) := by decide +kernel
theorem dX13_init_94 : decode cX13_init 94 = .ok (.newarray .int, 2) := by decide +kernel
theorem dX13_init_96 : decode cX13_init 96 = .ok (.putfield 45, 3) := by decide +kernel
theorem dX13_init_99 : decode cX13_init 99 = .ok (.aload_n 0, 1) := by decide +kernel
theorem dX13_init_100 : decode cX13_init 100 = .ok (.bipush 24, 2) := by decide +kernel
theorem dX13_init_102 : decode cX13_init 102 = .ok (.newarray .int, 2) := by decide +kernel
theorem dX13_init_104 : decode cX13_init 104 = .ok (.putfield 48, 3) := by decide +kernel
theorem dX13_init_107 : decode cX13_init 107 = .ok (.aload_n 0, 1) := by decide +kernel
theorem dX13_init_108 : decode cX13_init 108 = .ok (.bipush 24, 2) := by decide +kernel
theorem dX13_init_110 : decode cX13_init 110 = .ok (.newarray .int, 2) := by decide +kernel
theorem dX13_init_112 : decode cX13_init 112 = .ok (.putfield 51, 3) := by decide +kernel
theorem dX13_init_115 : decode cX13_init 115 = .ok (.return_, 1) := by decide +kernel
theorem dX14_agrees_0 : decode cX14_agrees 0 = .ok (.iload_n 0, 1) := by decide +kernel
theorem dX14_agrees_1 : decode cX14_agrees 1 = .ok (.iconst 4, 1) := by decide +kernel
theorem dX14_agrees_2 : decode cX14_agrees 2 = .ok (.if_icmp .eq 8, 3) := by decide +kernel
theorem dX14_agrees_5 : decode cX14_agrees 5 = .ok (.iload_n 0, 1) := by decide +kernel
theorem dX14_agrees_6 : decode cX14_agrees 6 = .ok (.iconst 5, 1) := by decide +kernel
theorem dX14_agrees_7 : decode cX14_agrees 7 = .ok (.if_icmp .ne 20, 3) := by decide +kernel
theorem dX14_agrees_10 : decode cX14_agrees 10 = .ok (.iload_n 1, 1) := by decide +kernel
theorem dX14_agrees_11 : decode cX14_agrees 11 = .ok (.iload_n 0, 1) := by decide +kernel
theorem dX14_agrees_12 : decode cX14_agrees 12 = .ok (.if_icmp .eq 9, 3) := by decide +kernel
theorem dX14_agrees_15 : decode cX14_agrees 15 = .ok (.iload_n 1, 1) := by decide +kernel
theorem dX14_agrees_16 : decode cX14_agrees 16 = .ok (.bipush 6, 2) := by decide +kernel
theorem dX14_agrees_18 : decode cX14_agrees 18 = .ok (.if_icmp .ne 7, 3) := by decide +kernel
theorem dX14_agrees_21 : decode cX14_agrees 21 = .ok (.iconst 1, 1) := by decide +kernel
theorem dX14_agrees_22 : decode cX14_agrees 22 = .ok (.goto 4, 3) := by decide +kernel
theorem dX14_agrees_25 : decode cX14_agrees 25 = .ok (.iconst 0, 1) := by decide +kernel
theorem dX14_agrees_26 : decode cX14_agrees 26 = .ok (.ireturn, 1) := by decide +kernel
theorem dX14_agrees_27 : decode cX14_agrees 27 = .ok (.iload_n 0, 1) := by decide +kernel
theorem dX14_agrees_28 : decode cX14_agrees 28 = .ok (.ifCond .eq 8, 3) := by decide +kernel
theorem dX14_agrees_31 : decode cX14_agrees 31 = .ok (.iload_n 1, 1) := by decide +kernel
theorem dX14_agrees_32 : decode cX14_agrees 32 = .ok (.iload_n 0, 1) := by decide +kernel
theorem dX14_agrees_33 : decode cX14_agrees 33 = .ok (.if_icmp .ne 7, 3) := by decide +kernel
theorem dX14_agrees_36 : decode cX14_agrees 36 = .ok (.iconst 1, 1) := by decide +kernel
theorem dX14_agrees_37 : decode cX14_agrees 37 = .ok (.goto 4, 3) := by decide +kernel
theorem dX14_agrees_40 : decode cX14_agrees 40 = .ok (.iconst 0, 1) := by decide +kernel
theorem dX14_agrees_41 : decode cX14_agrees 41 = .ok (.ireturn, 1) := by decide +kernel
theorem dX14_aimRow_0 : decode cX14_aimRow 0 = .ok (.aload_n 0, 1) := by decide +kernel
theorem dX14_aimRow_1 : decode cX14_aimRow 1 = .ok (.getfield 240, 3) := by decide +kernel
theorem dX14_aimRow_4 : decode cX14_aimRow 4 = .ok (.iload_n 1, 1) := by decide +kernel
theorem dX14_aimRow_5 : decode cX14_aimRow 5 = .ok (.iaload, 1) := by decide +kernel
theorem dX14_aimRow_6 : decode cX14_aimRow 6 = .ok (.invokestatic 688, 3) := by decide +kernel
theorem dX14_aimRow_9 : decode cX14_aimRow 9 = .ok (.ifCond .eq 28, 3) := by decide +kernel
theorem dX14_aimRow_12 : decode cX14_aimRow 12 = .ok (.aload_n 0, 1) := by decide +kernel
theorem dX14_aimRow_13 : decode cX14_aimRow 13 = .ok (.getfield 228, 3) := by decide +kernel
theorem dX14_aimRow_16 : decode cX14_aimRow 16 = .ok (.iconst 3, 1) := by decide +kernel
theorem dX14_aimRow_17 : decode cX14_aimRow 17 = .ok (.iload_n 2, 1) := by decide +kernel
theorem dX14_aimRow_18 : decode cX14_aimRow 18 = .ok (.imul, 1) := by decide +kernel
theorem dX14_aimRow_19 : decode cX14_aimRow 19 = .ok (.iconst 1, 1) := by decide +kernel
theorem dX14_aimRow_20 : decode cX14_aimRow 20 = .ok (.iadd, 1) := by decide +kernel
theorem dX14_aimRow_21 : decode cX14_aimRow 21 = .ok (.aload_n 0, 1) := by decide +kernel
theorem dX14_aimRow_22 : decode cX14_aimRow 22 = .ok (.getfield 279, 3) := by decide +kernel
theorem dX14_aimRow_25 : decode cX14_aimRow 25 = .ok (.aload_n 0, 1) := by decide +kernel
theorem dX14_aimRow_26 : decode cX14_aimRow 26 = .ok (.aload_n 0, 1) := by decide +kernel
theorem dX14_aimRow_27 : decode cX14_aimRow 27 = .ok (.getfield 243, 3) := by decide +kernel
theorem dX14_aimRow_30 : decode cX14_aimRow 30 = .ok (.iload_n 1, 1) := by decide +kernel
theorem dX14_aimRow_31 : decode cX14_aimRow 31 = .ok (.iaload, 1) := by decide +kernel
theorem dX14_aimRow_32 : decode cX14_aimRow 32 = .ok (.invokevirtual 1133, 3) := by decide +kernel
theorem dX14_aimRow_35 : decode cX14_aimRow 35 = .ok (.iaload, 1) := by decide +kernel
theorem dX14_aimRow_36 : decode cX14_aimRow 36 = .ok (.iastore, 1) := by decide +kernel
theorem dX14_aimRow_37 : decode cX14_aimRow 37 = .ok (.aload_n 0, 1) := by decide +kernel
theorem dX14_aimRow_38 : decode cX14_aimRow 38 = .ok (.getfield 240, 3) := by decide +kernel
theorem dX14_aimRow_41 : decode cX14_aimRow 41 = .ok (.iload_n 1, 1) := by decide +kernel
theorem dX14_aimRow_42 : decode cX14_aimRow 42 = .ok (.iaload, 1) := by decide +kernel
theorem dX14_aimRow_43 : decode cX14_aimRow 43 = .ok (.invokestatic 691, 3) := by decide +kernel
theorem dX14_aimRow_46 : decode cX14_aimRow 46 = .ok (.ifCond .ne 4, 3) := by decide +kernel
theorem dX14_aimRow_49 : decode cX14_aimRow 49 = .ok (.return_, 1) := by decide +kernel
theorem dX14_aimRow_50 : decode cX14_aimRow 50 = .ok (.iconst 0, 1) := by decide +kernel
theorem dX14_aimRow_51 : decode cX14_aimRow 51 = .ok (.istore_n 3, 1) := by decide +kernel
theorem dX14_aimRow_52 : decode cX14_aimRow 52 = .ok (.iload_n 3, 1) := by decide +kernel
theorem dX14_aimRow_53 : decode cX14_aimRow 53 = .ok (.aload_n 0, 1) := by decide +kernel
theorem dX14_aimRow_54 : decode cX14_aimRow 54 = .ok (.getfield 246, 3) := by decide +kernel
theorem dX14_aimRow_57 : decode cX14_aimRow 57 = .ok (.iload_n 1, 1) := by decide +kernel
theorem dX14_aimRow_58 : decode cX14_aimRow 58 = .ok (.iaload, 1) := by decide +kernel
theorem dX14_aimRow_59 : decode cX14_aimRow 59 = .ok (.if_icmp .gt 48, 3) := by decide +kernel
theorem dX14_aimRow_62 : decode cX14_aimRow 62 = .ok (.aload_n 0, 1) := by decide +kernel
theorem dX14_aimRow_63 : decode cX14_aimRow 63 = .ok (.getfield 231, 3) := by decide +kernel
theorem dX14_aimRow_66 : decode cX14_aimRow 66 = .ok (.aload_n 0, 1) := by decide +kernel
theorem dX14_aimRow_67 : decode cX14_aimRow 67 = .ok (.getfield 243, 3) := by decide +kernel
theorem dX14_aimRow_70 : decode cX14_aimRow 70 = .ok (.iload_n 1, 1) := by decide +kernel
theorem dX14_aimRow_71 : decode cX14_aimRow 71 = .ok (.iaload, 1) := by decide +kernel
theorem dX14_aimRow_72 : decode cX14_aimRow 72 = .ok (.iconst 2, 1) := by decide +kernel
theorem dX14_aimRow_73 : decode cX14_aimRow 73 = .ok (.iload_n 3, 1) := by decide +kernel
theorem dX14_aimRow_74 : decode cX14_aimRow 74 = .ok (.imul, 1) := by decide +kernel
theorem dX14_aimRow_75 : decode cX14_aimRow 75 = .ok (.iadd, 1) := by decide +kernel
theorem dX14_aimRow_76 : decode cX14_aimRow 76 = .ok (.aload_n 0, 1) := by decide +kernel
theorem dX14_aimRow_77 : decode cX14_aimRow 77 = .ok (.getfield 279, 3) := by decide +kernel
theorem dX14_aimRow_80 : decode cX14_aimRow 80 = .ok (.aload_n 0, 1) := by decide +kernel
theorem dX14_aimRow_81 : decode cX14_aimRow 81 = .ok (.aload_n 0, 1) := by decide +kernel
theorem dX14_aimRow_82 : decode cX14_aimRow 82 = .ok (.getfield 231, 3) := by decide +kernel
theorem dX14_aimRow_85 : decode cX14_aimRow 85 = .ok (.aload_n 0, 1) := by decide +kernel
theorem dX14_aimRow_86 : decode cX14_aimRow 86 = .ok (.getfield 243, 3) := by decide +kernel
theorem dX14_aimRow_89 : decode cX14_aimRow 89 = .ok (.iload_n 1, 1) := by decide +kernel
theorem dX14_aimRow_90 : decode cX14_aimRow 90 = .ok (.iaload, 1) := by decide +kernel
theorem dX14_aimRow_91 : decode cX14_aimRow 91 = .ok (.iconst 2, 1) := by decide +kernel
theorem dX14_aimRow_92 : decode cX14_aimRow 92 = .ok (.iload_n 3, 1) := by decide +kernel
theorem dX14_aimRow_93 : decode cX14_aimRow 93 = .ok (.imul, 1) := by decide +kernel
theorem dX14_aimRow_94 : decode cX14_aimRow 94 = .ok (.iadd, 1) := by decide +kernel
theorem dX14_aimRow_95 : decode cX14_aimRow 95 = .ok (.iaload, 1) := by decide +kernel
theorem dX14_aimRow_96 : decode cX14_aimRow 96 = .ok (.invokevirtual 1133, 3) := by decide +kernel
theorem dX14_aimRow_99 : decode cX14_aimRow 99 = .ok (.iaload, 1) := by decide +kernel
theorem dX14_aimRow_100 : decode cX14_aimRow 100 = .ok (.iastore, 1) := by decide +kernel
theorem dX14_aimRow_101 : decode cX14_aimRow 101 = .ok (.iinc 3 1, 3) := by decide +kernel
theorem dX14_aimRow_104 : decode cX14_aimRow 104 = .ok (.goto (-52), 3) := by decide +kernel
theorem dX14_aimRow_107 : decode cX14_aimRow 107 = .ok (.return_, 1) := by decide +kernel
theorem dX14_applied_0 : decode cX14_applied 0 = .ok (.iload_n 1, 1) := by decide +kernel
theorem dX14_applied_1 : decode cX14_applied 1 = .ok (.iconst 1, 1) := by decide +kernel
theorem dX14_applied_2 : decode cX14_applied 2 = .ok (.if_icmp .lt 18, 3) := by decide +kernel
theorem dX14_applied_5 : decode cX14_applied 5 = .ok (.iload_n 1, 1) := by decide +kernel
theorem dX14_applied_6 : decode cX14_applied 6 = .ok (.bipush 11, 2) := by decide +kernel
theorem dX14_applied_8 : decode cX14_applied 8 = .ok (.if_icmp .gt 12, 3) := by decide +kernel
theorem dX14_applied_11 : decode cX14_applied 11 = .ok (.aload_n 0, 1) := by decide +kernel
theorem dX14_applied_12 : decode cX14_applied 12 = .ok (.getfield 237, 3) := by decide +kernel
theorem dX14_applied_15 : decode cX14_applied 15 = .ok (.iload_n 1, 1) := by decide +kernel
theorem dX14_applied_16 : decode cX14_applied 16 = .ok (.iaload, 1) := by decide +kernel
theorem dX14_applied_17 : decode cX14_applied 17 = .ok (.goto 4, 3) := by decide +kernel
theorem dX14_applied_20 : decode cX14_applied 20 = .ok (.iconst 0, 1) := by decide +kernel
theorem dX14_applied_21 : decode cX14_applied 21 = .ok (.ireturn, 1) := by decide +kernel
theorem dX14_apply_0 : decode cX14_apply 0 = .ok (.iload_n 1, 1) := by decide +kernel
theorem dX14_apply_1 : decode cX14_apply 1 = .ok (.iconst 2, 1) := by decide +kernel
theorem dX14_apply_2 : decode cX14_apply 2 = .ok (.if_icmp .ne 9, 3) := by decide +kernel
theorem dX14_apply_5 : decode cX14_apply 5 = .ok (.aload_n 0, 1) := by decide +kernel
theorem dX14_apply_6 : decode cX14_apply 6 = .ok (.iload_n 2, 1) := by decide +kernel
theorem dX14_apply_7 : decode cX14_apply 7 = .ok (.invokevirtual 1163, 3) := by decide +kernel
theorem dX14_apply_10 : decode cX14_apply 10 = .ok (.ireturn, 1) := by decide +kernel
theorem dX14_apply_11 : decode cX14_apply 11 = .ok (.aload_n 0, 1) := by decide +kernel
theorem dX14_apply_12 : decode cX14_apply 12 = .ok (.invokevirtual 1166, 3) := by decide +kernel
theorem dX14_apply_15 : decode cX14_apply 15 = .ok (.istore_n 3, 1) := by decide +kernel
theorem dX14_apply_16 : decode cX14_apply 16 = .ok (.iload_n 2, 1) := by decide +kernel
theorem dX14_apply_17 : decode cX14_apply 17 = .ok (.iload_n 3, 1) := by decide +kernel
theorem dX14_apply_18 : decode cX14_apply 18 = .ok (.if_icmp .ne 5, 3) := by decide +kernel
theorem dX14_apply_21 : decode cX14_apply 21 = .ok (.iconst 0, 1) := by decide +kernel
theorem dX14_apply_22 : decode cX14_apply 22 = .ok (.ireturn, 1) := by decide +kernel
theorem dX14_apply_23 : decode cX14_apply 23 = .ok (.aload_n 0, 1) := by decide +kernel
theorem dX14_apply_24 : decode cX14_apply 24 = .ok (.iload_n 2, 1) := by decide +kernel
theorem dX14_apply_25 : decode cX14_apply 25 = .ok (.invokevirtual 1161, 3) := by decide +kernel
theorem dX14_apply_28 : decode cX14_apply 28 = .ok (.istore 4, 2) := by decide +kernel
theorem dX14_apply_30 : decode cX14_apply 30 = .ok (.iload 4, 2) := by decide +kernel
theorem dX14_apply_32 : decode cX14_apply 32 = .ok (.iload_n 3, 1) := by decide +kernel
theorem dX14_apply_33 : decode cX14_apply 33 = .ok (.if_icmp .eq 17, 3) := by decide +kernel
theorem dX14_apply_36 : decode cX14_apply 36 = .ok (.aload_n 0, 1) := by decide +kernel
theorem dX14_apply_37 : decode cX14_apply 37 = .ok (.getfield 267, 3) := by decide +kernel
theorem dX14_apply_40 : decode cX14_apply 40 = .ok (.iload 4, 2) := by decide +kernel
theorem dX14_apply_42 : decode cX14_apply 42 = .ok (.baload, 1) := by decide +kernel
theorem dX14_apply_43 : decode cX14_apply 43 = .ok (.ifCond .ne 7, 3) := by decide +kernel
theorem dX14_apply_46 : decode cX14_apply 46 = .ok (.iconst 1, 1) := by decide +kernel
theorem dX14_apply_47 : decode cX14_apply 47 = .ok (.goto 4, 3) := by decide +kernel
theorem dX14_apply_50 : decode cX14_apply 50 = .ok (.iconst 0, 1) := by decide +kernel
theorem dX14_apply_51 : decode cX14_apply 51 = .ok (.istore 5, 2) := by decide +kernel
theorem dX14_apply_53 : decode cX14_apply 53 = .ok (.iload_n 1, 1) := by decide +kernel
theorem dX14_apply_54 : decode cX14_apply 54 = .ok (.tableswitch 304 3 10 #[46, 91, 122, 148, 173, 199, 234, 269], 46) := by decide +kernel
theorem dX14_apply_100 : decode cX14_apply 100 = .ok (.aload_n 0, 1) := by decide +kernel
theorem dX14_apply_101 : decode cX14_apply 101 = .ok (.getfield 240, 3) := by decide +kernel
theorem dX14_apply_104 : decode cX14_apply 104 = .ok (.iload_n 2, 1) := by decide +kernel
theorem dX14_apply_105 : decode cX14_apply 105 = .ok (.iaload, 1) := by decide +kernel
theorem dX14_apply_106 : decode cX14_apply 106 = .ok (.sipush 167, 3) := by decide +kernel
theorem dX14_apply_109 : decode cX14_apply 109 = .ok (.if_icmp .ne 18, 3) := by decide +kernel
theorem dX14_apply_112 : decode cX14_apply 112 = .ok (.aload_n 0, 1) := by decide +kernel
theorem dX14_apply_113 : decode cX14_apply 113 = .ok (.iload_n 2, 1) := by decide +kernel
theorem dX14_apply_114 : decode cX14_apply 114 = .ok (.iconst 0, 1) := by decide +kernel
theorem dX14_apply_115 : decode cX14_apply 115 = .ok (.invokevirtual 1142, 3) := by decide +kernel
theorem dX14_apply_118 : decode cX14_apply 118 = .ok (.iload 4, 2) := by decide +kernel
theorem dX14_apply_120 : decode cX14_apply 120 = .ok (.if_icmp .ne 7, 3) := by decide +kernel
theorem dX14_apply_123 : decode cX14_apply 123 = .ok (.iconst 1, 1) := by decide +kernel
theorem dX14_apply_124 : decode cX14_apply 124 = .ok (.goto 4, 3) := by decide +kernel
theorem dX14_apply_127 : decode cX14_apply 127 = .ok (.iconst 0, 1) := by decide +kernel
theorem dX14_apply_128 : decode cX14_apply 128 = .ok (.istore 6, 2) := by decide +kernel
theorem dX14_apply_130 : decode cX14_apply 130 = .ok (.iload 6, 2) := by decide +kernel
theorem dX14_apply_132 : decode cX14_apply 132 = .ok (.ifCond .eq 233, 3) := by decide +kernel
theorem dX14_apply_135 : decode cX14_apply 135 = .ok (.aload_n 0, 1) := by decide +kernel
theorem dX14_apply_136 : decode cX14_apply 136 = .ok (.getfield 249, 3) := by decide +kernel
theorem dX14_apply_139 : decode cX14_apply 139 = .ok (.iload_n 2, 1) := by decide +kernel
theorem dX14_apply_140 : decode cX14_apply 140 = .ok (.iconst 1, 1) := by decide +kernel
theorem dX14_apply_141 : decode cX14_apply 141 = .ok (.bastore, 1) := by decide +kernel
theorem dX14_apply_142 : decode cX14_apply 142 = .ok (.goto 223, 3) := by decide +kernel
theorem dX14_apply_145 : decode cX14_apply 145 = .ok (.aload_n 0, 1) := by decide +kernel
theorem dX14_apply_146 : decode cX14_apply 146 = .ok (.getfield 240, 3) := by decide +kernel
theorem dX14_apply_149 : decode cX14_apply 149 = .ok (.iload_n 2, 1) := by decide +kernel
theorem dX14_apply_150 : decode cX14_apply 150 = .ok (.iaload, 1) := by decide +kernel
theorem dX14_apply_151 : decode cX14_apply 151 = .ok (.ifCond .ne 7, 3) := by decide +kernel
theorem dX14_apply_154 : decode cX14_apply 154 = .ok (.iconst 1, 1) := by decide +kernel
theorem dX14_apply_155 : decode cX14_apply 155 = .ok (.goto 4, 3) := by decide +kernel
theorem dX14_apply_158 : decode cX14_apply 158 = .ok (.iconst 0, 1) := by decide +kernel
theorem dX14_apply_159 : decode cX14_apply 159 = .ok (.istore 6, 2) := by decide +kernel
theorem dX14_apply_161 : decode cX14_apply 161 = .ok (.iload 6, 2) := by decide +kernel
theorem dX14_apply_163 : decode cX14_apply 163 = .ok (.ifCond .eq 202, 3) := by decide +kernel
theorem dX14_apply_166 : decode cX14_apply 166 = .ok (.aload_n 0, 1) := by decide +kernel
theorem dX14_apply_167 : decode cX14_apply 167 = .ok (.getfield 249, 3) := by decide +kernel
theorem dX14_apply_170 : decode cX14_apply 170 = .ok (.iload_n 2, 1) := by decide +kernel
theorem dX14_apply_171 : decode cX14_apply 171 = .ok (.iconst 1, 1) := by decide +kernel
theorem dX14_apply_172 : decode cX14_apply 172 = .ok (.bastore, 1) := by decide +kernel
theorem dX14_apply_173 : decode cX14_apply 173 = .ok (.goto 192, 3) := by decide +kernel
theorem dX14_apply_176 : decode cX14_apply 176 = .ok (.iload 5, 2) := by decide +kernel
theorem dX14_apply_178 : decode cX14_apply 178 = .ok (.ifCond .eq 18, 3) := by decide +kernel
theorem dX14_apply_181 : decode cX14_apply 181 = .ok (.aload_n 0, 1) := by decide +kernel
theorem dX14_apply_182 : decode cX14_apply 182 = .ok (.iload_n 2, 1) := by decide +kernel
theorem dX14_apply_183 : decode cX14_apply 183 = .ok (.iload 4, 2) := by decide +kernel
theorem dX14_apply_185 : decode cX14_apply 185 = .ok (.iload_n 3, 1) := by decide +kernel
theorem dX14_apply_186 : decode cX14_apply 186 = .ok (.invokevirtual 1169, 3) := by decide +kernel
theorem dX14_apply_189 : decode cX14_apply 189 = .ok (.ifCond .eq 7, 3) := by decide +kernel
theorem dX14_apply_192 : decode cX14_apply 192 = .ok (.iconst 1, 1) := by decide +kernel
theorem dX14_apply_193 : decode cX14_apply 193 = .ok (.goto 4, 3) := by decide +kernel
theorem dX14_apply_196 : decode cX14_apply 196 = .ok (.iconst 0, 1) := by decide +kernel
theorem dX14_apply_197 : decode cX14_apply 197 = .ok (.istore 6, 2) := by decide +kernel
theorem dX14_apply_199 : decode cX14_apply 199 = .ok (.goto 166, 3) := by decide +kernel
theorem dX14_apply_202 : decode cX14_apply 202 = .ok (.iload 5, 2) := by decide +kernel
theorem dX14_apply_204 : decode cX14_apply 204 = .ok (.ifCond .eq 17, 3) := by decide +kernel
theorem dX14_apply_207 : decode cX14_apply 207 = .ok (.aload_n 0, 1) := by decide +kernel
theorem dX14_apply_208 : decode cX14_apply 208 = .ok (.iload_n 2, 1) := by decide +kernel
theorem dX14_apply_209 : decode cX14_apply 209 = .ok (.iload 4, 2) := by decide +kernel
theorem dX14_apply_211 : decode cX14_apply 211 = .ok (.invokevirtual 1172, 3) := by decide +kernel
theorem dX14_apply_214 : decode cX14_apply 214 = .ok (.ifCond .eq 7, 3) := by decide +kernel
theorem dX14_apply_217 : decode cX14_apply 217 = .ok (.iconst 1, 1) := by decide +kernel
theorem dX14_apply_218 : decode cX14_apply 218 = .ok (.goto 4, 3) := by decide +kernel
theorem dX14_apply_221 : decode cX14_apply 221 = .ok (.iconst 0, 1) := by decide +kernel
theorem dX14_apply_222 : decode cX14_apply 222 = .ok (.istore 6, 2) := by decide +kernel
theorem dX14_apply_224 : decode cX14_apply 224 = .ok (.goto 141, 3) := by decide +kernel
theorem dX14_apply_227 : decode cX14_apply 227 = .ok (.iload 5, 2) := by decide +kernel
theorem dX14_apply_229 : decode cX14_apply 229 = .ok (.ifCond .eq 18, 3) := by decide +kernel
theorem dX14_apply_232 : decode cX14_apply 232 = .ok (.aload_n 0, 1) := by decide +kernel
theorem dX14_apply_233 : decode cX14_apply 233 = .ok (.iload_n 2, 1) := by decide +kernel
theorem dX14_apply_234 : decode cX14_apply 234 = .ok (.iload 4, 2) := by decide +kernel
theorem dX14_apply_236 : decode cX14_apply 236 = .ok (.iload_n 3, 1) := by decide +kernel
theorem dX14_apply_237 : decode cX14_apply 237 = .ok (.invokevirtual 1175, 3) := by decide +kernel
theorem dX14_apply_240 : decode cX14_apply 240 = .ok (.ifCond .eq 7, 3) := by decide +kernel
theorem dX14_apply_243 : decode cX14_apply 243 = .ok (.iconst 1, 1) := by decide +kernel
theorem dX14_apply_244 : decode cX14_apply 244 = .ok (.goto 4, 3) := by decide +kernel
theorem dX14_apply_247 : decode cX14_apply 247 = .ok (.iconst 0, 1) := by decide +kernel
theorem dX14_apply_248 : decode cX14_apply 248 = .ok (.istore 6, 2) := by decide +kernel
theorem dX14_apply_250 : decode cX14_apply 250 = .ok (.goto 115, 3) := by decide +kernel
theorem dX14_apply_253 : decode cX14_apply 253 = .ok (.iload 5, 2) := by decide +kernel
theorem dX14_apply_255 : decode cX14_apply 255 = .ok (.ifCond .eq 27, 3) := by decide +kernel
theorem dX14_apply_258 : decode cX14_apply 258 = .ok (.aload_n 0, 1) := by decide +kernel
theorem dX14_apply_259 : decode cX14_apply 259 = .ok (.iload_n 2, 1) := by decide +kernel
theorem dX14_apply_260 : decode cX14_apply 260 = .ok (.iload 4, 2) := by decide +kernel
theorem dX14_apply_262 : decode cX14_apply 262 = .ok (.invokevirtual 1178, 3) := by decide +kernel
theorem dX14_apply_265 : decode cX14_apply 265 = .ok (.ifCond .eq 17, 3) := by decide +kernel
theorem dX14_apply_268 : decode cX14_apply 268 = .ok (.aload_n 0, 1) := by decide +kernel
theorem dX14_apply_269 : decode cX14_apply 269 = .ok (.iload_n 2, 1) := by decide +kernel
theorem dX14_apply_270 : decode cX14_apply 270 = .ok (.iload 4, 2) := by decide +kernel
theorem dX14_apply_272 : decode cX14_apply 272 = .ok (.invokevirtual 1181, 3) := by decide +kernel
theorem dX14_apply_275 : decode cX14_apply 275 = .ok (.ifCond .eq 7, 3) := by decide +kernel
theorem dX14_apply_278 : decode cX14_apply 278 = .ok (.iconst 1, 1) := by decide +kernel
theorem dX14_apply_279 : decode cX14_apply 279 = .ok (.goto 4, 3) := by decide +kernel
theorem dX14_apply_282 : decode cX14_apply 282 = .ok (.iconst 0, 1) := by decide +kernel
theorem dX14_apply_283 : decode cX14_apply 283 = .ok (.istore 6, 2) := by decide +kernel
theorem dX14_apply_285 : decode cX14_apply 285 = .ok (.goto 80, 3) := by decide +kernel
theorem dX14_apply_288 : decode cX14_apply 288 = .ok (.iload 5, 2) := by decide +kernel
theorem dX14_apply_290 : decode cX14_apply 290 = .ok (.ifCond .eq 27, 3) := by decide +kernel
theorem dX14_apply_293 : decode cX14_apply 293 = .ok (.aload_n 0, 1) := by decide +kernel
theorem dX14_apply_294 : decode cX14_apply 294 = .ok (.iload_n 2, 1) := by decide +kernel
theorem dX14_apply_295 : decode cX14_apply 295 = .ok (.iload 4, 2) := by decide +kernel
theorem dX14_apply_297 : decode cX14_apply 297 = .ok (.invokevirtual 1184, 3) := by decide +kernel
theorem dX14_apply_300 : decode cX14_apply 300 = .ok (.ifCond .eq 17, 3) := by decide +kernel
theorem dX14_apply_303 : decode cX14_apply 303 = .ok (.aload_n 0, 1) := by decide +kernel
theorem dX14_apply_304 : decode cX14_apply 304 = .ok (.iload_n 2, 1) := by decide +kernel
theorem dX14_apply_305 : decode cX14_apply 305 = .ok (.iload 4, 2) := by decide +kernel
theorem dX14_apply_307 : decode cX14_apply 307 = .ok (.invokevirtual 1181, 3) := by decide +kernel
theorem dX14_apply_310 : decode cX14_apply 310 = .ok (.ifCond .eq 7, 3) := by decide +kernel
theorem dX14_apply_313 : decode cX14_apply 313 = .ok (.iconst 1, 1) := by decide +kernel
theorem dX14_apply_314 : decode cX14_apply 314 = .ok (.goto 4, 3) := by decide +kernel
theorem dX14_apply_317 : decode cX14_apply 317 = .ok (.iconst 0, 1) := by decide +kernel
theorem dX14_apply_318 : decode cX14_apply 318 = .ok (.istore 6, 2) := by decide +kernel
theorem dX14_apply_320 : decode cX14_apply 320 = .ok (.goto 45, 3) := by decide +kernel
theorem dX14_apply_323 : decode cX14_apply 323 = .ok (.iload 5, 2) := by decide +kernel
theorem dX14_apply_325 : decode cX14_apply 325 = .ok (.ifCond .eq 27, 3) := by decide +kernel
theorem dX14_apply_328 : decode cX14_apply 328 = .ok (.aload_n 0, 1) := by decide +kernel
theorem dX14_apply_329 : decode cX14_apply 329 = .ok (.iload_n 2, 1) := by decide +kernel
theorem dX14_apply_330 : decode cX14_apply 330 = .ok (.iload 4, 2) := by decide +kernel
theorem dX14_apply_332 : decode cX14_apply 332 = .ok (.invokevirtual 1187, 3) := by decide +kernel
theorem dX14_apply_335 : decode cX14_apply 335 = .ok (.ifCond .eq 17, 3) := by decide +kernel
theorem dX14_apply_338 : decode cX14_apply 338 = .ok (.aload_n 0, 1) := by decide +kernel
theorem dX14_apply_339 : decode cX14_apply 339 = .ok (.iload_n 2, 1) := by decide +kernel
theorem dX14_apply_340 : decode cX14_apply 340 = .ok (.iload 4, 2) := by decide +kernel
theorem dX14_apply_342 : decode cX14_apply 342 = .ok (.invokevirtual 1181, 3) := by decide +kernel
theorem dX14_apply_345 : decode cX14_apply 345 = .ok (.ifCond .eq 7, 3) := by decide +kernel
theorem dX14_apply_348 : decode cX14_apply 348 = .ok (.iconst 1, 1) := by decide +kernel
theorem dX14_apply_349 : decode cX14_apply 349 = .ok (.goto 4, 3) := by decide +kernel
theorem dX14_apply_352 : decode cX14_apply 352 = .ok (.iconst 0, 1) := by decide +kernel
theorem dX14_apply_353 : decode cX14_apply 353 = .ok (.istore 6, 2) := by decide +kernel
theorem dX14_apply_355 : decode cX14_apply 355 = .ok (.goto 10, 3) := by decide +kernel
theorem dX14_apply_358 : decode cX14_apply 358 = .ok (.aload_n 0, 1) := by decide +kernel
theorem dX14_apply_359 : decode cX14_apply 359 = .ok (.iload_n 2, 1) := by decide +kernel
theorem dX14_apply_360 : decode cX14_apply 360 = .ok (.invokevirtual 1190, 3) := by decide +kernel
theorem dX14_apply_363 : decode cX14_apply 363 = .ok (.istore 6, 2) := by decide +kernel
theorem dX14_apply_365 : decode cX14_apply 365 = .ok (.iload 6, 2) := by decide +kernel
theorem dX14_apply_367 : decode cX14_apply 367 = .ok (.ifCond .eq 13, 3) := by decide +kernel
theorem dX14_apply_370 : decode cX14_apply 370 = .ok (.aload_n 0, 1) := by decide +kernel
theorem dX14_apply_371 : decode cX14_apply 371 = .ok (.getfield 237, 3) := by decide +kernel
theorem dX14_apply_374 : decode cX14_apply 374 = .ok (.iload_n 1, 1) := by decide +kernel
theorem dX14_apply_375 : decode cX14_apply 375 = .ok (.dup2, 1) := by decide +kernel
theorem dX14_apply_376 : decode cX14_apply 376 = .ok (.iaload, 1) := by decide +kernel
theorem dX14_apply_377 : decode cX14_apply 377 = .ok (.iconst 1, 1) := by decide +kernel
theorem dX14_apply_378 : decode cX14_apply 378 = .ok (.iadd, 1) := by decide +kernel
theorem dX14_apply_379 : decode cX14_apply 379 = .ok (.iastore, 1) := by decide +kernel
theorem dX14_apply_380 : decode cX14_apply 380 = .ok (.iload 6, 2) := by decide +kernel
theorem dX14_apply_382 : decode cX14_apply 382 = .ok (.ireturn, 1) := by decide +kernel
theorem dX14_argument_0 : decode cX14_argument 0 = .ok (.aload_n 0, 1) := by decide +kernel
theorem dX14_argument_1 : decode cX14_argument 1 = .ok (.getfield 970, 3) := by decide +kernel
theorem dX14_argument_4 : decode cX14_argument 4 = .ok (.bipush 8, 2) := by decide +kernel
theorem dX14_argument_6 : decode cX14_argument 6 = .ok (.if_icmp .ne 5, 3) := by decide +kernel
theorem dX14_argument_9 : decode cX14_argument 9 = .ok (.iconst (-1), 1) := by decide +kernel
theorem dX14_argument_10 : decode cX14_argument 10 = .ok (.ireturn, 1) := by decide +kernel
theorem dX14_argument_11 : decode cX14_argument 11 = .ok (.aload_n 0, 1) := by decide +kernel
theorem dX14_argument_12 : decode cX14_argument 12 = .ok (.getfield 158, 3) := by decide +kernel
theorem dX14_argument_15 : decode cX14_argument 15 = .ok (.aload_n 0, 1) := by decide +kernel
theorem dX14_argument_16 : decode cX14_argument 16 = .ok (.getfield 970, 3) := by decide +kernel
theorem dX14_argument_19 : decode cX14_argument 19 = .ok (.lload_n 1, 1) := by decide +kernel
theorem dX14_argument_20 : decode cX14_argument 20 = .ok (.lastore, 1) := by decide +kernel
theorem dX14_argument_21 : decode cX14_argument 21 = .ok (.aload_n 0, 1) := by decide +kernel
theorem dX14_argument_22 : decode cX14_argument 22 = .ok (.dup, 1) := by decide +kernel
theorem dX14_argument_23 : decode cX14_argument 23 = .ok (.getfield 970, 3) := by decide +kernel
theorem dX14_argument_26 : decode cX14_argument 26 = .ok (.iconst 1, 1) := by decide +kernel
theorem dX14_argument_27 : decode cX14_argument 27 = .ok (.iadd, 1) := by decide +kernel
theorem dX14_argument_28 : decode cX14_argument 28 = .ok (.putfield 970, 3) := by decide +kernel
theorem dX14_argument_31 : decode cX14_argument 31 = .ok (.aload_n 0, 1) := by decide +kernel
theorem dX14_argument_32 : decode cX14_argument 32 = .ok (.getfield 970, 3) := by decide +kernel
theorem dX14_argument_35 : decode cX14_argument 35 = .ok (.ireturn, 1) := by decide +kernel
theorem dX14_arrayLength_0 : decode cX14_arrayLength 0 = .ok (.iload_n 1, 1) := by decide +kernel
theorem dX14_arrayLength_1 : decode cX14_arrayLength 1 = .ok (.iconst 1, 1) := by decide +kernel
theorem dX14_arrayLength_2 : decode cX14_arrayLength 2 = .ok (.if_icmp .lt 20, 3) := by decide +kernel
theorem dX14_arrayLength_5 : decode cX14_arrayLength 5 = .ok (.iload_n 1, 1) := by decide +kernel
theorem dX14_arrayLength_6 : decode cX14_arrayLength 6 = .ok (.aload_n 0, 1) := by decide +kernel
theorem dX14_arrayLength_7 : decode cX14_arrayLength 7 = .ok (.getfield 964, 3) := by decide +kernel
theorem dX14_arrayLength_10 : decode cX14_arrayLength 10 = .ok (.if_icmp .gt 12, 3) := by decide +kernel
theorem dX14_arrayLength_13 : decode cX14_arrayLength 13 = .ok (.aload_n 0, 1) := by decide +kernel
theorem dX14_arrayLength_14 : decode cX14_arrayLength 14 = .ok (.getfield 155, 3) := by decide +kernel
theorem dX14_arrayLength_17 : decode cX14_arrayLength 17 = .ok (.iload_n 1, 1) := by decide +kernel
theorem dX14_arrayLength_18 : decode cX14_arrayLength 18 = .ok (.iaload, 1) := by decide +kernel
theorem dX14_arrayLength_19 : decode cX14_arrayLength 19 = .ok (.goto 4, 3) := by decide +kernel
theorem dX14_arrayLength_22 : decode cX14_arrayLength 22 = .ok (.iconst (-1), 1) := by decide +kernel
theorem dX14_arrayLength_23 : decode cX14_arrayLength 23 = .ok (.ireturn, 1) := by decide +kernel
theorem dX14_at_0 : decode cX14_at 0 = .ok (.aload_n 0, 1) := by decide +kernel
theorem dX14_at_1 : decode cX14_at 1 = .ok (.getfield 108, 3) := by decide +kernel
theorem dX14_at_4 : decode cX14_at 4 = .ok (.ireturn, 1) := by decide +kernel
theorem dX14_attributesOf_0 : decode cX14_attributesOf 0 = .ok (.aload_n 0, 1) := by decide +kernel
theorem dX14_attributesOf_1 : decode cX14_attributesOf 1 = .ok (.aload_n 0, 1) := by decide +kernel
theorem dX14_attributesOf_2 : decode cX14_attributesOf 2 = .ok (.ldc2_w 332, 3) := by decide +kernel
theorem dX14_attributesOf_5 : decode cX14_attributesOf 5 = .ok (.invokevirtual 334, 3) := by decide +kernel
theorem dX14_attributesOf_8 : decode cX14_attributesOf 8 = .ok (.invokevirtual 316, 3) := by decide +kernel
theorem dX14_attributesOf_11 : decode cX14_attributesOf 11 = .ok (.istore_n 2, 1) := by decide +kernel
theorem dX14_attributesOf_12 : decode cX14_attributesOf 12 = .ok (.iconst 0, 1) := by decide +kernel
theorem dX14_attributesOf_13 : decode cX14_attributesOf 13 = .ok (.istore_n 3, 1) := by decide +kernel
theorem dX14_attributesOf_14 : decode cX14_attributesOf 14 = .ok (.iload_n 3, 1) := by decide +kernel
theorem dX14_attributesOf_15 : decode cX14_attributesOf 15 = .ok (.iload_n 2, 1) := by decide +kernel
theorem dX14_attributesOf_16 : decode cX14_attributesOf 16 = .ok (.if_icmp .ge 74, 3) := by decide +kernel
theorem dX14_attributesOf_19 : decode cX14_attributesOf 19 = .ok (.aload_n 0, 1) := by decide +kernel
theorem dX14_attributesOf_20 : decode cX14_attributesOf 20 = .ok (.ldc2_w 332, 3) := by decide +kernel
theorem dX14_attributesOf_23 : decode cX14_attributesOf 23 = .ok (.invokevirtual 334, 3) := by decide +kernel
theorem dX14_attributesOf_26 : decode cX14_attributesOf 26 = .ok (.istore 4, 2) := by decide +kernel
theorem dX14_attributesOf_28 : decode cX14_attributesOf 28 = .ok (.aload_n 0, 1) := by decide +kernel
theorem dX14_attributesOf_29 : decode cX14_attributesOf 29 = .ok (.ldc2_w 371, 3) := by decide +kernel
theorem dX14_attributesOf_32 : decode cX14_attributesOf 32 = .ok (.invokevirtual 334, 3) := by decide +kernel
theorem dX14_attributesOf_35 : decode cX14_attributesOf 35 = .ok (.istore 5, 2) := by decide +kernel
theorem dX14_attributesOf_37 : decode cX14_attributesOf 37 = .ok (.aload_n 0, 1) := by decide +kernel
theorem dX14_attributesOf_38 : decode cX14_attributesOf 38 = .ok (.aload_n 0, 1) := by decide +kernel
theorem dX14_attributesOf_39 : decode cX14_attributesOf 39 = .ok (.iload 5, 2) := by decide +kernel
theorem dX14_attributesOf_41 : decode cX14_attributesOf 41 = .ok (.invokevirtual 373, 3) := by decide +kernel
theorem dX14_attributesOf_44 : decode cX14_attributesOf 44 = .ok (.i2l, 1) := by decide +kernel
theorem dX14_attributesOf_45 : decode cX14_attributesOf 45 = .ok (.ldc2_w 378, 3) := by decide +kernel
theorem dX14_attributesOf_48 : decode cX14_attributesOf 48 = .ok (.land, 1) := by decide +kernel
theorem dX14_attributesOf_49 : decode cX14_attributesOf 49 = .ok (.invokevirtual 334, 3) := by decide +kernel
theorem dX14_attributesOf_52 : decode cX14_attributesOf 52 = .ok (.pop, 1) := by decide +kernel
theorem dX14_attributesOf_53 : decode cX14_attributesOf 53 = .ok (.aload_n 0, 1) := by decide +kernel
theorem dX14_attributesOf_54 : decode cX14_attributesOf 54 = .ok (.getfield 50, 3) := by decide +kernel
theorem dX14_attributesOf_57 : decode cX14_attributesOf 57 = .ok (.aload_n 0, 1) := by decide +kernel
theorem dX14_attributesOf_58 : decode cX14_attributesOf 58 = .ok (.getfield 352, 3) := by decide +kernel
theorem dX14_attributesOf_61 : decode cX14_attributesOf 61 = .ok (.iload 4, 2) := by decide +kernel
theorem dX14_attributesOf_63 : decode cX14_attributesOf 63 = .ok (.iastore, 1) := by decide +kernel
theorem dX14_attributesOf_64 : decode cX14_attributesOf 64 = .ok (.aload_n 0, 1) := by decide +kernel
theorem dX14_attributesOf_65 : decode cX14_attributesOf 65 = .ok (.getfield 53, 3) := by decide +kernel
theorem dX14_attributesOf_68 : decode cX14_attributesOf 68 = .ok (.aload_n 0, 1) := by decide +kernel
theorem dX14_attributesOf_69 : decode cX14_attributesOf 69 = .ok (.getfield 352, 3) := by decide +kernel
theorem dX14_attributesOf_72 : decode cX14_attributesOf 72 = .ok (.iload_n 1, 1) := by decide +kernel
theorem dX14_attributesOf_73 : decode cX14_attributesOf 73 = .ok (.iastore, 1) := by decide +kernel
theorem dX14_attributesOf_74 : decode cX14_attributesOf 74 = .ok (.aload_n 0, 1) := by decide +kernel
theorem dX14_attributesOf_75 : decode cX14_attributesOf 75 = .ok (.dup, 1) := by decide +kernel
theorem dX14_attributesOf_76 : decode cX14_attributesOf 76 = .ok (.getfield 352, 3) := by decide +kernel
theorem dX14_attributesOf_79 : decode cX14_attributesOf 79 = .ok (.iconst 1, 1) := by decide +kernel
theorem dX14_attributesOf_80 : decode cX14_attributesOf 80 = .ok (.iadd, 1) := by decide +kernel
theorem dX14_attributesOf_81 : decode cX14_attributesOf 81 = .ok (.putfield 352, 3) := by decide +kernel
theorem dX14_attributesOf_84 : decode cX14_attributesOf 84 = .ok (.iinc 3 1, 3) := by decide +kernel
theorem dX14_attributesOf_87 : decode cX14_attributesOf 87 = .ok (.goto (-73), 3) := by decide +kernel
theorem dX14_attributesOf_90 : decode cX14_attributesOf 90 = .ok (.return_, 1) := by decide +kernel
theorem dX14_become_0 : decode cX14_become 0 = .ok (.aload_n 0, 1) := by decide +kernel
theorem dX14_become_1 : decode cX14_become 1 = .ok (.getfield 240, 3) := by decide +kernel
theorem dX14_become_4 : decode cX14_become 4 = .ok (.iload_n 1, 1) := by decide +kernel
theorem dX14_become_5 : decode cX14_become 5 = .ok (.iload_n 2, 1) := by decide +kernel
theorem dX14_become_6 : decode cX14_become 6 = .ok (.iastore, 1) := by decide +kernel
theorem dX14_become_7 : decode cX14_become 7 = .ok (.aload_n 0, 1) := by decide +kernel
theorem dX14_become_8 : decode cX14_become 8 = .ok (.getfield 243, 3) := by decide +kernel
theorem dX14_become_11 : decode cX14_become 11 = .ok (.iload_n 1, 1) := by decide +kernel
theorem dX14_become_12 : decode cX14_become 12 = .ok (.iload_n 2, 1) := by decide +kernel
theorem dX14_become_13 : decode cX14_become 13 = .ok (.bipush 18, 2) := by decide +kernel
theorem dX14_become_15 : decode cX14_become 15 = .ok (.if_icmp .ne 8, 3) := by decide +kernel
theorem dX14_become_18 : decode cX14_become 18 = .ok (.lload_n 3, 1) := by decide +kernel
theorem dX14_become_19 : decode cX14_become 19 = .ok (.l2i, 1) := by decide +kernel
theorem dX14_become_20 : decode cX14_become 20 = .ok (.goto 8, 3) := by decide +kernel
theorem dX14_become_23 : decode cX14_become 23 = .ok (.lload_n 3, 1) := by decide +kernel
theorem dX14_become_24 : decode cX14_become 24 = .ok (.bipush 32, 2) := by decide +kernel
theorem dX14_become_26 : decode cX14_become 26 = .ok (.lshr, 1) := by decide +kernel
theorem dX14_become_27 : decode cX14_become 27 = .ok (.l2i, 1) := by decide +kernel
theorem dX14_become_28 : decode cX14_become 28 = .ok (.iastore, 1) := by decide +kernel
theorem dX14_become_29 : decode cX14_become 29 = .ok (.aload_n 0, 1) := by decide +kernel
theorem dX14_become_30 : decode cX14_become 30 = .ok (.getfield 246, 3) := by decide +kernel
theorem dX14_become_33 : decode cX14_become 33 = .ok (.iload_n 1, 1) := by decide +kernel
theorem dX14_become_34 : decode cX14_become 34 = .ok (.iload_n 2, 1) := by decide +kernel
theorem dX14_become_35 : decode cX14_become 35 = .ok (.bipush 18, 2) := by decide +kernel
theorem dX14_become_37 : decode cX14_become 37 = .ok (.if_icmp .ne 7, 3) := by decide +kernel
theorem dX14_become_40 : decode cX14_become 40 = .ok (.iconst 0, 1) := by decide +kernel
theorem dX14_become_41 : decode cX14_become 41 = .ok (.goto 5, 3) := by decide +kernel
theorem dX14_become_44 : decode cX14_become 44 = .ok (.lload_n 3, 1) := by decide +kernel
theorem dX14_become_45 : decode cX14_become 45 = .ok (.l2i, 1) := by decide +kernel
theorem dX14_become_46 : decode cX14_become 46 = .ok (.iastore, 1) := by decide +kernel
theorem dX14_become_47 : decode cX14_become 47 = .ok (.return_, 1) := by decide +kernel
theorem dX14_behind_0 : decode cX14_behind 0 = .ok (.aload_n 0, 1) := by decide +kernel
theorem dX14_behind_1 : decode cX14_behind 1 = .ok (.iload_n 1, 1) := by decide +kernel
theorem dX14_behind_2 : decode cX14_behind 2 = .ok (.iconst 1, 1) := by decide +kernel
theorem dX14_behind_3 : decode cX14_behind 3 = .ok (.iadd, 1) := by decide +kernel
theorem dX14_behind_4 : decode cX14_behind 4 = .ok (.invokevirtual 1133, 3) := by decide +kernel
theorem dX14_behind_7 : decode cX14_behind 7 = .ok (.ireturn, 1) := by decide +kernel
theorem dX14_bitsOf_0 : decode cX14_bitsOf 0 = .ok (.iload_n 0, 1) := by decide +kernel
theorem dX14_bitsOf_1 : decode cX14_bitsOf 1 = .ok (.bipush 22, 2) := by decide +kernel
theorem dX14_bitsOf_3 : decode cX14_bitsOf 3 = .ok (.if_icmp .eq 9, 3) := by decide +kernel
theorem dX14_bitsOf_6 : decode cX14_bitsOf 6 = .ok (.iload_n 0, 1) := by decide +kernel
theorem dX14_bitsOf_7 : decode cX14_bitsOf 7 = .ok (.bipush 55, 2) := by decide +kernel
theorem dX14_bitsOf_9 : decode cX14_bitsOf 9 = .ok (.if_icmp .ne 9, 3) := by decide +kernel
theorem dX14_bitsOf_12 : decode cX14_bitsOf 12 = .ok (.iconst 3, 1) := by decide +kernel
theorem dX14_bitsOf_13 : decode cX14_bitsOf 13 = .ok (.iload_n 1, 1) := by decide +kernel
theorem dX14_bitsOf_14 : decode cX14_bitsOf 14 = .ok (.ishl, 1) := by decide +kernel
theorem dX14_bitsOf_15 : decode cX14_bitsOf 15 = .ok (.goto 6, 3) := by decide +kernel
theorem dX14_bitsOf_18 : decode cX14_bitsOf 18 = .ok (.iconst 1, 1) := by decide +kernel
theorem dX14_bitsOf_19 : decode cX14_bitsOf 19 = .ok (.iload_n 1, 1) := by decide +kernel
theorem dX14_bitsOf_20 : decode cX14_bitsOf 20 = .ok (.ishl, 1) := by decide +kernel
theorem dX14_bitsOf_21 : decode cX14_bitsOf 21 = .ok (.ireturn, 1) := by decide +kernel
theorem dX14_block_0 : decode cX14_block 0 = .ok (.aload_n 0, 1) := by decide +kernel
theorem dX14_block_1 : decode cX14_block 1 = .ok (.iload_n 1, 1) := by decide +kernel
theorem dX14_block_2 : decode cX14_block 2 = .ok (.iload_n 2, 1) := by decide +kernel
theorem dX14_block_3 : decode cX14_block 3 = .ok (.invokevirtual 662, 3) := by decide +kernel
theorem dX14_block_6 : decode cX14_block 6 = .ok (.ifCond .ne 5, 3) := by decide +kernel
theorem dX14_block_9 : decode cX14_block 9 = .ok (.iconst (-1), 1) := by decide +kernel
theorem dX14_block_10 : decode cX14_block 10 = .ok (.ireturn, 1) := by decide +kernel
theorem dX14_block_11 : decode cX14_block 11 = .ok (.aload_n 0, 1) := by decide +kernel
theorem dX14_block_12 : decode cX14_block 12 = .ok (.iload_n 1, 1) := by decide +kernel
theorem dX14_block_13 : decode cX14_block 13 = .ok (.iload_n 2, 1) := by decide +kernel
theorem dX14_block_14 : decode cX14_block 14 = .ok (.invokevirtual 1127, 3) := by decide +kernel
theorem dX14_block_17 : decode cX14_block 17 = .ok (.iload_n 3, 1) := by decide +kernel
theorem dX14_block_18 : decode cX14_block 18 = .ok (.ifCond .lt 11, 3) := by decide +kernel
theorem dX14_block_21 : decode cX14_block 21 = .ok (.iload_n 3, 1) := by decide +kernel
theorem dX14_block_22 : decode cX14_block 22 = .ok (.aload_n 0, 1) := by decide +kernel
theorem dX14_block_23 : decode cX14_block 23 = .ok (.getfield 1088, 3) := by decide +kernel
theorem dX14_block_26 : decode cX14_block 26 = .ok (.if_icmp .lt 5, 3) := by decide +kernel
theorem dX14_block_29 : decode cX14_block 29 = .ok (.iconst (-1), 1) := by decide +kernel
theorem dX14_block_30 : decode cX14_block 30 = .ok (.ireturn, 1) := by decide +kernel
theorem dX14_block_31 : decode cX14_block 31 = .ok (.iload 4, 2) := by decide +kernel
theorem dX14_block_33 : decode cX14_block 33 = .ok (.tableswitch 106 0 5 #[39, 46, 61, 68, 83, 90], 39) := by decide +kernel
theorem dX14_block_72 : decode cX14_block 72 = .ok (.aload_n 0, 1) := by decide +kernel
theorem dX14_block_73 : decode cX14_block 73 = .ok (.getfield 185, 3) := by decide +kernel
theorem dX14_block_76 : decode cX14_block 76 = .ok (.iload_n 3, 1) := by decide +kernel
theorem dX14_block_77 : decode cX14_block 77 = .ok (.iaload, 1) := by decide +kernel
theorem dX14_block_78 : decode cX14_block 78 = .ok (.ireturn, 1) := by decide +kernel
theorem dX14_block_79 : decode cX14_block 79 = .ok (.aload_n 0, 1) := by decide +kernel
theorem dX14_block_80 : decode cX14_block 80 = .ok (.getfield 200, 3) := by decide +kernel
theorem dX14_block_83 : decode cX14_block 83 = .ok (.iload_n 3, 1) := by decide +kernel
theorem dX14_block_84 : decode cX14_block 84 = .ok (.baload, 1) := by decide +kernel
theorem dX14_block_85 : decode cX14_block 85 = .ok (.ifCond .eq 7, 3) := by decide +kernel
theorem dX14_block_88 : decode cX14_block 88 = .ok (.iconst 1, 1) := by decide +kernel
theorem dX14_block_89 : decode cX14_block 89 = .ok (.goto 4, 3) := by decide +kernel
theorem dX14_block_92 : decode cX14_block 92 = .ok (.iconst 0, 1) := by decide +kernel
theorem dX14_block_93 : decode cX14_block 93 = .ok (.ireturn, 1) := by decide +kernel
theorem dX14_block_94 : decode cX14_block 94 = .ok (.aload_n 0, 1) := by decide +kernel
theorem dX14_block_95 : decode cX14_block 95 = .ok (.getfield 207, 3) := by decide +kernel
theorem dX14_block_98 : decode cX14_block 98 = .ok (.iload_n 3, 1) := by decide +kernel
theorem dX14_block_99 : decode cX14_block 99 = .ok (.iaload, 1) := by decide +kernel
theorem dX14_block_100 : decode cX14_block 100 = .ok (.ireturn, 1) := by decide +kernel
theorem dX14_block_101 : decode cX14_block 101 = .ok (.aload_n 0, 1) := by decide +kernel
theorem dX14_block_102 : decode cX14_block 102 = .ok (.getfield 210, 3) := by decide +kernel
theorem dX14_block_105 : decode cX14_block 105 = .ok (.iload_n 3, 1) := by decide +kernel
theorem dX14_block_106 : decode cX14_block 106 = .ok (.baload, 1) := by decide +kernel
theorem dX14_block_107 : decode cX14_block 107 = .ok (.ifCond .eq 7, 3) := by decide +kernel
theorem dX14_block_110 : decode cX14_block 110 = .ok (.iconst 1, 1) := by decide +kernel
theorem dX14_block_111 : decode cX14_block 111 = .ok (.goto 4, 3) := by decide +kernel
theorem dX14_block_114 : decode cX14_block 114 = .ok (.iconst 0, 1) := by decide +kernel
theorem dX14_block_115 : decode cX14_block 115 = .ok (.ireturn, 1) := by decide +kernel
theorem dX14_block_116 : decode cX14_block 116 = .ok (.aload_n 0, 1) := by decide +kernel
theorem dX14_block_117 : decode cX14_block 117 = .ok (.getfield 213, 3) := by decide +kernel
theorem dX14_block_120 : decode cX14_block 120 = .ok (.iload_n 3, 1) := by decide +kernel
theorem dX14_block_121 : decode cX14_block 121 = .ok (.iaload, 1) := by decide +kernel
theorem dX14_block_122 : decode cX14_block 122 = .ok (.ireturn, 1) := by decide +kernel
theorem dX14_block_123 : decode cX14_block 123 = .ok (.aload_n 0, 1) := by decide +kernel
theorem dX14_block_124 : decode cX14_block 124 = .ok (.getfield 194, 3) := by decide +kernel
theorem dX14_block_127 : decode cX14_block 127 = .ok (.iload_n 3, 1) := by decide +kernel
theorem dX14_block_128 : decode cX14_block 128 = .ok (.iconst 1, 1) := by decide +kernel
theorem dX14_block_129 : decode cX14_block 129 = .ok (.iadd, 1) := by decide +kernel
theorem dX14_block_130 : decode cX14_block 130 = .ok (.iaload, 1) := by decide +kernel
theorem dX14_block_131 : decode cX14_block 131 = .ok (.aload_n 0, 1) := by decide +kernel
theorem dX14_block_132 : decode cX14_block 132 = .ok (.getfield 194, 3) := by decide +kernel
theorem dX14_block_135 : decode cX14_block 135 = .ok (.iload_n 3, 1) := by decide +kernel
theorem dX14_block_136 : decode cX14_block 136 = .ok (.iaload, 1) := by decide +kernel
theorem dX14_block_137 : decode cX14_block 137 = .ok (.isub, 1) := by decide +kernel
theorem dX14_block_138 : decode cX14_block 138 = .ok (.ireturn, 1) := by decide +kernel
theorem dX14_block_139 : decode cX14_block 139 = .ok (.iconst (-1), 1) := by decide +kernel
theorem dX14_block_140 : decode cX14_block 140 = .ok (.ireturn, 1) := by decide +kernel
theorem dX14_blocks_0 : decode cX14_blocks 0 = .ok (.aload_n 0, 1) := by decide +kernel
theorem dX14_blocks_1 : decode cX14_blocks 1 = .ok (.iload_n 1, 1) := by decide +kernel
theorem dX14_blocks_2 : decode cX14_blocks 2 = .ok (.iload_n 2, 1) := by decide +kernel
theorem dX14_blocks_3 : decode cX14_blocks 3 = .ok (.invokevirtual 662, 3) := by decide +kernel
theorem dX14_blocks_6 : decode cX14_blocks 6 = .ok (.ifCond .ne 5, 3) := by decide +kernel
theorem dX14_blocks_9 : decode cX14_blocks 9 = .ok (.iconst (-1), 1) := by decide +kernel
theorem dX14_blocks_10 : decode cX14_blocks 10 = .ok (.ireturn, 1) := by decide +kernel
theorem dX14_blocks_11 : decode cX14_blocks 11 = .ok (.aload_n 0, 1) := by decide +kernel
theorem dX14_blocks_12 : decode cX14_blocks 12 = .ok (.iload_n 1, 1) := by decide +kernel
theorem dX14_blocks_13 : decode cX14_blocks 13 = .ok (.iload_n 2, 1) := by decide +kernel
theorem dX14_blocks_14 : decode cX14_blocks 14 = .ok (.invokevirtual 1127, 3) := by decide +kernel
theorem dX14_blocks_17 : decode cX14_blocks 17 = .ok (.aload_n 0, 1) := by decide +kernel
theorem dX14_blocks_18 : decode cX14_blocks 18 = .ok (.getfield 1088, 3) := by decide +kernel
theorem dX14_blocks_21 : decode cX14_blocks 21 = .ok (.ireturn, 1) := by decide +kernel
theorem dX14_broken_0 : decode cX14_broken 0 = .ok (.aload_n 0, 1) := by decide +kernel
theorem dX14_broken_1 : decode cX14_broken 1 = .ok (.iload_n 1, 1) := by decide +kernel
theorem dX14_broken_2 : decode cX14_broken 2 = .ok (.putfield 296, 3) := by decide +kernel
theorem dX14_broken_5 : decode cX14_broken 5 = .ok (.aload_n 0, 1) := by decide +kernel
theorem dX14_broken_6 : decode cX14_broken 6 = .ok (.iload_n 2, 1) := by decide +kernel
theorem dX14_broken_7 : decode cX14_broken 7 = .ok (.putfield 299, 3) := by decide +kernel
theorem dX14_broken_10 : decode cX14_broken 10 = .ok (.aload_n 0, 1) := by decide +kernel
theorem dX14_broken_11 : decode cX14_broken 11 = .ok (.getfield 22, 3) := by decide +kernel
theorem dX14_broken_14 : decode cX14_broken 14 = .ok (.areturn, 1) := by decide +kernel
theorem dX14_byteAt_0 : decode cX14_byteAt 0 = .ok (.iload_n 1, 1) := by decide +kernel
theorem dX14_byteAt_1 : decode cX14_byteAt 1 = .ok (.ifCond .lt 24, 3) := by decide +kernel
theorem dX14_byteAt_4 : decode cX14_byteAt 4 = .ok (.iload_n 1, 1) := by decide +kernel
theorem dX14_byteAt_5 : decode cX14_byteAt 5 = .ok (.aload_n 0, 1) := by decide +kernel
theorem dX14_byteAt_6 : decode cX14_byteAt 6 = .ok (.getfield 958, 3) := by decide +kernel
theorem dX14_byteAt_9 : decode cX14_byteAt 9 = .ok (.if_icmp .ge 16, 3) := by decide +kernel
theorem dX14_byteAt_12 : decode cX14_byteAt 12 = .ok (.aload_n 0, 1) := by decide +kernel
theorem dX14_byteAt_13 : decode cX14_byteAt 13 = .ok (.getfield 140, 3) := by decide +kernel
theorem dX14_byteAt_16 : decode cX14_byteAt 16 = .ok (.iload_n 1, 1) := by decide +kernel
theorem dX14_byteAt_17 : decode cX14_byteAt 17 = .ok (.baload, 1) := by decide +kernel
theorem dX14_byteAt_18 : decode cX14_byteAt 18 = .ok (.sipush 255, 3) := by decide +kernel
theorem dX14_byteAt_21 : decode cX14_byteAt 21 = .ok (.iand, 1) := by decide +kernel
theorem dX14_byteAt_22 : decode cX14_byteAt 22 = .ok (.goto 4, 3) := by decide +kernel
theorem dX14_byteAt_25 : decode cX14_byteAt 25 = .ok (.iconst (-1), 1) := by decide +kernel
theorem dX14_byteAt_26 : decode cX14_byteAt 26 = .ok (.ireturn, 1) := by decide +kernel
theorem dX14_bytesOf_0 : decode cX14_bytesOf 0 = .ok (.aload_n 0, 1) := by decide +kernel
theorem dX14_bytesOf_1 : decode cX14_bytesOf 1 = .ok (.iload_n 1, 1) := by decide +kernel
theorem dX14_bytesOf_2 : decode cX14_bytesOf 2 = .ok (.invokevirtual 685, 3) := by decide +kernel
theorem dX14_bytesOf_5 : decode cX14_bytesOf 5 = .ok (.istore_n 3, 1) := by decide +kernel
theorem dX14_bytesOf_6 : decode cX14_bytesOf 6 = .ok (.aload_n 0, 1) := by decide +kernel
theorem dX14_bytesOf_7 : decode cX14_bytesOf 7 = .ok (.iload_n 1, 1) := by decide +kernel
theorem dX14_bytesOf_8 : decode cX14_bytesOf 8 = .ok (.invokevirtual 697, 3) := by decide +kernel
theorem dX14_bytesOf_11 : decode cX14_bytesOf 11 = .ok (.istore 4, 2) := by decide +kernel
theorem dX14_bytesOf_13 : decode cX14_bytesOf 13 = .ok (.iload_n 3, 1) := by decide +kernel
theorem dX14_bytesOf_14 : decode cX14_bytesOf 14 = .ok (.lookupswitch 280 #[(18, 130), (20, 183), (21, 209), (22, 209), (25, 209), (54, 209), (55, 209), (58, 209), (132, 221), (170, 239), (171, 257), (178, 276), (179, 276), (184, 276), (188, 278)], 130) := by decide +kernel
theorem dX14_bytesOf_144 : decode cX14_bytesOf 144 = .ok (.iload 4, 2) := by decide +kernel
theorem dX14_bytesOf_146 : decode cX14_bytesOf 146 = .ok (.iconst (-1), 1) := by decide +kernel
theorem dX14_bytesOf_147 : decode cX14_bytesOf 147 = .ok (.if_icmp .lt 13, 3) := by decide +kernel
theorem dX14_bytesOf_150 : decode cX14_bytesOf 150 = .ok (.iload 4, 2) := by decide +kernel
theorem dX14_bytesOf_152 : decode cX14_bytesOf 152 = .ok (.iconst 5, 1) := by decide +kernel
theorem dX14_bytesOf_153 : decode cX14_bytesOf 153 = .ok (.if_icmp .gt 7, 3) := by decide +kernel
theorem dX14_bytesOf_156 : decode cX14_bytesOf 156 = .ok (.iconst 1, 1) := by decide +kernel
theorem dX14_bytesOf_157 : decode cX14_bytesOf 157 = .ok (.goto 39, 3) := by decide +kernel
theorem dX14_bytesOf_160 : decode cX14_bytesOf 160 = .ok (.iload 4, 2) := by decide +kernel
theorem dX14_bytesOf_162 : decode cX14_bytesOf 162 = .ok (.invokestatic 900, 3) := by decide +kernel
theorem dX14_bytesOf_165 : decode cX14_bytesOf 165 = .ok (.ifCond .eq 7, 3) := by decide +kernel
theorem dX14_bytesOf_168 : decode cX14_bytesOf 168 = .ok (.iconst 2, 1) := by decide +kernel
theorem dX14_bytesOf_169 : decode cX14_bytesOf 169 = .ok (.goto 27, 3) := by decide +kernel
theorem dX14_bytesOf_172 : decode cX14_bytesOf 172 = .ok (.iload 4, 2) := by decide +kernel
theorem dX14_bytesOf_174 : decode cX14_bytesOf 174 = .ok (.invokestatic 883, 3) := by decide +kernel
theorem dX14_bytesOf_177 : decode cX14_bytesOf 177 = .ok (.ifCond .ne 14, 3) := by decide +kernel
theorem dX14_bytesOf_180 : decode cX14_bytesOf 180 = .ok (.aload_n 0, 1) := by decide +kernel
theorem dX14_bytesOf_181 : decode cX14_bytesOf 181 = .ok (.iload_n 1, 1) := by decide +kernel
theorem dX14_bytesOf_182 : decode cX14_bytesOf 182 = .ok (.invokevirtual 894, 3) := by decide +kernel
theorem dX14_bytesOf_185 : decode cX14_bytesOf 185 = .ok (.sipush 255, 3) := by decide +kernel
theorem dX14_bytesOf_188 : decode cX14_bytesOf 188 = .ok (.if_icmp .le 7, 3) := by decide +kernel
theorem dX14_bytesOf_191 : decode cX14_bytesOf 191 = .ok (.iconst 3, 1) := by decide +kernel
theorem dX14_bytesOf_192 : decode cX14_bytesOf 192 = .ok (.goto 4, 3) := by decide +kernel
theorem dX14_bytesOf_195 : decode cX14_bytesOf 195 = .ok (.iconst 2, 1) := by decide +kernel
theorem dX14_bytesOf_196 : decode cX14_bytesOf 196 = .ok (.ireturn, 1) := by decide +kernel
theorem dX14_bytesOf_197 : decode cX14_bytesOf 197 = .ok (.aload_n 0, 1) := by decide +kernel
theorem dX14_bytesOf_198 : decode cX14_bytesOf 198 = .ok (.iload_n 1, 1) := by decide +kernel
theorem dX14_bytesOf_199 : decode cX14_bytesOf 199 = .ok (.invokevirtual 886, 3) := by decide +kernel
theorem dX14_bytesOf_202 : decode cX14_bytesOf 202 = .ok (.lconst 0, 1) := by decide +kernel
theorem dX14_bytesOf_203 : decode cX14_bytesOf 203 = .ok (.lcmp, 1) := by decide +kernel
theorem dX14_bytesOf_204 : decode cX14_bytesOf 204 = .ok (.ifCond .eq 13, 3) := by decide +kernel
theorem dX14_bytesOf_207 : decode cX14_bytesOf 207 = .ok (.aload_n 0, 1) := by decide +kernel
theorem dX14_bytesOf_208 : decode cX14_bytesOf 208 = .ok (.iload_n 1, 1) := by decide +kernel
theorem dX14_bytesOf_209 : decode cX14_bytesOf 209 = .ok (.invokevirtual 886, 3) := by decide +kernel
theorem dX14_bytesOf_212 : decode cX14_bytesOf 212 = .ok (.lconst 1, 1) := by decide +kernel
theorem dX14_bytesOf_213 : decode cX14_bytesOf 213 = .ok (.lcmp, 1) := by decide +kernel
theorem dX14_bytesOf_214 : decode cX14_bytesOf 214 = .ok (.ifCond .ne 7, 3) := by decide +kernel
theorem dX14_bytesOf_217 : decode cX14_bytesOf 217 = .ok (.iconst 1, 1) := by decide +kernel
theorem dX14_bytesOf_218 : decode cX14_bytesOf 218 = .ok (.goto 4, 3) := by decide +kernel
theorem dX14_bytesOf_221 : decode cX14_bytesOf 221 = .ok (.iconst 3, 1) := by decide +kernel
theorem dX14_bytesOf_222 : decode cX14_bytesOf 222 = .ok (.ireturn, 1) := by decide +kernel
theorem dX14_bytesOf_223 : decode cX14_bytesOf 223 = .ok (.iload 4, 2) := by decide +kernel
theorem dX14_bytesOf_225 : decode cX14_bytesOf 225 = .ok (.iconst 4, 1) := by decide +kernel
theorem dX14_bytesOf_226 : decode cX14_bytesOf 226 = .ok (.if_icmp .ge 7, 3) := by decide +kernel
theorem dX14_bytesOf_229 : decode cX14_bytesOf 229 = .ok (.iconst 1, 1) := by decide +kernel
theorem dX14_bytesOf_230 : decode cX14_bytesOf 230 = .ok (.goto 4, 3) := by decide +kernel
theorem dX14_bytesOf_233 : decode cX14_bytesOf 233 = .ok (.iconst 2, 1) := by decide +kernel
theorem dX14_bytesOf_234 : decode cX14_bytesOf 234 = .ok (.ireturn, 1) := by decide +kernel
theorem dX14_bytesOf_235 : decode cX14_bytesOf 235 = .ok (.aload_n 0, 1) := by decide +kernel
theorem dX14_bytesOf_236 : decode cX14_bytesOf 236 = .ok (.iload_n 1, 1) := by decide +kernel
theorem dX14_bytesOf_237 : decode cX14_bytesOf 237 = .ok (.invokevirtual 694, 3) := by decide +kernel
theorem dX14_bytesOf_240 : decode cX14_bytesOf 240 = .ok (.invokestatic 900, 3) := by decide +kernel
theorem dX14_bytesOf_243 : decode cX14_bytesOf 243 = .ok (.ifCond .eq 7, 3) := by decide +kernel
theorem dX14_bytesOf_246 : decode cX14_bytesOf 246 = .ok (.iconst 3, 1) := by decide +kernel
theorem dX14_bytesOf_247 : decode cX14_bytesOf 247 = .ok (.goto 5, 3) := by decide +kernel
theorem dX14_bytesOf_250 : decode cX14_bytesOf 250 = .ok (.bipush 6, 2) := by decide +kernel
theorem dX14_bytesOf_252 : decode cX14_bytesOf 252 = .ok (.ireturn, 1) := by decide +kernel
theorem dX14_bytesOf_253 : decode cX14_bytesOf 253 = .ok (.iload_n 2, 1) := by decide +kernel
theorem dX14_bytesOf_254 : decode cX14_bytesOf 254 = .ok (.invokestatic 442, 3) := by decide +kernel
theorem dX14_bytesOf_257 : decode cX14_bytesOf 257 = .ok (.iload_n 2, 1) := by decide +kernel
theorem dX14_bytesOf_258 : decode cX14_bytesOf 258 = .ok (.isub, 1) := by decide +kernel
theorem dX14_bytesOf_259 : decode cX14_bytesOf 259 = .ok (.bipush 12, 2) := by decide +kernel
theorem dX14_bytesOf_261 : decode cX14_bytesOf 261 = .ok (.iadd, 1) := by decide +kernel
theorem dX14_bytesOf_262 : decode cX14_bytesOf 262 = .ok (.iconst 4, 1) := by decide +kernel
theorem dX14_bytesOf_263 : decode cX14_bytesOf 263 = .ok (.aload_n 0, 1) := by decide +kernel
theorem dX14_bytesOf_264 : decode cX14_bytesOf 264 = .ok (.iload_n 1, 1) := by decide +kernel
theorem dX14_bytesOf_265 : decode cX14_bytesOf 265 = .ok (.invokevirtual 694, 3) := by decide +kernel
theorem dX14_bytesOf_268 : decode cX14_bytesOf 268 = .ok (.imul, 1) := by decide +kernel
theorem dX14_bytesOf_269 : decode cX14_bytesOf 269 = .ok (.iadd, 1) := by decide +kernel
theorem dX14_bytesOf_270 : decode cX14_bytesOf 270 = .ok (.ireturn, 1) := by decide +kernel
theorem dX14_bytesOf_271 : decode cX14_bytesOf 271 = .ok (.iload_n 2, 1) := by decide +kernel
theorem dX14_bytesOf_272 : decode cX14_bytesOf 272 = .ok (.invokestatic 442, 3) := by decide +kernel
theorem dX14_bytesOf_275 : decode cX14_bytesOf 275 = .ok (.iload_n 2, 1) := by decide +kernel
theorem dX14_bytesOf_276 : decode cX14_bytesOf 276 = .ok (.isub, 1) := by decide +kernel
theorem dX14_bytesOf_277 : decode cX14_bytesOf 277 = .ok (.bipush 8, 2) := by decide +kernel
theorem dX14_bytesOf_279 : decode cX14_bytesOf 279 = .ok (.iadd, 1) := by decide +kernel
theorem dX14_bytesOf_280 : decode cX14_bytesOf 280 = .ok (.bipush 8, 2) := by decide +kernel
theorem dX14_bytesOf_282 : decode cX14_bytesOf 282 = .ok (.aload_n 0, 1) := by decide +kernel
theorem dX14_bytesOf_283 : decode cX14_bytesOf 283 = .ok (.iload_n 1, 1) := by decide +kernel
theorem dX14_bytesOf_284 : decode cX14_bytesOf 284 = .ok (.invokevirtual 694, 3) := by decide +kernel
theorem dX14_bytesOf_287 : decode cX14_bytesOf 287 = .ok (.imul, 1) := by decide +kernel
theorem dX14_bytesOf_288 : decode cX14_bytesOf 288 = .ok (.iadd, 1) := by decide +kernel
theorem dX14_bytesOf_289 : decode cX14_bytesOf 289 = .ok (.ireturn, 1) := by decide +kernel
theorem dX14_bytesOf_290 : decode cX14_bytesOf 290 = .ok (.iconst 3, 1) := by decide +kernel
theorem dX14_bytesOf_291 : decode cX14_bytesOf 291 = .ok (.ireturn, 1) := by decide +kernel
theorem dX14_bytesOf_292 : decode cX14_bytesOf 292 = .ok (.iconst 2, 1) := by decide +kernel
theorem dX14_bytesOf_293 : decode cX14_bytesOf 293 = .ok (.ireturn, 1) := by decide +kernel
theorem dX14_bytesOf_294 : decode cX14_bytesOf 294 = .ok (.iload_n 3, 1) := by decide +kernel
theorem dX14_bytesOf_295 : decode cX14_bytesOf 295 = .ok (.invokestatic 688, 3) := by decide +kernel
theorem dX14_bytesOf_298 : decode cX14_bytesOf 298 = .ok (.ifCond .eq 7, 3) := by decide +kernel
theorem dX14_bytesOf_301 : decode cX14_bytesOf 301 = .ok (.iconst 3, 1) := by decide +kernel
theorem dX14_bytesOf_302 : decode cX14_bytesOf 302 = .ok (.goto 4, 3) := by decide +kernel
theorem dX14_bytesOf_305 : decode cX14_bytesOf 305 = .ok (.iconst 1, 1) := by decide +kernel
theorem dX14_bytesOf_306 : decode cX14_bytesOf 306 = .ok (.ireturn, 1) := by decide +kernel
theorem dX14_called_0 : decode cX14_called 0 = .ok (.aload_n 0, 1) := by decide +kernel
theorem dX14_called_1 : decode cX14_called 1 = .ok (.getfield 974, 3) := by decide +kernel
theorem dX14_called_4 : decode cX14_called 4 = .ok (.bipush 60, 2) := by decide +kernel
theorem dX14_called_6 : decode cX14_called 6 = .ok (.if_icmp .ne 9, 3) := by decide +kernel
theorem dX14_called_9 : decode cX14_called 9 = .ok (.aload_n 0, 1) := by decide +kernel
theorem dX14_called_10 : decode cX14_called 10 = .ok (.iconst 3, 1) := by decide +kernel
theorem dX14_called_11 : decode cX14_called 11 = .ok (.putfield 977, 3) := by decide +kernel
theorem dX14_called_14 : decode cX14_called 14 = .ok (.return_, 1) := by decide +kernel
theorem dX14_called_15 : decode cX14_called 15 = .ok (.aload_n 0, 1) := by decide +kernel
theorem dX14_called_16 : decode cX14_called 16 = .ok (.getfield 961, 3) := by decide +kernel
theorem dX14_called_19 : decode cX14_called 19 = .ok (.getfield 619, 3) := by decide +kernel
theorem dX14_called_22 : decode cX14_called 22 = .ok (.iload_n 1, 1) := by decide +kernel
theorem dX14_called_23 : decode cX14_called 23 = .ok (.aaload, 1) := by decide +kernel
theorem dX14_called_24 : decode cX14_called 24 = .ok (.astore_n 2, 1) := by decide +kernel
theorem dX14_called_25 : decode cX14_called 25 = .ok (.aload_n 0, 1) := by decide +kernel
theorem dX14_called_26 : decode cX14_called 26 = .ok (.iconst 0, 1) := by decide +kernel
theorem dX14_called_27 : decode cX14_called 27 = .ok (.invokevirtual 1034, 3) := by decide +kernel
theorem dX14_called_30 : decode cX14_called 30 = .ok (.aload_n 0, 1) := by decide +kernel
theorem dX14_called_31 : decode cX14_called 31 = .ok (.getfield 167, 3) := by decide +kernel
theorem dX14_called_34 : decode cX14_called 34 = .ok (.aload_n 0, 1) := by decide +kernel
theorem dX14_called_35 : decode cX14_called 35 = .ok (.getfield 974, 3) := by decide +kernel
theorem dX14_called_38 : decode cX14_called 38 = .ok (.iconst 1, 1) := by decide +kernel
theorem dX14_called_39 : decode cX14_called 39 = .ok (.isub, 1) := by decide +kernel
theorem dX14_called_40 : decode cX14_called 40 = .ok (.iaload, 1) := by decide +kernel
theorem dX14_called_41 : decode cX14_called 41 = .ok (.iadd, 1) := by decide +kernel
theorem dX14_called_42 : decode cX14_called 42 = .ok (.aload_n 2, 1) := by decide +kernel
theorem dX14_called_43 : decode cX14_called 43 = .ok (.invokestatic 731, 3) := by decide +kernel
theorem dX14_called_46 : decode cX14_called 46 = .ok (.isub, 1) := by decide +kernel
theorem dX14_called_47 : decode cX14_called 47 = .ok (.istore_n 3, 1) := by decide +kernel
theorem dX14_called_48 : decode cX14_called 48 = .ok (.iload_n 3, 1) := by decide +kernel
theorem dX14_called_49 : decode cX14_called 49 = .ok (.bipush 24, 2) := by decide +kernel
theorem dX14_called_51 : decode cX14_called 51 = .ok (.aload_n 0, 1) := by decide +kernel
theorem dX14_called_52 : decode cX14_called 52 = .ok (.getfield 974, 3) := by decide +kernel
theorem dX14_called_55 : decode cX14_called 55 = .ok (.iconst 1, 1) := by decide +kernel
theorem dX14_called_56 : decode cX14_called 56 = .ok (.isub, 1) := by decide +kernel
theorem dX14_called_57 : decode cX14_called 57 = .ok (.imul, 1) := by decide +kernel
theorem dX14_called_58 : decode cX14_called 58 = .ok (.isub, 1) := by decide +kernel
theorem dX14_called_59 : decode cX14_called 59 = .ok (.istore 4, 2) := by decide +kernel
theorem dX14_called_61 : decode cX14_called 61 = .ok (.aload_n 0, 1) := by decide +kernel
theorem dX14_called_62 : decode cX14_called 62 = .ok (.getfield 167, 3) := by decide +kernel
theorem dX14_called_65 : decode cX14_called 65 = .ok (.aload_n 0, 1) := by decide +kernel
theorem dX14_called_66 : decode cX14_called 66 = .ok (.getfield 974, 3) := by decide +kernel
theorem dX14_called_69 : decode cX14_called 69 = .ok (.iconst 1, 1) := by decide +kernel
theorem dX14_called_70 : decode cX14_called 70 = .ok (.isub, 1) := by decide +kernel
theorem dX14_called_71 : decode cX14_called 71 = .ok (.iload 4, 2) := by decide +kernel
theorem dX14_called_73 : decode cX14_called 73 = .ok (.iastore, 1) := by decide +kernel
theorem dX14_called_74 : decode cX14_called 74 = .ok (.aload_n 0, 1) := by decide +kernel
theorem dX14_called_75 : decode cX14_called 75 = .ok (.iload_n 1, 1) := by decide +kernel
theorem dX14_called_76 : decode cX14_called 76 = .ok (.invokevirtual 986, 3) := by decide +kernel
theorem dX14_called_79 : decode cX14_called 79 = .ok (.aload_n 2, 1) := by decide +kernel
theorem dX14_called_80 : decode cX14_called 80 = .ok (.invokestatic 731, 3) := by decide +kernel
theorem dX14_called_83 : decode cX14_called 83 = .ok (.istore 5, 2) := by decide +kernel
theorem dX14_called_85 : decode cX14_called 85 = .ok (.iconst 0, 1) := by decide +kernel
theorem dX14_called_86 : decode cX14_called 86 = .ok (.istore 6, 2) := by decide +kernel
theorem dX14_called_88 : decode cX14_called 88 = .ok (.iload 6, 2) := by decide +kernel
theorem dX14_called_90 : decode cX14_called 90 = .ok (.iload 5, 2) := by decide +kernel
theorem dX14_called_92 : decode cX14_called 92 = .ok (.if_icmp .ge 49, 3) := by decide +kernel
theorem dX14_called_95 : decode cX14_called 95 = .ok (.aload_n 0, 1) := by decide +kernel
theorem dX14_called_96 : decode cX14_called 96 = .ok (.getfield 170, 3) := by decide +kernel
theorem dX14_called_99 : decode cX14_called 99 = .ok (.aload_n 0, 1) := by decide +kernel
theorem dX14_called_100 : decode cX14_called 100 = .ok (.iload 6, 2) := by decide +kernel
theorem dX14_called_102 : decode cX14_called 102 = .ok (.invokevirtual 1034, 3) := by decide +kernel
theorem dX14_called_105 : decode cX14_called 105 = .ok (.aload_n 0, 1) := by decide +kernel
theorem dX14_called_106 : decode cX14_called 106 = .ok (.getfield 173, 3) := by decide +kernel
theorem dX14_called_109 : decode cX14_called 109 = .ok (.iload_n 3, 1) := by decide +kernel
theorem dX14_called_110 : decode cX14_called 110 = .ok (.iload 6, 2) := by decide +kernel
theorem dX14_called_112 : decode cX14_called 112 = .ok (.iadd, 1) := by decide +kernel
theorem dX14_called_113 : decode cX14_called 113 = .ok (.laload, 1) := by decide +kernel
theorem dX14_called_114 : decode cX14_called 114 = .ok (.lastore, 1) := by decide +kernel
theorem dX14_called_115 : decode cX14_called 115 = .ok (.aload_n 0, 1) := by decide +kernel
theorem dX14_called_116 : decode cX14_called 116 = .ok (.getfield 176, 3) := by decide +kernel
theorem dX14_called_119 : decode cX14_called 119 = .ok (.aload_n 0, 1) := by decide +kernel
theorem dX14_called_120 : decode cX14_called 120 = .ok (.iload 6, 2) := by decide +kernel
theorem dX14_called_122 : decode cX14_called 122 = .ok (.invokevirtual 1034, 3) := by decide +kernel
theorem dX14_called_125 : decode cX14_called 125 = .ok (.aload_n 0, 1) := by decide +kernel
theorem dX14_called_126 : decode cX14_called 126 = .ok (.getfield 179, 3) := by decide +kernel
theorem dX14_called_129 : decode cX14_called 129 = .ok (.iload_n 3, 1) := by decide +kernel
theorem dX14_called_130 : decode cX14_called 130 = .ok (.iload 6, 2) := by decide +kernel
theorem dX14_called_132 : decode cX14_called 132 = .ok (.iadd, 1) := by decide +kernel
theorem dX14_called_133 : decode cX14_called 133 = .ok (.baload, 1) := by decide +kernel
theorem dX14_called_134 : decode cX14_called 134 = .ok (.bastore, 1) := by decide +kernel
theorem dX14_called_135 : decode cX14_called 135 = .ok (.iinc 6 1, 3) := by decide +kernel
theorem dX14_called_138 : decode cX14_called 138 = .ok (.goto (-50), 3) := by decide +kernel
theorem dX14_called_141 : decode cX14_called 141 = .ok (.return_, 1) := by decide +kernel
theorem dX14_catchWord_0 : decode cX14_catchWord 0 = .ok (.aload_n 0, 1) := by decide +kernel
theorem dX14_catchWord_1 : decode cX14_catchWord 1 = .ok (.getfield 669, 3) := by decide +kernel
theorem dX14_catchWord_4 : decode cX14_catchWord 4 = .ok (.iconst 4, 1) := by decide +kernel
theorem dX14_catchWord_5 : decode cX14_catchWord 5 = .ok (.aload_n 0, 1) := by decide +kernel
theorem dX14_catchWord_6 : decode cX14_catchWord 6 = .ok (.getfield 676, 3) := by decide +kernel
theorem dX14_catchWord_9 : decode cX14_catchWord 9 = .ok (.iload_n 1, 1) := by decide +kernel
theorem dX14_catchWord_10 : decode cX14_catchWord 10 = .ok (.iadd, 1) := by decide +kernel
theorem dX14_catchWord_11 : decode cX14_catchWord 11 = .ok (.imul, 1) := by decide +kernel
theorem dX14_catchWord_12 : decode cX14_catchWord 12 = .ok (.iload_n 2, 1) := by decide +kernel
theorem dX14_catchWord_13 : decode cX14_catchWord 13 = .ok (.iadd, 1) := by decide +kernel
theorem dX14_catchWord_14 : decode cX14_catchWord 14 = .ok (.iaload, 1) := by decide +kernel
theorem dX14_catchWord_15 : decode cX14_catchWord 15 = .ok (.ireturn, 1) := by decide +kernel
theorem dX14_caught_0 : decode cX14_caught 0 = .ok (.aload_n 0, 1) := by decide +kernel
theorem dX14_caught_1 : decode cX14_caught 1 = .ok (.iload_n 1, 1) := by decide +kernel
theorem dX14_caught_2 : decode cX14_caught 2 = .ok (.invokevirtual 316, 3) := by decide +kernel
theorem dX14_caught_5 : decode cX14_caught 5 = .ok (.istore_n 2, 1) := by decide +kernel
theorem dX14_caught_6 : decode cX14_caught 6 = .ok (.aload_n 0, 1) := by decide +kernel
theorem dX14_caught_7 : decode cX14_caught 7 = .ok (.iload_n 1, 1) := by decide +kernel
theorem dX14_caught_8 : decode cX14_caught 8 = .ok (.iconst 2, 1) := by decide +kernel
theorem dX14_caught_9 : decode cX14_caught 9 = .ok (.iadd, 1) := by decide +kernel
theorem dX14_caught_10 : decode cX14_caught 10 = .ok (.invokevirtual 316, 3) := by decide +kernel
theorem dX14_caught_13 : decode cX14_caught 13 = .ok (.istore_n 3, 1) := by decide +kernel
theorem dX14_caught_14 : decode cX14_caught 14 = .ok (.aload_n 0, 1) := by decide +kernel
theorem dX14_caught_15 : decode cX14_caught 15 = .ok (.iload_n 1, 1) := by decide +kernel
theorem dX14_caught_16 : decode cX14_caught 16 = .ok (.iconst 4, 1) := by decide +kernel
theorem dX14_caught_17 : decode cX14_caught 17 = .ok (.iadd, 1) := by decide +kernel
theorem dX14_caught_18 : decode cX14_caught 18 = .ok (.invokevirtual 316, 3) := by decide +kernel
theorem dX14_caught_21 : decode cX14_caught 21 = .ok (.istore 4, 2) := by decide +kernel
theorem dX14_caught_23 : decode cX14_caught 23 = .ok (.aload_n 0, 1) := by decide +kernel
theorem dX14_caught_24 : decode cX14_caught 24 = .ok (.iload_n 1, 1) := by decide +kernel
theorem dX14_caught_25 : decode cX14_caught 25 = .ok (.bipush 6, 2) := by decide +kernel
theorem dX14_caught_27 : decode cX14_caught 27 = .ok (.iadd, 1) := by decide +kernel
theorem dX14_caught_28 : decode cX14_caught 28 = .ok (.invokevirtual 316, 3) := by decide +kernel
theorem dX14_caught_31 : decode cX14_caught 31 = .ok (.istore 5, 2) := by decide +kernel
theorem dX14_caught_33 : decode cX14_caught 33 = .ok (.aload_n 0, 1) := by decide +kernel
theorem dX14_caught_34 : decode cX14_caught 34 = .ok (.aload_n 0, 1) := by decide +kernel
theorem dX14_caught_35 : decode cX14_caught 35 = .ok (.iload_n 2, 1) := by decide +kernel
theorem dX14_caught_36 : decode cX14_caught 36 = .ok (.invokevirtual 462, 3) := by decide +kernel
theorem dX14_caught_39 : decode cX14_caught 39 = .ok (.ifCond .eq 37, 3) := by decide +kernel
theorem dX14_caught_42 : decode cX14_caught 42 = .ok (.iload_n 3, 1) := by decide +kernel
theorem dX14_caught_43 : decode cX14_caught 43 = .ok (.aload_n 0, 1) := by decide +kernel
theorem dX14_caught_44 : decode cX14_caught 44 = .ok (.getfield 436, 3) := by decide +kernel
theorem dX14_caught_47 : decode cX14_caught 47 = .ok (.if_icmp .eq 11, 3) := by decide +kernel
theorem dX14_caught_50 : decode cX14_caught 50 = .ok (.aload_n 0, 1) := by decide +kernel
theorem dX14_caught_51 : decode cX14_caught 51 = .ok (.iload_n 3, 1) := by decide +kernel
theorem dX14_caught_52 : decode cX14_caught 52 = .ok (.invokevirtual 462, 3) := by decide +kernel
theorem dX14_caught_55 : decode cX14_caught 55 = .ok (.ifCond .eq 21, 3) := by decide +kernel
theorem dX14_caught_58 : decode cX14_caught 58 = .ok (.aload_n 0, 1) := by decide +kernel
theorem dX14_caught_59 : decode cX14_caught 59 = .ok (.iload 4, 2) := by decide +kernel
theorem dX14_caught_61 : decode cX14_caught 61 = .ok (.invokevirtual 462, 3) := by decide +kernel
theorem dX14_caught_64 : decode cX14_caught 64 = .ok (.ifCond .eq 12, 3) := by decide +kernel
theorem dX14_caught_67 : decode cX14_caught 67 = .ok (.iload_n 2, 1) := by decide +kernel
theorem dX14_caught_68 : decode cX14_caught 68 = .ok (.iload_n 3, 1) := by decide +kernel
theorem dX14_caught_69 : decode cX14_caught 69 = .ok (.if_icmp .ge 7, 3) := by decide +kernel
theorem dX14_caught_72 : decode cX14_caught 72 = .ok (.iconst 1, 1) := by decide +kernel
theorem dX14_caught_73 : decode cX14_caught 73 = .ok (.goto 4, 3) := by decide +kernel
theorem dX14_caught_76 : decode cX14_caught 76 = .ok (.iconst 0, 1) := by decide +kernel
theorem dX14_caught_77 : decode cX14_caught 77 = .ok (.bipush 16, 2) := by decide +kernel
theorem dX14_caught_79 : decode cX14_caught 79 = .ok (.iload_n 1, 1) := by decide +kernel
theorem dX14_caught_80 : decode cX14_caught 80 = .ok (.invokevirtual 325, 3) := by decide +kernel
theorem dX14_caught_83 : decode cX14_caught 83 = .ok (.iconst (-1), 1) := by decide +kernel
theorem dX14_caught_84 : decode cX14_caught 84 = .ok (.istore 6, 2) := by decide +kernel
theorem dX14_caught_86 : decode cX14_caught 86 = .ok (.iload 5, 2) := by decide +kernel
theorem dX14_caught_88 : decode cX14_caught 88 = .ok (.ifCond .le 73, 3) := by decide +kernel
theorem dX14_caught_91 : decode cX14_caught 91 = .ok (.aload_n 0, 1) := by decide +kernel
theorem dX14_caught_92 : decode cX14_caught 92 = .ok (.aload_n 0, 1) := by decide +kernel
theorem dX14_caught_93 : decode cX14_caught 93 = .ok (.iload 5, 2) := by decide +kernel
theorem dX14_caught_95 : decode cX14_caught 95 = .ok (.bipush 7, 2) := by decide +kernel
theorem dX14_caught_97 : decode cX14_caught 97 = .ok (.invokevirtual 380, 3) := by decide +kernel
theorem dX14_caught_100 : decode cX14_caught 100 = .ok (.bipush 16, 2) := by decide +kernel
theorem dX14_caught_102 : decode cX14_caught 102 = .ok (.iload_n 1, 1) := by decide +kernel
theorem dX14_caught_103 : decode cX14_caught 103 = .ok (.invokevirtual 325, 3) := by decide +kernel
theorem dX14_caught_106 : decode cX14_caught 106 = .ok (.iconst 0, 1) := by decide +kernel
theorem dX14_caught_107 : decode cX14_caught 107 = .ok (.istore 7, 2) := by decide +kernel
theorem dX14_caught_109 : decode cX14_caught 109 = .ok (.iload 7, 2) := by decide +kernel
theorem dX14_caught_111 : decode cX14_caught 111 = .ok (.iconst 4, 1) := by decide +kernel
theorem dX14_caught_112 : decode cX14_caught 112 = .ok (.if_icmp .ge 32, 3) := by decide +kernel
theorem dX14_caught_115 : decode cX14_caught 115 = .ok (.aload_n 0, 1) := by decide +kernel
theorem dX14_caught_116 : decode cX14_caught 116 = .ok (.aload_n 0, 1) := by decide +kernel
theorem dX14_caught_117 : decode cX14_caught 117 = .ok (.getfield 37, 3) := by decide +kernel
theorem dX14_caught_120 : decode cX14_caught 120 = .ok (.iload 5, 2) := by decide +kernel
theorem dX14_caught_122 : decode cX14_caught 122 = .ok (.iaload, 1) := by decide +kernel
theorem dX14_caught_123 : decode cX14_caught 123 = .ok (.iload 7, 2) := by decide +kernel
theorem dX14_caught_125 : decode cX14_caught 125 = .ok (.invokestatic 528, 3) := by decide +kernel
theorem dX14_caught_128 : decode cX14_caught 128 = .ok (.invokevirtual 414, 3) := by decide +kernel
theorem dX14_caught_131 : decode cX14_caught 131 = .ok (.ifCond .eq 7, 3) := by decide +kernel
theorem dX14_caught_134 : decode cX14_caught 134 = .ok (.iload 7, 2) := by decide +kernel
theorem dX14_caught_136 : decode cX14_caught 136 = .ok (.istore 6, 2) := by decide +kernel
theorem dX14_caught_138 : decode cX14_caught 138 = .ok (.iinc 7 1, 3) := by decide +kernel
theorem dX14_caught_141 : decode cX14_caught 141 = .ok (.goto (-32), 3) := by decide +kernel
theorem dX14_caught_144 : decode cX14_caught 144 = .ok (.aload_n 0, 1) := by decide +kernel
theorem dX14_caught_145 : decode cX14_caught 145 = .ok (.iload 6, 2) := by decide +kernel
theorem dX14_caught_147 : decode cX14_caught 147 = .ok (.ifCond .lt 7, 3) := by decide +kernel
theorem dX14_caught_150 : decode cX14_caught 150 = .ok (.iconst 1, 1) := by decide +kernel
theorem dX14_caught_151 : decode cX14_caught 151 = .ok (.goto 4, 3) := by decide +kernel
theorem dX14_caught_154 : decode cX14_caught 154 = .ok (.iconst 0, 1) := by decide +kernel
theorem dX14_caught_155 : decode cX14_caught 155 = .ok (.bipush 16, 2) := by decide +kernel
theorem dX14_caught_157 : decode cX14_caught 157 = .ok (.iload_n 1, 1) := by decide +kernel
theorem dX14_caught_158 : decode cX14_caught 158 = .ok (.invokevirtual 325, 3) := by decide +kernel
theorem dX14_caught_161 : decode cX14_caught 161 = .ok (.aload_n 0, 1) := by decide +kernel
theorem dX14_caught_162 : decode cX14_caught 162 = .ok (.getfield 85, 3) := by decide +kernel
theorem dX14_caught_165 : decode cX14_caught 165 = .ok (.iconst 4, 1) := by decide +kernel
theorem dX14_caught_166 : decode cX14_caught 166 = .ok (.aload_n 0, 1) := by decide +kernel
theorem dX14_caught_167 : decode cX14_caught 167 = .ok (.getfield 516, 3) := by decide +kernel
theorem dX14_caught_170 : decode cX14_caught 170 = .ok (.imul, 1) := by decide +kernel
theorem dX14_caught_171 : decode cX14_caught 171 = .ok (.aload_n 0, 1) := by decide +kernel
theorem dX14_caught_172 : decode cX14_caught 172 = .ok (.getfield 74, 3) := by decide +kernel
theorem dX14_caught_175 : decode cX14_caught 175 = .ok (.iload_n 2, 1) := by decide +kernel
theorem dX14_caught_176 : decode cX14_caught 176 = .ok (.iaload, 1) := by decide +kernel
theorem dX14_caught_177 : decode cX14_caught 177 = .ok (.iastore, 1) := by decide +kernel
theorem dX14_caught_178 : decode cX14_caught 178 = .ok (.aload_n 0, 1) := by decide +kernel
theorem dX14_caught_179 : decode cX14_caught 179 = .ok (.getfield 85, 3) := by decide +kernel
theorem dX14_caught_182 : decode cX14_caught 182 = .ok (.iconst 4, 1) := by decide +kernel
theorem dX14_caught_183 : decode cX14_caught 183 = .ok (.aload_n 0, 1) := by decide +kernel
theorem dX14_caught_184 : decode cX14_caught 184 = .ok (.getfield 516, 3) := by decide +kernel
theorem dX14_caught_187 : decode cX14_caught 187 = .ok (.imul, 1) := by decide +kernel
theorem dX14_caught_188 : decode cX14_caught 188 = .ok (.iconst 1, 1) := by decide +kernel
theorem dX14_caught_189 : decode cX14_caught 189 = .ok (.iadd, 1) := by decide +kernel
theorem dX14_caught_190 : decode cX14_caught 190 = .ok (.aload_n 0, 1) := by decide +kernel
theorem dX14_caught_191 : decode cX14_caught 191 = .ok (.getfield 74, 3) := by decide +kernel
theorem dX14_caught_194 : decode cX14_caught 194 = .ok (.iload_n 3, 1) := by decide +kernel
theorem dX14_caught_195 : decode cX14_caught 195 = .ok (.iaload, 1) := by decide +kernel
theorem dX14_caught_196 : decode cX14_caught 196 = .ok (.iastore, 1) := by decide +kernel
theorem dX14_caught_197 : decode cX14_caught 197 = .ok (.aload_n 0, 1) := by decide +kernel
theorem dX14_caught_198 : decode cX14_caught 198 = .ok (.getfield 85, 3) := by decide +kernel
theorem dX14_caught_201 : decode cX14_caught 201 = .ok (.iconst 4, 1) := by decide +kernel
theorem dX14_caught_202 : decode cX14_caught 202 = .ok (.aload_n 0, 1) := by decide +kernel
theorem dX14_caught_203 : decode cX14_caught 203 = .ok (.getfield 516, 3) := by decide +kernel
theorem dX14_caught_206 : decode cX14_caught 206 = .ok (.imul, 1) := by decide +kernel
theorem dX14_caught_207 : decode cX14_caught 207 = .ok (.iconst 2, 1) := by decide +kernel
theorem dX14_caught_208 : decode cX14_caught 208 = .ok (.iadd, 1) := by decide +kernel
theorem dX14_caught_209 : decode cX14_caught 209 = .ok (.aload_n 0, 1) := by decide +kernel
theorem dX14_caught_210 : decode cX14_caught 210 = .ok (.getfield 74, 3) := by decide +kernel
theorem dX14_caught_213 : decode cX14_caught 213 = .ok (.iload 4, 2) := by decide +kernel
theorem dX14_caught_215 : decode cX14_caught 215 = .ok (.iaload, 1) := by decide +kernel
theorem dX14_caught_216 : decode cX14_caught 216 = .ok (.iastore, 1) := by decide +kernel
theorem dX14_caught_217 : decode cX14_caught 217 = .ok (.aload_n 0, 1) := by decide +kernel
theorem dX14_caught_218 : decode cX14_caught 218 = .ok (.getfield 85, 3) := by decide +kernel
theorem dX14_caught_221 : decode cX14_caught 221 = .ok (.iconst 4, 1) := by decide +kernel
theorem dX14_caught_222 : decode cX14_caught 222 = .ok (.aload_n 0, 1) := by decide +kernel
theorem dX14_caught_223 : decode cX14_caught 223 = .ok (.getfield 516, 3) := by decide +kernel
theorem dX14_caught_226 : decode cX14_caught 226 = .ok (.imul, 1) := by decide +kernel
theorem dX14_caught_227 : decode cX14_caught 227 = .ok (.iconst 3, 1) := by decide +kernel
theorem dX14_caught_228 : decode cX14_caught 228 = .ok (.iadd, 1) := by decide +kernel
theorem dX14_caught_229 : decode cX14_caught 229 = .ok (.iload 6, 2) := by decide +kernel
theorem dX14_caught_231 : decode cX14_caught 231 = .ok (.iastore, 1) := by decide +kernel
theorem dX14_caught_232 : decode cX14_caught 232 = .ok (.aload_n 0, 1) := by decide +kernel
theorem dX14_caught_233 : decode cX14_caught 233 = .ok (.dup, 1) := by decide +kernel
theorem dX14_caught_234 : decode cX14_caught 234 = .ok (.getfield 516, 3) := by decide +kernel
theorem dX14_caught_237 : decode cX14_caught 237 = .ok (.iconst 1, 1) := by decide +kernel
theorem dX14_caught_238 : decode cX14_caught 238 = .ok (.iadd, 1) := by decide +kernel
theorem dX14_caught_239 : decode cX14_caught 239 = .ok (.putfield 516, 3) := by decide +kernel
theorem dX14_caught_242 : decode cX14_caught 242 = .ok (.return_, 1) := by decide +kernel
theorem dX14_chosen_0 : decode cX14_chosen 0 = .ok (.iconst 0, 1) := by decide +kernel
theorem dX14_chosen_1 : decode cX14_chosen 1 = .ok (.istore_n 3, 1) := by decide +kernel
theorem dX14_chosen_2 : decode cX14_chosen 2 = .ok (.iload_n 3, 1) := by decide +kernel
theorem dX14_chosen_3 : decode cX14_chosen 3 = .ok (.aload_n 0, 1) := by decide +kernel
theorem dX14_chosen_4 : decode cX14_chosen 4 = .ok (.iload_n 1, 1) := by decide +kernel
theorem dX14_chosen_5 : decode cX14_chosen 5 = .ok (.invokevirtual 694, 3) := by decide +kernel
theorem dX14_chosen_8 : decode cX14_chosen 8 = .ok (.if_icmp .ge 46, 3) := by decide +kernel
theorem dX14_chosen_11 : decode cX14_chosen 11 = .ok (.aload_n 0, 1) := by decide +kernel
theorem dX14_chosen_12 : decode cX14_chosen 12 = .ok (.getfield 668, 3) := by decide +kernel
theorem dX14_chosen_15 : decode cX14_chosen 15 = .ok (.aload_n 0, 1) := by decide +kernel
theorem dX14_chosen_16 : decode cX14_chosen 16 = .ok (.iload_n 1, 1) := by decide +kernel
theorem dX14_chosen_17 : decode cX14_chosen 17 = .ok (.invokevirtual 697, 3) := by decide +kernel
theorem dX14_chosen_20 : decode cX14_chosen 20 = .ok (.iconst 1, 1) := by decide +kernel
theorem dX14_chosen_21 : decode cX14_chosen 21 = .ok (.iadd, 1) := by decide +kernel
theorem dX14_chosen_22 : decode cX14_chosen 22 = .ok (.iconst 2, 1) := by decide +kernel

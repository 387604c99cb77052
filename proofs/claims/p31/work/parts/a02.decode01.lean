theorem dJ0_charAt_5068e_0 : decode cJ0_charAt_5068e 0 = .ok (.aload_n 0, 1) := by decide +kernel
theorem dJ0_charAt_5068e_1 : decode cJ0_charAt_5068e 1 = .ok (.invokevirtual 492, 3) := by decide +kernel
theorem dJ0_charAt_5068e_4 : decode cJ0_charAt_5068e 4 = .ok (.ifCond .eq 12, 3) := by decide +kernel
theorem dJ0_charAt_5068e_7 : decode cJ0_charAt_5068e 7 = .ok (.aload_n 0, 1) := by decide +kernel
theorem dJ0_charAt_5068e_8 : decode cJ0_charAt_5068e 8 = .ok (.getfield 9, 3) := by decide +kernel
theorem dJ0_charAt_5068e_11 : decode cJ0_charAt_5068e 11 = .ok (.iload_n 1, 1) := by decide +kernel
theorem dJ0_charAt_5068e_12 : decode cJ0_charAt_5068e 12 = .ok (.invokestatic 495, 3) := by decide +kernel
theorem dJ0_charAt_5068e_15 : decode cJ0_charAt_5068e 15 = .ok (.ireturn, 1) := by decide +kernel
theorem dJ0_checkIndex_df160_0 : decode cJ0_checkIndex_df160 0 = .ok (.iload_n 0, 1) := by decide +kernel
theorem dJ0_checkIndex_df160_1 : decode cJ0_checkIndex_df160 1 = .ok (.iload_n 1, 1) := by decide +kernel
theorem dJ0_checkIndex_df160_2 : decode cJ0_checkIndex_df160 2 = .ok (.getstatic 1053, 3) := by decide +kernel
theorem dJ0_checkIndex_df160_5 : decode cJ0_checkIndex_df160 5 = .ok (.invokestatic 1059, 3) := by decide +kernel
theorem dJ0_checkIndex_df160_8 : decode cJ0_checkIndex_df160 8 = .ok (.pop, 1) := by decide +kernel
theorem dJ0_checkIndex_df160_9 : decode cJ0_checkIndex_df160 9 = .ok (.return_, 1) := by decide +kernel
theorem dJ0_coder_7d493_0 : decode cJ0_coder_7d493 0 = .ok (.getstatic 38, 3) := by decide +kernel
theorem dJ0_coder_7d493_3 : decode cJ0_coder_7d493 3 = .ok (.ifCond .eq 10, 3) := by decide +kernel
theorem dJ0_coder_7d493_6 : decode cJ0_coder_7d493 6 = .ok (.aload_n 0, 1) := by decide +kernel
theorem dJ0_coder_7d493_7 : decode cJ0_coder_7d493 7 = .ok (.getfield 15, 3) := by decide +kernel
theorem dJ0_coder_7d493_10 : decode cJ0_coder_7d493 10 = .ok (.goto 4, 3) := by decide +kernel
theorem dJ0_coder_7d493_14 : decode cJ0_coder_7d493 14 = .ok (.ireturn, 1) := by decide +kernel
theorem dJ0_isLatin1_aae02_0 : decode cJ0_isLatin1_aae02 0 = .ok (.getstatic 38, 3) := by decide +kernel
theorem dJ0_isLatin1_aae02_3 : decode cJ0_isLatin1_aae02 3 = .ok (.ifCond .eq 14, 3) := by decide +kernel
theorem dJ0_isLatin1_aae02_6 : decode cJ0_isLatin1_aae02 6 = .ok (.aload_n 0, 1) := by decide +kernel
theorem dJ0_isLatin1_aae02_7 : decode cJ0_isLatin1_aae02 7 = .ok (.getfield 15, 3) := by decide +kernel
theorem dJ0_isLatin1_aae02_10 : decode cJ0_isLatin1_aae02 10 = .ok (.ifCond .ne 7, 3) := by decide +kernel
theorem dJ0_isLatin1_aae02_13 : decode cJ0_isLatin1_aae02 13 = .ok (.iconst 1, 1) := by decide +kernel
theorem dJ0_isLatin1_aae02_14 : decode cJ0_isLatin1_aae02 14 = .ok (.goto 4, 3) := by decide +kernel
theorem dJ0_isLatin1_aae02_18 : decode cJ0_isLatin1_aae02 18 = .ok (.ireturn, 1) := by decide +kernel
theorem dJ0_length_8abf5_0 : decode cJ0_length_8abf5 0 = .ok (.aload_n 0, 1) := by decide +kernel
theorem dJ0_length_8abf5_1 : decode cJ0_length_8abf5 1 = .ok (.getfield 9, 3) := by decide +kernel
theorem dJ0_length_8abf5_4 : decode cJ0_length_8abf5 4 = .ok (.arraylength, 1) := by decide +kernel
theorem dJ0_length_8abf5_5 : decode cJ0_length_8abf5 5 = .ok (.aload_n 0, 1) := by decide +kernel
theorem dJ0_length_8abf5_6 : decode cJ0_length_8abf5 6 = .ok (.invokevirtual 335, 3) := by decide +kernel
theorem dJ0_length_8abf5_9 : decode cJ0_length_8abf5 9 = .ok (.ishr, 1) := by decide +kernel
theorem dJ0_length_8abf5_10 : decode cJ0_length_8abf5 10 = .ok (.ireturn, 1) := by decide +kernel
theorem dJ13_bitCount_95d88_0 : decode cJ13_bitCount_95d88 0 = .ok (.lload_n 0, 1) := by decide +kernel
theorem dJ13_bitCount_95d88_1 : decode cJ13_bitCount_95d88 1 = .ok (.lload_n 0, 1) := by decide +kernel
theorem dJ13_bitCount_95d88_2 : decode cJ13_bitCount_95d88 2 = .ok (.iconst 1, 1) := by decide +kernel
theorem dJ13_bitCount_95d88_3 : decode cJ13_bitCount_95d88 3 = .ok (.lushr, 1) := by decide +kernel
theorem dJ13_bitCount_95d88_4 : decode cJ13_bitCount_95d88 4 = .ok (.ldc2_w 314, 3) := by decide +kernel
theorem dJ13_bitCount_95d88_7 : decode cJ13_bitCount_95d88 7 = .ok (.land, 1) := by decide +kernel
theorem dJ13_bitCount_95d88_8 : decode cJ13_bitCount_95d88 8 = .ok (.lsub, 1) := by decide +kernel
theorem dJ13_bitCount_95d88_9 : decode cJ13_bitCount_95d88 9 = .ok (.lstore_n 0, 1) := by decide +kernel
theorem dJ13_bitCount_95d88_10 : decode cJ13_bitCount_95d88 10 = .ok (.lload_n 0, 1) := by decide +kernel
theorem dJ13_bitCount_95d88_11 : decode cJ13_bitCount_95d88 11 = .ok (.ldc2_w 316, 3) := by decide +kernel
theorem dJ13_bitCount_95d88_14 : decode cJ13_bitCount_95d88 14 = .ok (.land, 1) := by decide +kernel
theorem dJ13_bitCount_95d88_15 : decode cJ13_bitCount_95d88 15 = .ok (.lload_n 0, 1) := by decide +kernel
theorem dJ13_bitCount_95d88_16 : decode cJ13_bitCount_95d88 16 = .ok (.iconst 2, 1) := by decide +kernel
theorem dJ13_bitCount_95d88_17 : decode cJ13_bitCount_95d88 17 = .ok (.lushr, 1) := by decide +kernel
theorem dJ13_bitCount_95d88_18 : decode cJ13_bitCount_95d88 18 = .ok (.ldc2_w 316, 3) := by decide +kernel
theorem dJ13_bitCount_95d88_21 : decode cJ13_bitCount_95d88 21 = .ok (.land, 1) := by decide +kernel
theorem dJ13_bitCount_95d88_22 : decode cJ13_bitCount_95d88 22 = .ok (.ladd, 1) := by decide +kernel
theorem dJ13_bitCount_95d88_23 : decode cJ13_bitCount_95d88 23 = .ok (.lstore_n 0, 1) := by decide +kernel
theorem dJ13_bitCount_95d88_24 : decode cJ13_bitCount_95d88 24 = .ok (.lload_n 0, 1) := by decide +kernel
theorem dJ13_bitCount_95d88_25 : decode cJ13_bitCount_95d88 25 = .ok (.lload_n 0, 1) := by decide +kernel
theorem dJ13_bitCount_95d88_26 : decode cJ13_bitCount_95d88 26 = .ok (.iconst 4, 1) := by decide +kernel
theorem dJ13_bitCount_95d88_27 : decode cJ13_bitCount_95d88 27 = .ok (.lushr, 1) := by decide +kernel
theorem dJ13_bitCount_95d88_28 : decode cJ13_bitCount_95d88 28 = .ok (.ladd, 1) := by decide +kernel
theorem dJ13_bitCount_95d88_29 : decode cJ13_bitCount_95d88 29 = .ok (.ldc2_w 318, 3) := by decide +kernel
theorem dJ13_bitCount_95d88_32 : decode cJ13_bitCount_95d88 32 = .ok (.land, 1) := by decide +kernel
theorem dJ13_bitCount_95d88_33 : decode cJ13_bitCount_95d88 33 = .ok (.lstore_n 0, 1) := by decide +kernel
theorem dJ13_bitCount_95d88_34 : decode cJ13_bitCount_95d88 34 = .ok (.lload_n 0, 1) := by decide +kernel
theorem dJ13_bitCount_95d88_35 : decode cJ13_bitCount_95d88 35 = .ok (.lload_n 0, 1) := by decide +kernel
theorem dJ13_bitCount_95d88_36 : decode cJ13_bitCount_95d88 36 = .ok (.bipush 8, 2) := by decide +kernel
theorem dJ13_bitCount_95d88_38 : decode cJ13_bitCount_95d88 38 = .ok (.lushr, 1) := by decide +kernel
theorem dJ13_bitCount_95d88_39 : decode cJ13_bitCount_95d88 39 = .ok (.ladd, 1) := by decide +kernel
theorem dJ13_bitCount_95d88_40 : decode cJ13_bitCount_95d88 40 = .ok (.lstore_n 0, 1) := by decide +kernel
theorem dJ13_bitCount_95d88_41 : decode cJ13_bitCount_95d88 41 = .ok (.lload_n 0, 1) := by decide +kernel
theorem dJ13_bitCount_95d88_42 : decode cJ13_bitCount_95d88 42 = .ok (.lload_n 0, 1) := by decide +kernel
theorem dJ13_bitCount_95d88_43 : decode cJ13_bitCount_95d88 43 = .ok (.bipush 16, 2) := by decide +kernel
theorem dJ13_bitCount_95d88_45 : decode cJ13_bitCount_95d88 45 = .ok (.lushr, 1) := by decide +kernel
theorem dJ13_bitCount_95d88_46 : decode cJ13_bitCount_95d88 46 = .ok (.ladd, 1) := by decide +kernel
theorem dJ13_bitCount_95d88_47 : decode cJ13_bitCount_95d88 47 = .ok (.lstore_n 0, 1) := by decide +kernel
theorem dJ13_bitCount_95d88_48 : decode cJ13_bitCount_95d88 48 = .ok (.lload_n 0, 1) := by decide +kernel
theorem dJ13_bitCount_95d88_49 : decode cJ13_bitCount_95d88 49 = .ok (.lload_n 0, 1) := by decide +kernel
theorem dJ13_bitCount_95d88_50 : decode cJ13_bitCount_95d88 50 = .ok (.bipush 32, 2) := by decide +kernel
theorem dJ13_bitCount_95d88_52 : decode cJ13_bitCount_95d88 52 = .ok (.lushr, 1) := by decide +kernel
theorem dJ13_bitCount_95d88_53 : decode cJ13_bitCount_95d88 53 = .ok (.ladd, 1) := by decide +kernel
theorem dJ13_bitCount_95d88_54 : decode cJ13_bitCount_95d88 54 = .ok (.lstore_n 0, 1) := by decide +kernel
theorem dJ13_bitCount_95d88_55 : decode cJ13_bitCount_95d88 55 = .ok (.lload_n 0, 1) := by decide +kernel
theorem dJ13_bitCount_95d88_56 : decode cJ13_bitCount_95d88 56 = .ok (.l2i, 1) := by decide +kernel
theorem dJ13_bitCount_95d88_57 : decode cJ13_bitCount_95d88 57 = .ok (.bipush 127, 2) := by decide +kernel
theorem dJ13_bitCount_95d88_59 : decode cJ13_bitCount_95d88 59 = .ok (.iand, 1) := by decide +kernel
theorem dJ13_bitCount_95d88_60 : decode cJ13_bitCount_95d88 60 = .ok (.ireturn, 1) := by decide +kernel
theorem dJ13_compare_74951_0 : decode cJ13_compare_74951 0 = .ok (.lload_n 0, 1) := by decide +kernel
theorem dJ13_compare_74951_1 : decode cJ13_compare_74951 1 = .ok (.lload_n 2, 1) := by decide +kernel
theorem dJ13_compare_74951_2 : decode cJ13_compare_74951 2 = .ok (.lcmp, 1) := by decide +kernel
theorem dJ13_compare_74951_3 : decode cJ13_compare_74951 3 = .ok (.ifCond .ge 7, 3) := by decide +kernel
theorem dJ13_compare_74951_6 : decode cJ13_compare_74951 6 = .ok (.iconst (-1), 1) := by decide +kernel
theorem dJ13_compare_74951_7 : decode cJ13_compare_74951 7 = .ok (.goto 14, 3) := by decide +kernel
theorem dJ13_compare_74951_10 : decode cJ13_compare_74951 10 = .ok (.lload_n 0, 1) := by decide +kernel
theorem dJ13_compare_74951_11 : decode cJ13_compare_74951 11 = .ok (.lload_n 2, 1) := by decide +kernel
theorem dJ13_compare_74951_12 : decode cJ13_compare_74951 12 = .ok (.lcmp, 1) := by decide +kernel
theorem dJ13_compare_74951_13 : decode cJ13_compare_74951 13 = .ok (.ifCond .ne 7, 3) := by decide +kernel
theorem dJ13_compare_74951_16 : decode cJ13_compare_74951 16 = .ok (.iconst 0, 1) := by decide +kernel
theorem dJ13_compare_74951_17 : decode cJ13_compare_74951 17 = .ok (.goto 4, 3) := by decide +kernel
theorem dJ13_compare_74951_20 : decode cJ13_compare_74951 20 = .ok (.iconst 1, 1) := by decide +kernel
theorem dJ13_compare_74951_21 : decode cJ13_compare_74951 21 = .ok (.ireturn, 1) := by decide +kernel
theorem dJ1_charAt_3b067_0 : decode cJ1_charAt_3b067 0 = .ok (.iload_n 1, 1) := by decide +kernel
theorem dJ1_charAt_3b067_1 : decode cJ1_charAt_3b067 1 = .ok (.aload_n 0, 1) := by decide +kernel
theorem dJ1_charAt_3b067_2 : decode cJ1_charAt_3b067 2 = .ok (.arraylength, 1) := by decide +kernel
theorem dJ1_charAt_3b067_3 : decode cJ1_charAt_3b067 3 = .ok (.invokestatic 9, 3) := by decide +kernel
theorem dJ1_charAt_3b067_6 : decode cJ1_charAt_3b067 6 = .ok (.aload_n 0, 1) := by decide +kernel
theorem dJ1_charAt_3b067_7 : decode cJ1_charAt_3b067 7 = .ok (.iload_n 1, 1) := by decide +kernel
theorem dJ1_charAt_3b067_8 : decode cJ1_charAt_3b067 8 = .ok (.baload, 1) := by decide +kernel
theorem dJ1_charAt_3b067_9 : decode cJ1_charAt_3b067 9 = .ok (.sipush 255, 3) := by decide +kernel
theorem dJ1_charAt_3b067_12 : decode cJ1_charAt_3b067 12 = .ok (.iand, 1) := by decide +kernel
theorem dJ1_charAt_3b067_13 : decode cJ1_charAt_3b067 13 = .ok (.i2c, 1) := by decide +kernel
theorem dJ1_charAt_3b067_14 : decode cJ1_charAt_3b067 14 = .ok (.ireturn, 1) := by decide +kernel
theorem dJ3_checkIndex_8e157_0 : decode cJ3_checkIndex_8e157 0 = .ok (.iload_n 0, 1) := by decide +kernel
theorem dJ3_checkIndex_8e157_1 : decode cJ3_checkIndex_8e157 1 = .ok (.ifCond .lt 8, 3) := by decide +kernel
theorem dJ3_checkIndex_8e157_4 : decode cJ3_checkIndex_8e157 4 = .ok (.iload_n 0, 1) := by decide +kernel
theorem dJ3_checkIndex_8e157_5 : decode cJ3_checkIndex_8e157 5 = .ok (.iload_n 1, 1) := by decide +kernel
theorem dJ3_checkIndex_8e157_6 : decode cJ3_checkIndex_8e157 6 = .ok (.if_icmp .lt 10, 3) := by decide +kernel
theorem dJ3_checkIndex_8e157_16 : decode cJ3_checkIndex_8e157 16 = .ok (.iload_n 0, 1) := by decide +kernel
theorem dJ3_checkIndex_8e157_17 : decode cJ3_checkIndex_8e157 17 = .ok (.ireturn, 1) := by decide +kernel
theorem dJ6_bitCount_0f7a4_0 : decode cJ6_bitCount_0f7a4 0 = .ok (.iload_n 0, 1) := by decide +kernel
theorem dJ6_bitCount_0f7a4_1 : decode cJ6_bitCount_0f7a4 1 = .ok (.iload_n 0, 1) := by decide +kernel
theorem dJ6_bitCount_0f7a4_2 : decode cJ6_bitCount_0f7a4 2 = .ok (.iconst 1, 1) := by decide +kernel
theorem dJ6_bitCount_0f7a4_3 : decode cJ6_bitCount_0f7a4 3 = .ok (.iushr, 1) := by decide +kernel
theorem dJ6_bitCount_0f7a4_4 : decode cJ6_bitCount_0f7a4 4 = .ok (.ldc_w 265, 3) := by decide +kernel
theorem dJ6_bitCount_0f7a4_7 : decode cJ6_bitCount_0f7a4 7 = .ok (.iand, 1) := by decide +kernel
theorem dJ6_bitCount_0f7a4_8 : decode cJ6_bitCount_0f7a4 8 = .ok (.isub, 1) := by decide +kernel
theorem dJ6_bitCount_0f7a4_9 : decode cJ6_bitCount_0f7a4 9 = .ok (.istore_n 0, 1) := by decide +kernel
theorem dJ6_bitCount_0f7a4_10 : decode cJ6_bitCount_0f7a4 10 = .ok (.iload_n 0, 1) := by decide +kernel
theorem dJ6_bitCount_0f7a4_11 : decode cJ6_bitCount_0f7a4 11 = .ok (.ldc_w 266, 3) := by decide +kernel
theorem dJ6_bitCount_0f7a4_14 : decode cJ6_bitCount_0f7a4 14 = .ok (.iand, 1) := by decide +kernel
theorem dJ6_bitCount_0f7a4_15 : decode cJ6_bitCount_0f7a4 15 = .ok (.iload_n 0, 1) := by decide +kernel
theorem dJ6_bitCount_0f7a4_16 : decode cJ6_bitCount_0f7a4 16 = .ok (.iconst 2, 1) := by decide +kernel
theorem dJ6_bitCount_0f7a4_17 : decode cJ6_bitCount_0f7a4 17 = .ok (.iushr, 1) := by decide +kernel
theorem dJ6_bitCount_0f7a4_18 : decode cJ6_bitCount_0f7a4 18 = .ok (.ldc_w 266, 3) := by decide +kernel
theorem dJ6_bitCount_0f7a4_21 : decode cJ6_bitCount_0f7a4 21 = .ok (.iand, 1) := by decide +kernel
theorem dJ6_bitCount_0f7a4_22 : decode cJ6_bitCount_0f7a4 22 = .ok (.iadd, 1) := by decide +kernel
theorem dJ6_bitCount_0f7a4_23 : decode cJ6_bitCount_0f7a4 23 = .ok (.istore_n 0, 1) := by decide +kernel
theorem dJ6_bitCount_0f7a4_24 : decode cJ6_bitCount_0f7a4 24 = .ok (.iload_n 0, 1) := by decide +kernel
theorem dJ6_bitCount_0f7a4_25 : decode cJ6_bitCount_0f7a4 25 = .ok (.iload_n 0, 1) := by decide +kernel
theorem dJ6_bitCount_0f7a4_26 : decode cJ6_bitCount_0f7a4 26 = .ok (.iconst 4, 1) := by decide +kernel
theorem dJ6_bitCount_0f7a4_27 : decode cJ6_bitCount_0f7a4 27 = .ok (.iushr, 1) := by decide +kernel
theorem dJ6_bitCount_0f7a4_28 : decode cJ6_bitCount_0f7a4 28 = .ok (.iadd, 1) := by decide +kernel
theorem dJ6_bitCount_0f7a4_29 : decode cJ6_bitCount_0f7a4 29 = .ok (.ldc_w 267, 3) := by decide +kernel
theorem dJ6_bitCount_0f7a4_32 : decode cJ6_bitCount_0f7a4 32 = .ok (.iand, 1) := by decide +kernel
theorem dJ6_bitCount_0f7a4_33 : decode cJ6_bitCount_0f7a4 33 = .ok (.istore_n 0, 1) := by decide +kernel
theorem dJ6_bitCount_0f7a4_34 : decode cJ6_bitCount_0f7a4 34 = .ok (.iload_n 0, 1) := by decide +kernel
theorem dJ6_bitCount_0f7a4_35 : decode cJ6_bitCount_0f7a4 35 = .ok (.iload_n 0, 1) := by decide +kernel
theorem dJ6_bitCount_0f7a4_36 : decode cJ6_bitCount_0f7a4 36 = .ok (.bipush 8, 2) := by decide +kernel
theorem dJ6_bitCount_0f7a4_38 : decode cJ6_bitCount_0f7a4 38 = .ok (.iushr, 1) := by decide +kernel
theorem dJ6_bitCount_0f7a4_39 : decode cJ6_bitCount_0f7a4 39 = .ok (.iadd, 1) := by decide +kernel
theorem dJ6_bitCount_0f7a4_40 : decode cJ6_bitCount_0f7a4 40 = .ok (.istore_n 0, 1) := by decide +kernel
theorem dJ6_bitCount_0f7a4_41 : decode cJ6_bitCount_0f7a4 41 = .ok (.iload_n 0, 1) := by decide +kernel
theorem dJ6_bitCount_0f7a4_42 : decode cJ6_bitCount_0f7a4 42 = .ok (.iload_n 0, 1) := by decide +kernel
theorem dJ6_bitCount_0f7a4_43 : decode cJ6_bitCount_0f7a4 43 = .ok (.bipush 16, 2) := by decide +kernel
theorem dJ6_bitCount_0f7a4_45 : decode cJ6_bitCount_0f7a4 45 = .ok (.iushr, 1) := by decide +kernel
theorem dJ6_bitCount_0f7a4_46 : decode cJ6_bitCount_0f7a4 46 = .ok (.iadd, 1) := by decide +kernel
theorem dJ6_bitCount_0f7a4_47 : decode cJ6_bitCount_0f7a4 47 = .ok (.istore_n 0, 1) := by decide +kernel
theorem dJ6_bitCount_0f7a4_48 : decode cJ6_bitCount_0f7a4 48 = .ok (.iload_n 0, 1) := by decide +kernel
theorem dJ6_bitCount_0f7a4_49 : decode cJ6_bitCount_0f7a4 49 = .ok (.bipush 63, 2) := by decide +kernel
theorem dJ6_bitCount_0f7a4_51 : decode cJ6_bitCount_0f7a4 51 = .ok (.iand, 1) := by decide +kernel
theorem dJ6_bitCount_0f7a4_52 : decode cJ6_bitCount_0f7a4 52 = .ok (.ireturn, 1) := by decide +kernel
theorem dJ6_numberOfTrailingZeros_0f7a4_0 : decode cJ6_numberOfTrailingZeros_0f7a4 0 = .ok (.iload_n 0, 1) := by decide +kernel
theorem dJ6_numberOfTrailingZeros_0f7a4_1 : decode cJ6_numberOfTrailingZeros_0f7a4 1 = .ok (.iconst (-1), 1) := by decide +kernel
theorem dJ6_numberOfTrailingZeros_0f7a4_2 : decode cJ6_numberOfTrailingZeros_0f7a4 2 = .ok (.ixor, 1) := by decide +kernel
theorem dJ6_numberOfTrailingZeros_0f7a4_3 : decode cJ6_numberOfTrailingZeros_0f7a4 3 = .ok (.iload_n 0, 1) := by decide +kernel
theorem dJ6_numberOfTrailingZeros_0f7a4_4 : decode cJ6_numberOfTrailingZeros_0f7a4 4 = .ok (.iconst 1, 1) := by decide +kernel
theorem dJ6_numberOfTrailingZeros_0f7a4_5 : decode cJ6_numberOfTrailingZeros_0f7a4 5 = .ok (.isub, 1) := by decide +kernel
theorem dJ6_numberOfTrailingZeros_0f7a4_6 : decode cJ6_numberOfTrailingZeros_0f7a4 6 = .ok (.iand, 1) := by decide +kernel
theorem dJ6_numberOfTrailingZeros_0f7a4_7 : decode cJ6_numberOfTrailingZeros_0f7a4 7 = .ok (.istore_n 0, 1) := by decide +kernel
theorem dJ6_numberOfTrailingZeros_0f7a4_8 : decode cJ6_numberOfTrailingZeros_0f7a4 8 = .ok (.iload_n 0, 1) := by decide +kernel
theorem dJ6_numberOfTrailingZeros_0f7a4_9 : decode cJ6_numberOfTrailingZeros_0f7a4 9 = .ok (.ifCond .gt 8, 3) := by decide +kernel
theorem dJ6_numberOfTrailingZeros_0f7a4_12 : decode cJ6_numberOfTrailingZeros_0f7a4 12 = .ok (.iload_n 0, 1) := by decide +kernel
theorem dJ6_numberOfTrailingZeros_0f7a4_13 : decode cJ6_numberOfTrailingZeros_0f7a4 13 = .ok (.bipush 32, 2) := by decide +kernel
theorem dJ6_numberOfTrailingZeros_0f7a4_15 : decode cJ6_numberOfTrailingZeros_0f7a4 15 = .ok (.iand, 1) := by decide +kernel
theorem dJ6_numberOfTrailingZeros_0f7a4_16 : decode cJ6_numberOfTrailingZeros_0f7a4 16 = .ok (.ireturn, 1) := by decide +kernel
theorem dJ6_numberOfTrailingZeros_0f7a4_17 : decode cJ6_numberOfTrailingZeros_0f7a4 17 = .ok (.iconst 1, 1) := by decide +kernel
theorem dJ6_numberOfTrailingZeros_0f7a4_18 : decode cJ6_numberOfTrailingZeros_0f7a4 18 = .ok (.istore_n 1, 1) := by decide +kernel
theorem dJ6_numberOfTrailingZeros_0f7a4_19 : decode cJ6_numberOfTrailingZeros_0f7a4 19 = .ok (.iload_n 0, 1) := by decide +kernel
theorem dJ6_numberOfTrailingZeros_0f7a4_20 : decode cJ6_numberOfTrailingZeros_0f7a4 20 = .ok (.ldc_w 264, 3) := by decide +kernel
theorem dJ6_numberOfTrailingZeros_0f7a4_23 : decode cJ6_numberOfTrailingZeros_0f7a4 23 = .ok (.if_icmp .le 11, 3) := by decide +kernel
theorem dJ6_numberOfTrailingZeros_0f7a4_26 : decode cJ6_numberOfTrailingZeros_0f7a4 26 = .ok (.iinc 1 16, 3) := by decide +kernel
theorem dJ6_numberOfTrailingZeros_0f7a4_29 : decode cJ6_numberOfTrailingZeros_0f7a4 29 = .ok (.iload_n 0, 1) := by decide +kernel
theorem dJ6_numberOfTrailingZeros_0f7a4_30 : decode cJ6_numberOfTrailingZeros_0f7a4 30 = .ok (.bipush 16, 2) := by decide +kernel
theorem dJ6_numberOfTrailingZeros_0f7a4_32 : decode cJ6_numberOfTrailingZeros_0f7a4 32 = .ok (.iushr, 1) := by decide +kernel
theorem dJ6_numberOfTrailingZeros_0f7a4_33 : decode cJ6_numberOfTrailingZeros_0f7a4 33 = .ok (.istore_n 0, 1) := by decide +kernel
theorem dJ6_numberOfTrailingZeros_0f7a4_34 : decode cJ6_numberOfTrailingZeros_0f7a4 34 = .ok (.iload_n 0, 1) := by decide +kernel
theorem dJ6_numberOfTrailingZeros_0f7a4_35 : decode cJ6_numberOfTrailingZeros_0f7a4 35 = .ok (.sipush 256, 3) := by decide +kernel
theorem dJ6_numberOfTrailingZeros_0f7a4_38 : decode cJ6_numberOfTrailingZeros_0f7a4 38 = .ok (.if_icmp .le 11, 3) := by decide +kernel
theorem dJ6_numberOfTrailingZeros_0f7a4_41 : decode cJ6_numberOfTrailingZeros_0f7a4 41 = .ok (.iinc 1 8, 3) := by decide +kernel
theorem dJ6_numberOfTrailingZeros_0f7a4_44 : decode cJ6_numberOfTrailingZeros_0f7a4 44 = .ok (.iload_n 0, 1) := by decide +kernel
theorem dJ6_numberOfTrailingZeros_0f7a4_45 : decode cJ6_numberOfTrailingZeros_0f7a4 45 = .ok (.bipush 8, 2) := by decide +kernel
theorem dJ6_numberOfTrailingZeros_0f7a4_47 : decode cJ6_numberOfTrailingZeros_0f7a4 47 = .ok (.iushr, 1) := by decide +kernel
theorem dJ6_numberOfTrailingZeros_0f7a4_48 : decode cJ6_numberOfTrailingZeros_0f7a4 48 = .ok (.istore_n 0, 1) := by decide +kernel
theorem dJ6_numberOfTrailingZeros_0f7a4_49 : decode cJ6_numberOfTrailingZeros_0f7a4 49 = .ok (.iload_n 0, 1) := by decide +kernel
theorem dJ6_numberOfTrailingZeros_0f7a4_50 : decode cJ6_numberOfTrailingZeros_0f7a4 50 = .ok (.bipush 16, 2) := by decide +kernel
theorem dJ6_numberOfTrailingZeros_0f7a4_52 : decode cJ6_numberOfTrailingZeros_0f7a4 52 = .ok (.if_icmp .le 10, 3) := by decide +kernel
theorem dJ6_numberOfTrailingZeros_0f7a4_55 : decode cJ6_numberOfTrailingZeros_0f7a4 55 = .ok (.iinc 1 4, 3) := by decide +kernel
theorem dJ6_numberOfTrailingZeros_0f7a4_58 : decode cJ6_numberOfTrailingZeros_0f7a4 58 = .ok (.iload_n 0, 1) := by decide +kernel
theorem dJ6_numberOfTrailingZeros_0f7a4_59 : decode cJ6_numberOfTrailingZeros_0f7a4 59 = .ok (.iconst 4, 1) := by decide +kernel
theorem dJ6_numberOfTrailingZeros_0f7a4_60 : decode cJ6_numberOfTrailingZeros_0f7a4 60 = .ok (.iushr, 1) := by decide +kernel
theorem dJ6_numberOfTrailingZeros_0f7a4_61 : decode cJ6_numberOfTrailingZeros_0f7a4 61 = .ok (.istore_n 0, 1) := by decide +kernel
theorem dJ6_numberOfTrailingZeros_0f7a4_62 : decode cJ6_numberOfTrailingZeros_0f7a4 62 = .ok (.iload_n 0, 1) := by decide +kernel
theorem dJ6_numberOfTrailingZeros_0f7a4_63 : decode cJ6_numberOfTrailingZeros_0f7a4 63 = .ok (.iconst 4, 1) := by decide +kernel
theorem dJ6_numberOfTrailingZeros_0f7a4_64 : decode cJ6_numberOfTrailingZeros_0f7a4 64 = .ok (.if_icmp .le 10, 3) := by decide +kernel
theorem dJ6_numberOfTrailingZeros_0f7a4_67 : decode cJ6_numberOfTrailingZeros_0f7a4 67 = .ok (.iinc 1 2, 3) := by decide +kernel
theorem dJ6_numberOfTrailingZeros_0f7a4_70 : decode cJ6_numberOfTrailingZeros_0f7a4 70 = .ok (.iload_n 0, 1) := by decide +kernel
theorem dJ6_numberOfTrailingZeros_0f7a4_71 : decode cJ6_numberOfTrailingZeros_0f7a4 71 = .ok (.iconst 2, 1) := by decide +kernel
theorem dJ6_numberOfTrailingZeros_0f7a4_72 : decode cJ6_numberOfTrailingZeros_0f7a4 72 = .ok (.iushr, 1) := by decide +kernel
theorem dJ6_numberOfTrailingZeros_0f7a4_73 : decode cJ6_numberOfTrailingZeros_0f7a4 73 = .ok (.istore_n 0, 1) := by decide +kernel
theorem dJ6_numberOfTrailingZeros_0f7a4_74 : decode cJ6_numberOfTrailingZeros_0f7a4 74 = .ok (.iload_n 1, 1) := by decide +kernel
theorem dJ6_numberOfTrailingZeros_0f7a4_75 : decode cJ6_numberOfTrailingZeros_0f7a4 75 = .ok (.iload_n 0, 1) := by decide +kernel
theorem dJ6_numberOfTrailingZeros_0f7a4_76 : decode cJ6_numberOfTrailingZeros_0f7a4 76 = .ok (.iconst 1, 1) := by decide +kernel
theorem dJ6_numberOfTrailingZeros_0f7a4_77 : decode cJ6_numberOfTrailingZeros_0f7a4 77 = .ok (.iushr, 1) := by decide +kernel
theorem dJ6_numberOfTrailingZeros_0f7a4_78 : decode cJ6_numberOfTrailingZeros_0f7a4 78 = .ok (.iadd, 1) := by decide +kernel
theorem dJ6_numberOfTrailingZeros_0f7a4_79 : decode cJ6_numberOfTrailingZeros_0f7a4 79 = .ok (.ireturn, 1) := by decide +kernel
theorem dJ7_copyOf_59c91_0 : decode cJ7_copyOf_59c91 0 = .ok (.iload_n 1, 1) := by decide +kernel
theorem dJ7_copyOf_59c91_1 : decode cJ7_copyOf_59c91 1 = .ok (.aload_n 0, 1) := by decide +kernel
theorem dJ7_copyOf_59c91_2 : decode cJ7_copyOf_59c91 2 = .ok (.arraylength, 1) := by decide +kernel
theorem dJ7_copyOf_59c91_3 : decode cJ7_copyOf_59c91 3 = .ok (.if_icmp .ne 11, 3) := by decide +kernel
theorem dJ7_copyOf_59c91_14 : decode cJ7_copyOf_59c91 14 = .ok (.iload_n 1, 1) := by decide +kernel
theorem dJ7_copyOf_59c91_15 : decode cJ7_copyOf_59c91 15 = .ok (.newarray .int, 2) := by decide +kernel
theorem dJ7_copyOf_59c91_17 : decode cJ7_copyOf_59c91 17 = .ok (.astore_n 2, 1) := by decide +kernel
theorem dJ7_copyOf_59c91_18 : decode cJ7_copyOf_59c91 18 = .ok (.aload_n 0, 1) := by decide +kernel
theorem dJ7_copyOf_59c91_19 : decode cJ7_copyOf_59c91 19 = .ok (.iconst 0, 1) := by decide +kernel
theorem dJ7_copyOf_59c91_20 : decode cJ7_copyOf_59c91 20 = .ok (.aload_n 2, 1) := by decide +kernel
theorem dJ7_copyOf_59c91_21 : decode cJ7_copyOf_59c91 21 = .ok (.iconst 0, 1) := by decide +kernel
theorem dJ7_copyOf_59c91_22 : decode cJ7_copyOf_59c91 22 = .ok (.aload_n 0, 1) := by decide +kernel
theorem dJ7_copyOf_59c91_23 : decode cJ7_copyOf_59c91 23 = .ok (.arraylength, 1) := by decide +kernel
theorem dJ7_copyOf_59c91_24 : decode cJ7_copyOf_59c91 24 = .ok (.iload_n 1, 1) := by decide +kernel
theorem dJ7_copyOf_59c91_25 : decode cJ7_copyOf_59c91 25 = .ok (.invokestatic 304, 3) := by decide +kernel
theorem dJ7_copyOf_59c91_28 : decode cJ7_copyOf_59c91 28 = .ok (.invokestatic 150, 3) := by decide +kernel
theorem dJ7_copyOf_59c91_31 : decode cJ7_copyOf_59c91 31 = .ok (.aload_n 2, 1) := by decide +kernel
theorem dJ7_copyOf_59c91_32 : decode cJ7_copyOf_59c91 32 = .ok (.areturn, 1) := by decide +kernel
theorem dJ7_copyOf_9075b_0 : decode cJ7_copyOf_9075b 0 = .ok (.iload_n 1, 1) := by decide +kernel
theorem dJ7_copyOf_9075b_1 : decode cJ7_copyOf_9075b 1 = .ok (.aload_n 0, 1) := by decide +kernel
theorem dJ7_copyOf_9075b_2 : decode cJ7_copyOf_9075b 2 = .ok (.arraylength, 1) := by decide +kernel
theorem dJ7_copyOf_9075b_3 : decode cJ7_copyOf_9075b 3 = .ok (.if_icmp .ne 11, 3) := by decide +kernel
theorem dJ7_copyOf_9075b_6 : decode cJ7_copyOf_9075b 6 = .ok (.aload_n 0, 1) := by decide +kernel
theorem dJ7_copyOf_9075b_7 : decode cJ7_copyOf_9075b 7 = .ok (.invokevirtual 310, 3) := by decide +kernel
theorem dJ7_copyOf_9075b_10 : decode cJ7_copyOf_9075b 10 = .ok (.checkcast 311, 3) := by decide +kernel
theorem dJ7_copyOf_9075b_13 : decode cJ7_copyOf_9075b 13 = .ok (.areturn, 1) := by decide +kernel
theorem dJ7_copyOf_9075b_14 : decode cJ7_copyOf_9075b 14 = .ok (.iload_n 1, 1) := by decide +kernel
theorem dJ7_copyOf_9075b_15 : decode cJ7_copyOf_9075b 15 = .ok (.newarray .byte, 2) := by decide +kernel
theorem dJ7_copyOf_9075b_17 : decode cJ7_copyOf_9075b 17 = .ok (.astore_n 2, 1) := by decide +kernel
theorem dJ7_copyOf_9075b_18 : decode cJ7_copyOf_9075b 18 = .ok (.aload_n 0, 1) := by decide +kernel
theorem dJ7_copyOf_9075b_19 : decode cJ7_copyOf_9075b 19 = .ok (.iconst 0, 1) := by decide +kernel
theorem dJ7_copyOf_9075b_20 : decode cJ7_copyOf_9075b 20 = .ok (.aload_n 2, 1) := by decide +kernel
theorem dJ7_copyOf_9075b_21 : decode cJ7_copyOf_9075b 21 = .ok (.iconst 0, 1) := by decide +kernel
theorem dJ7_copyOf_9075b_22 : decode cJ7_copyOf_9075b 22 = .ok (.aload_n 0, 1) := by decide +kernel
theorem dJ7_copyOf_9075b_23 : decode cJ7_copyOf_9075b 23 = .ok (.arraylength, 1) := by decide +kernel
theorem dJ7_copyOf_9075b_24 : decode cJ7_copyOf_9075b 24 = .ok (.iload_n 1, 1) := by decide +kernel
theorem dJ7_copyOf_9075b_25 : decode cJ7_copyOf_9075b 25 = .ok (.invokestatic 304, 3) := by decide +kernel
theorem dJ7_copyOf_9075b_28 : decode cJ7_copyOf_9075b 28 = .ok (.invokestatic 150, 3) := by decide +kernel
theorem dJ7_copyOf_9075b_31 : decode cJ7_copyOf_9075b 31 = .ok (.aload_n 2, 1) := by decide +kernel
theorem dJ7_copyOf_9075b_32 : decode cJ7_copyOf_9075b 32 = .ok (.areturn, 1) := by decide +kernel
theorem dJ7_fill_53178_0 : decode cJ7_fill_53178 0 = .ok (.iconst 0, 1) := by decide +kernel
theorem dJ7_fill_53178_1 : decode cJ7_fill_53178 1 = .ok (.istore_n 2, 1) := by decide +kernel
theorem dJ7_fill_53178_2 : decode cJ7_fill_53178 2 = .ok (.aload_n 0, 1) := by decide +kernel
theorem dJ7_fill_53178_3 : decode cJ7_fill_53178 3 = .ok (.arraylength, 1) := by decide +kernel
theorem dJ7_fill_53178_4 : decode cJ7_fill_53178 4 = .ok (.istore_n 3, 1) := by decide +kernel
theorem dJ7_fill_53178_5 : decode cJ7_fill_53178 5 = .ok (.iload_n 2, 1) := by decide +kernel
theorem dJ7_fill_53178_6 : decode cJ7_fill_53178 6 = .ok (.iload_n 3, 1) := by decide +kernel
theorem dJ7_fill_53178_7 : decode cJ7_fill_53178 7 = .ok (.if_icmp .ge 13, 3) := by decide +kernel
theorem dJ7_fill_53178_10 : decode cJ7_fill_53178 10 = .ok (.aload_n 0, 1) := by decide +kernel
theorem dJ7_fill_53178_11 : decode cJ7_fill_53178 11 = .ok (.iload_n 2, 1) := by decide +kernel
theorem dJ7_fill_53178_12 : decode cJ7_fill_53178 12 = .ok (.iload_n 1, 1) := by decide +kernel
theorem dJ7_fill_53178_13 : decode cJ7_fill_53178 13 = .ok (.iastore, 1) := by decide +kernel
theorem dJ7_fill_53178_14 : decode cJ7_fill_53178 14 = .ok (.iinc 2 1, 3) := by decide +kernel
theorem dJ7_fill_53178_17 : decode cJ7_fill_53178 17 = .ok (.goto (-12), 3) := by decide +kernel
theorem dJ7_fill_53178_20 : decode cJ7_fill_53178 20 = .ok (.return_, 1) := by decide +kernel
theorem dJ7_fill_d0a16_0 : decode cJ7_fill_d0a16 0 = .ok (.iconst 0, 1) := by decide +kernel
theorem dJ7_fill_d0a16_1 : decode cJ7_fill_d0a16 1 = .ok (.istore_n 3, 1) := by decide +kernel
theorem dJ7_fill_d0a16_2 : decode cJ7_fill_d0a16 2 = .ok (.aload_n 0, 1) := by decide +kernel
theorem dJ7_fill_d0a16_3 : decode cJ7_fill_d0a16 3 = .ok (.arraylength, 1) := by decide +kernel
theorem dJ7_fill_d0a16_4 : decode cJ7_fill_d0a16 4 = .ok (.istore 4, 2) := by decide +kernel
theorem dJ7_fill_d0a16_6 : decode cJ7_fill_d0a16 6 = .ok (.iload_n 3, 1) := by decide +kernel
theorem dJ7_fill_d0a16_7 : decode cJ7_fill_d0a16 7 = .ok (.iload 4, 2) := by decide +kernel
theorem dJ7_fill_d0a16_9 : decode cJ7_fill_d0a16 9 = .ok (.if_icmp .ge 13, 3) := by decide +kernel
theorem dJ7_fill_d0a16_12 : decode cJ7_fill_d0a16 12 = .ok (.aload_n 0, 1) := by decide +kernel
theorem dJ7_fill_d0a16_13 : decode cJ7_fill_d0a16 13 = .ok (.iload_n 3, 1) := by decide +kernel
theorem dJ7_fill_d0a16_14 : decode cJ7_fill_d0a16 14 = .ok (.lload_n 1, 1) := by decide +kernel
theorem dJ7_fill_d0a16_15 : decode cJ7_fill_d0a16 15 = .ok (.lastore, 1) := by decide +kernel
theorem dJ7_fill_d0a16_16 : decode cJ7_fill_d0a16 16 = .ok (.iinc 3 1, 3) := by decide +kernel
theorem dJ7_fill_d0a16_19 : decode cJ7_fill_d0a16 19 = .ok (.goto (-13), 3) := by decide +kernel
theorem dJ7_fill_d0a16_22 : decode cJ7_fill_d0a16 22 = .ok (.return_, 1) := by decide +kernel
theorem dX0_get_0 : decode cX0_get 0 = .ok (.iload_n 1, 1) := by decide +kernel
theorem dX0_get_1 : decode cX0_get 1 = .ok (.ifCond .lt 11, 3) := by decide +kernel
theorem dX0_get_4 : decode cX0_get 4 = .ok (.iload_n 1, 1) := by decide +kernel
theorem dX0_get_5 : decode cX0_get 5 = .ok (.aload_n 0, 1) := by decide +kernel
theorem dX0_get_6 : decode cX0_get 6 = .ok (.getfield 13, 3) := by decide +kernel
theorem dX0_get_9 : decode cX0_get 9 = .ok (.if_icmp .lt 7, 3) := by decide +kernel
theorem dX0_get_12 : decode cX0_get 12 = .ok (.iconst 0, 1) := by decide +kernel
theorem dX0_get_13 : decode cX0_get 13 = .ok (.goto 13, 3) := by decide +kernel
theorem dX0_get_16 : decode cX0_get 16 = .ok (.aload_n 0, 1) := by decide +kernel
theorem dX0_get_17 : decode cX0_get 17 = .ok (.getfield 7, 3) := by decide +kernel
theorem dX0_get_20 : decode cX0_get 20 = .ok (.iload_n 1, 1) := by decide +kernel
theorem dX0_get_21 : decode cX0_get 21 = .ok (.baload, 1) := by decide +kernel
theorem dX0_get_22 : decode cX0_get 22 = .ok (.sipush 255, 3) := by decide +kernel
theorem dX0_get_25 : decode cX0_get 25 = .ok (.iand, 1) := by decide +kernel
theorem dX0_get_26 : decode cX0_get 26 = .ok (.ireturn, 1) := by decide +kernel
theorem dX0_init_0 : decode cX0_init 0 = .ok (.aload_n 0, 1) := by decide +kernel
theorem dX0_init_1 : decode cX0_init 1 = .ok (.invokespecial 1, 3) := by decide +kernel
theorem dX0_init_4 : decode cX0_init 4 = .ok (.aload_n 0, 1) := by decide +kernel
theorem dX0_init_5 : decode cX0_init 5 = .ok (.bipush 64, 2) := by decide +kernel
theorem dX0_init_7 : decode cX0_init 7 = .ok (.newarray .byte, 2) := by decide +kernel
theorem dX0_init_9 : decode cX0_init 9 = .ok (.putfield 7, 3) := by decide +kernel
theorem dX0_init_12 : decode cX0_init 12 = .ok (.return_, 1) := by decide +kernel
theorem dX0_put_0 : decode cX0_put 0 = .ok (.aload_n 0, 1) := by decide +kernel
theorem dX0_put_1 : decode cX0_put 1 = .ok (.getfield 13, 3) := by decide +kernel
theorem dX0_put_4 : decode cX0_put 4 = .ok (.aload_n 0, 1) := by decide +kernel
theorem dX0_put_5 : decode cX0_put 5 = .ok (.getfield 7, 3) := by decide +kernel
theorem dX0_put_8 : decode cX0_put 8 = .ok (.arraylength, 1) := by decide +kernel
theorem dX0_put_9 : decode cX0_put 9 = .ok (.if_icmp .lt 21, 3) := by decide +kernel
theorem dX0_put_12 : decode cX0_put 12 = .ok (.aload_n 0, 1) := by decide +kernel
theorem dX0_put_13 : decode cX0_put 13 = .ok (.aload_n 0, 1) := by decide +kernel
theorem dX0_put_14 : decode cX0_put 14 = .ok (.getfield 7, 3) := by decide +kernel
theorem dX0_put_17 : decode cX0_put 17 = .ok (.iconst 2, 1) := by decide +kernel
theorem dX0_put_18 : decode cX0_put 18 = .ok (.aload_n 0, 1) := by decide +kernel
theorem dX0_put_19 : decode cX0_put 19 = .ok (.getfield 7, 3) := by decide +kernel
theorem dX0_put_22 : decode cX0_put 22 = .ok (.arraylength, 1) := by decide +kernel
theorem dX0_put_23 : decode cX0_put 23 = .ok (.imul, 1) := by decide +kernel
theorem dX0_put_24 : decode cX0_put 24 = .ok (.invokestatic 17, 3) := by decide +kernel
theorem dX0_put_27 : decode cX0_put 27 = .ok (.putfield 7, 3) := by decide +kernel
theorem dX0_put_30 : decode cX0_put 30 = .ok (.aload_n 0, 1) := by decide +kernel
theorem dX0_put_31 : decode cX0_put 31 = .ok (.getfield 7, 3) := by decide +kernel
theorem dX0_put_34 : decode cX0_put 34 = .ok (.aload_n 0, 1) := by decide +kernel
theorem dX0_put_35 : decode cX0_put 35 = .ok (.getfield 13, 3) := by decide +kernel
theorem dX0_put_38 : decode cX0_put 38 = .ok (.iload_n 1, 1) := by decide +kernel
theorem dX0_put_39 : decode cX0_put 39 = .ok (.i2b, 1) := by decide +kernel
theorem dX0_put_40 : decode cX0_put 40 = .ok (.bastore, 1) := by decide +kernel
theorem dX0_put_41 : decode cX0_put 41 = .ok (.aload_n 0, 1) := by decide +kernel
theorem dX0_put_42 : decode cX0_put 42 = .ok (.dup, 1) := by decide +kernel
theorem dX0_put_43 : decode cX0_put 43 = .ok (.getfield 13, 3) := by decide +kernel
theorem dX0_put_46 : decode cX0_put 46 = .ok (.iconst 1, 1) := by decide +kernel
theorem dX0_put_47 : decode cX0_put 47 = .ok (.iadd, 1) := by decide +kernel
theorem dX0_put_48 : decode cX0_put 48 = .ok (.putfield 13, 3) := by decide +kernel
theorem dX0_put_51 : decode cX0_put 51 = .ok (.return_, 1) := by decide +kernel
theorem dX0_put2_0 : decode cX0_put2 0 = .ok (.aload_n 0, 1) := by decide +kernel
theorem dX0_put2_1 : decode cX0_put2 1 = .ok (.iload_n 1, 1) := by decide +kernel
theorem dX0_put2_2 : decode cX0_put2 2 = .ok (.bipush 8, 2) := by decide +kernel
theorem dX0_put2_4 : decode cX0_put2 4 = .ok (.ishr, 1) := by decide +kernel
theorem dX0_put2_5 : decode cX0_put2 5 = .ok (.invokevirtual 23, 3) := by decide +kernel
theorem dX0_put2_8 : decode cX0_put2 8 = .ok (.aload_n 0, 1) := by decide +kernel
theorem dX0_put2_9 : decode cX0_put2 9 = .ok (.iload_n 1, 1) := by decide +kernel
theorem dX0_put2_10 : decode cX0_put2 10 = .ok (.invokevirtual 23, 3) := by decide +kernel
theorem dX0_put2_13 : decode cX0_put2 13 = .ok (.return_, 1) := by decide +kernel
theorem dX0_put4_0 : decode cX0_put4 0 = .ok (.aload_n 0, 1) := by decide +kernel
theorem dX0_put4_1 : decode cX0_put4 1 = .ok (.iload_n 1, 1) := by decide +kernel
theorem dX0_put4_2 : decode cX0_put4 2 = .ok (.bipush 16, 2) := by decide +kernel
theorem dX0_put4_4 : decode cX0_put4 4 = .ok (.ishr, 1) := by decide +kernel
theorem dX0_put4_5 : decode cX0_put4 5 = .ok (.invokevirtual 27, 3) := by decide +kernel
theorem dX0_put4_8 : decode cX0_put4 8 = .ok (.aload_n 0, 1) := by decide +kernel
theorem dX0_put4_9 : decode cX0_put4 9 = .ok (.iload_n 1, 1) := by decide +kernel
theorem dX0_put4_10 : decode cX0_put4 10 = .ok (.invokevirtual 27, 3) := by decide +kernel
theorem dX0_put4_13 : decode cX0_put4 13 = .ok (.return_, 1) := by decide +kernel
theorem dX0_putAll_0 : decode cX0_putAll 0 = .ok (.aload_n 0, 1) := by decide +kernel
theorem dX0_putAll_1 : decode cX0_putAll 1 = .ok (.getfield 7, 3) := by decide +kernel
theorem dX0_putAll_4 : decode cX0_putAll 4 = .ok (.arraylength, 1) := by decide +kernel
theorem dX0_putAll_5 : decode cX0_putAll 5 = .ok (.istore_n 2, 1) := by decide +kernel
theorem dX0_putAll_6 : decode cX0_putAll 6 = .ok (.iconst 0, 1) := by decide +kernel
theorem dX0_putAll_7 : decode cX0_putAll 7 = .ok (.istore_n 3, 1) := by decide +kernel
theorem dX0_putAll_8 : decode cX0_putAll 8 = .ok (.iload_n 2, 1) := by decide +kernel
theorem dX0_putAll_9 : decode cX0_putAll 9 = .ok (.aload_n 0, 1) := by decide +kernel
theorem dX0_putAll_10 : decode cX0_putAll 10 = .ok (.getfield 13, 3) := by decide +kernel
theorem dX0_putAll_13 : decode cX0_putAll 13 = .ok (.aload_n 1, 1) := by decide +kernel
theorem dX0_putAll_14 : decode cX0_putAll 14 = .ok (.getfield 13, 3) := by decide +kernel
theorem dX0_putAll_17 : decode cX0_putAll 17 = .ok (.iadd, 1) := by decide +kernel
theorem dX0_putAll_18 : decode cX0_putAll 18 = .ok (.if_icmp .ge 19, 3) := by decide +kernel
theorem dX0_putAll_21 : decode cX0_putAll 21 = .ok (.iload_n 3, 1) := by decide +kernel
theorem dX0_putAll_22 : decode cX0_putAll 22 = .ok (.bipush 31, 2) := by decide +kernel
theorem dX0_putAll_24 : decode cX0_putAll 24 = .ok (.if_icmp .ge 13, 3) := by decide +kernel
theorem dX0_putAll_27 : decode cX0_putAll 27 = .ok (.iload_n 2, 1) := by decide +kernel
theorem dX0_putAll_28 : decode cX0_putAll 28 = .ok (.iconst 2, 1) := by decide +kernel
theorem dX0_putAll_29 : decode cX0_putAll 29 = .ok (.imul, 1) := by decide +kernel
theorem dX0_putAll_30 : decode cX0_putAll 30 = .ok (.istore_n 2, 1) := by decide +kernel
theorem dX0_putAll_31 : decode cX0_putAll 31 = .ok (.iinc 3 1, 3) := by decide +kernel
theorem dX0_putAll_34 : decode cX0_putAll 34 = .ok (.goto (-26), 3) := by decide +kernel
theorem dX0_putAll_37 : decode cX0_putAll 37 = .ok (.iload_n 2, 1) := by decide +kernel
theorem dX0_putAll_38 : decode cX0_putAll 38 = .ok (.aload_n 0, 1) := by decide +kernel
theorem dX0_putAll_39 : decode cX0_putAll 39 = .ok (.getfield 7, 3) := by decide +kernel
theorem dX0_putAll_42 : decode cX0_putAll 42 = .ok (.arraylength, 1) := by decide +kernel
theorem dX0_putAll_43 : decode cX0_putAll 43 = .ok (.if_icmp .le 15, 3) := by decide +kernel
theorem dX0_putAll_46 : decode cX0_putAll 46 = .ok (.aload_n 0, 1) := by decide +kernel
theorem dX0_putAll_47 : decode cX0_putAll 47 = .ok (.aload_n 0, 1) := by decide +kernel
theorem dX0_putAll_48 : decode cX0_putAll 48 = .ok (.getfield 7, 3) := by decide +kernel
theorem dX0_putAll_51 : decode cX0_putAll 51 = .ok (.iload_n 2, 1) := by decide +kernel
theorem dX0_putAll_52 : decode cX0_putAll 52 = .ok (.invokestatic 17, 3) := by decide +kernel
theorem dX0_putAll_55 : decode cX0_putAll 55 = .ok (.putfield 7, 3) := by decide +kernel
theorem dX0_putAll_58 : decode cX0_putAll 58 = .ok (.aload_n 1, 1) := by decide +kernel
theorem dX0_putAll_59 : decode cX0_putAll 59 = .ok (.getfield 7, 3) := by decide +kernel
theorem dX0_putAll_62 : decode cX0_putAll 62 = .ok (.iconst 0, 1) := by decide +kernel
theorem dX0_putAll_63 : decode cX0_putAll 63 = .ok (.aload_n 0, 1) := by decide +kernel
theorem dX0_putAll_64 : decode cX0_putAll 64 = .ok (.getfield 7, 3) := by decide +kernel
theorem dX0_putAll_67 : decode cX0_putAll 67 = .ok (.aload_n 0, 1) := by decide +kernel
theorem dX0_putAll_68 : decode cX0_putAll 68 = .ok (.getfield 13, 3) := by decide +kernel
theorem dX0_putAll_71 : decode cX0_putAll 71 = .ok (.aload_n 1, 1) := by decide +kernel
theorem dX0_putAll_72 : decode cX0_putAll 72 = .ok (.getfield 13, 3) := by decide +kernel
theorem dX0_putAll_75 : decode cX0_putAll 75 = .ok (.invokestatic 30, 3) := by decide +kernel
theorem dX0_putAll_78 : decode cX0_putAll 78 = .ok (.aload_n 0, 1) := by decide +kernel
theorem dX0_putAll_79 : decode cX0_putAll 79 = .ok (.dup, 1) := by decide +kernel
theorem dX0_putAll_80 : decode cX0_putAll 80 = .ok (.getfield 13, 3) := by decide +kernel
theorem dX0_putAll_83 : decode cX0_putAll 83 = .ok (.aload_n 1, 1) := by decide +kernel
theorem dX0_putAll_84 : decode cX0_putAll 84 = .ok (.getfield 13, 3) := by decide +kernel
theorem dX0_putAll_87 : decode cX0_putAll 87 = .ok (.iadd, 1) := by decide +kernel
theorem dX0_putAll_88 : decode cX0_putAll 88 = .ok (.putfield 13, 3) := by decide +kernel
theorem dX0_putAll_91 : decode cX0_putAll 91 = .ok (.return_, 1) := by decide +kernel
theorem dX10_gives_0 : decode cX10_gives 0 = .ok (.aload_n 1, 1) := by decide +kernel
theorem dX10_gives_1 : decode cX10_gives 1 = .ok (.iload_n 2, 1) := by decide +kernel
theorem dX10_gives_2 : decode cX10_gives 2 = .ok (.invokevirtual 56, 3) := by decide +kernel
theorem dX10_gives_5 : decode cX10_gives 5 = .ok (.istore_n 3, 1) := by decide +kernel
theorem dX10_gives_6 : decode cX10_gives 6 = .ok (.iload_n 3, 1) := by decide +kernel
theorem dX10_gives_7 : decode cX10_gives 7 = .ok (.sipush 178, 3) := by decide +kernel
theorem dX10_gives_10 : decode cX10_gives 10 = .ok (.if_icmp .ne 14, 3) := by decide +kernel
theorem dX10_gives_13 : decode cX10_gives 13 = .ok (.aload_n 0, 1) := by decide +kernel
theorem dX10_gives_14 : decode cX10_gives 14 = .ok (.aload_n 1, 1) := by decide +kernel
theorem dX10_gives_15 : decode cX10_gives 15 = .ok (.iload_n 2, 1) := by decide +kernel
theorem dX10_gives_16 : decode cX10_gives 16 = .ok (.invokevirtual 60, 3) := by decide +kernel
theorem dX10_gives_19 : decode cX10_gives 19 = .ok (.l2i, 1) := by decide +kernel
theorem dX10_gives_20 : decode cX10_gives 20 = .ok (.invokevirtual 64, 3) := by decide +kernel
theorem dX10_gives_23 : decode cX10_gives 23 = .ok (.ireturn, 1) := by decide +kernel
theorem dX10_gives_24 : decode cX10_gives 24 = .ok (.iload_n 3, 1) := by decide +kernel
theorem dX10_gives_25 : decode cX10_gives 25 = .ok (.sipush 184, 3) := by decide +kernel
theorem dX10_gives_28 : decode cX10_gives 28 = .ok (.if_icmp .ne 16, 3) := by decide +kernel
theorem dX10_gives_31 : decode cX10_gives 31 = .ok (.aload_n 0, 1) := by decide +kernel
theorem dX10_gives_32 : decode cX10_gives 32 = .ok (.aload_n 1, 1) := by decide +kernel
theorem dX10_gives_33 : decode cX10_gives 33 = .ok (.iload_n 2, 1) := by decide +kernel
theorem dX10_gives_34 : decode cX10_gives 34 = .ok (.invokevirtual 60, 3) := by decide +kernel
theorem dX10_gives_37 : decode cX10_gives 37 = .ok (.l2i, 1) := by decide +kernel
theorem dX10_gives_38 : decode cX10_gives 38 = .ok (.invokevirtual 75, 3) := by decide +kernel
theorem dX10_gives_41 : decode cX10_gives 41 = .ok (.goto 7, 3) := by decide +kernel
theorem dX10_gives_44 : decode cX10_gives 44 = .ok (.iload_n 3, 1) := by decide +kernel
theorem dX10_gives_45 : decode cX10_gives 45 = .ok (.invokestatic 78, 3) := by decide +kernel
theorem dX10_gives_48 : decode cX10_gives 48 = .ok (.ireturn, 1) := by decide +kernel
theorem dX10_givesOfMethod_0 : decode cX10_givesOfMethod 0 = .ok (.iload_n 1, 1) := by decide +kernel
theorem dX10_givesOfMethod_1 : decode cX10_givesOfMethod 1 = .ok (.ifCond .lt 12, 3) := by decide +kernel
theorem dX10_givesOfMethod_4 : decode cX10_givesOfMethod 4 = .ok (.iload_n 1, 1) := by decide +kernel
theorem dX10_givesOfMethod_5 : decode cX10_givesOfMethod 5 = .ok (.aload_n 0, 1) := by decide +kernel
theorem dX10_givesOfMethod_6 : decode cX10_givesOfMethod 6 = .ok (.getfield 47, 3) := by decide +kernel
theorem dX10_givesOfMethod_9 : decode cX10_givesOfMethod 9 = .ok (.arraylength, 1) := by decide +kernel
theorem dX10_givesOfMethod_10 : decode cX10_givesOfMethod 10 = .ok (.if_icmp .lt 7, 3) := by decide +kernel
theorem dX10_givesOfMethod_13 : decode cX10_givesOfMethod 13 = .ok (.iconst 0, 1) := by decide +kernel
theorem dX10_givesOfMethod_14 : decode cX10_givesOfMethod 14 = .ok (.goto 9, 3) := by decide +kernel
theorem dX10_givesOfMethod_17 : decode cX10_givesOfMethod 17 = .ok (.aload_n 0, 1) := by decide +kernel
theorem dX10_givesOfMethod_18 : decode cX10_givesOfMethod 18 = .ok (.getfield 47, 3) := by decide +kernel
theorem dX10_givesOfMethod_21 : decode cX10_givesOfMethod 21 = .ok (.iload_n 1, 1) := by decide +kernel
theorem dX10_givesOfMethod_22 : decode cX10_givesOfMethod 22 = .ok (.iaload, 1) := by decide +kernel
theorem dX10_givesOfMethod_23 : decode cX10_givesOfMethod 23 = .ok (.ireturn, 1) := by decide +kernel
theorem dX10_init_0 : decode cX10_init 0 = .ok (.aload_n 0, 1) := by decide +kernel
theorem dX10_init_1 : decode cX10_init 1 = .ok (.invokespecial 3, 3) := by decide +kernel
theorem dX10_init_4 : decode cX10_init 4 = .ok (.aload_n 0, 1) := by decide +kernel
theorem dX10_init_5 : decode cX10_init 5 = .ok (.iconst (-1), 1) := by decide +kernel
theorem dX10_init_6 : decode cX10_init 6 = .ok (.putfield 9, 3) := by decide +kernel
theorem dX10_init_9 : decode cX10_init 9 = .ok (.aload_n 0, 1) := by decide +kernel
theorem dX10_init_10 : decode cX10_init 10 = .ok (.iconst (-1), 1) := by decide +kernel
theorem dX10_init_11 : decode cX10_init 11 = .ok (.putfield 15, 3) := by decide +kernel
theorem dX10_init_14 : decode cX10_init 14 = .ok (.aload_n 0, 1) := by decide +kernel
theorem dX10_init_15 : decode cX10_init 15 = .ok (.aload_n 1, 1) := by decide +kernel
theorem dX10_init_16 : decode cX10_init 16 = .ok (.putfield 18, 3) := by decide +kernel
theorem dX10_init_19 : decode cX10_init 19 = .ok (.aload_n 0, 1) := by decide +kernel
theorem dX10_init_20 : decode cX10_init 20 = .ok (.iload_n 2, 1) := by decide +kernel
theorem dX10_init_21 : decode cX10_init 21 = .ok (.putfield 22, 3) := by decide +kernel
theorem dX10_init_24 : decode cX10_init 24 = .ok (.aload_n 0, 1) := by decide +kernel
theorem dX10_init_25 : decode cX10_init 25 = .ok (.iload_n 2, 1) := by decide +kernel
theorem dX10_init_26 : decode cX10_init 26 = .ok (.newarray .int, 2) := by decide +kernel
theorem dX10_init_28 : decode cX10_init 28 = .ok (.putfield 25, 3) := by decide +kernel
theorem dX10_init_31 : decode cX10_init 31 = .ok (.aload_n 0, 1) := by decide +kernel
theorem dX10_init_32 : decode cX10_init 32 = .ok (.iload_n 2, 1) := by decide +kernel
theorem dX10_init_33 : decode cX10_init 33 = .ok (.newarray .int, 2) := by decide +kernel
theorem dX10_init_35 : decode cX10_init 35 = .ok (.putfield 29, 3) := by decide +kernel
theorem dX10_init_38 : decode cX10_init 38 = .ok (.aload_n 0, 1) := by decide +kernel
theorem dX10_init_39 : decode cX10_init 39 = .ok (.iload_n 2, 1) := by decide +kernel
theorem dX10_init_40 : decode cX10_init 40 = .ok (.newarray .int, 2) := by decide +kernel
theorem dX10_init_42 : decode cX10_init 42 = .ok (.putfield 32, 3) := by decide +kernel
theorem dX10_init_45 : decode cX10_init 45 = .ok (.aload_n 0, 1) := by decide +kernel
theorem dX10_init_46 : decode cX10_init 46 = .ok (.iload_n 3, 1) := by decide +kernel
theorem dX10_init_47 : decode cX10_init 47 = .ok (.putfield 35, 3) := by decide +kernel
theorem dX10_init_50 : decode cX10_init 50 = .ok (.aload_n 0, 1) := by decide +kernel
theorem dX10_init_51 : decode cX10_init 51 = .ok (.iload_n 3, 1) := by decide +kernel
theorem dX10_init_52 : decode cX10_init 52 = .ok (.newarray .int, 2) := by decide +kernel
theorem dX10_init_54 : decode cX10_init 54 = .ok (.putfield 38, 3) := by decide +kernel
theorem dX10_init_57 : decode cX10_init 57 = .ok (.aload_n 0, 1) := by decide +kernel
theorem dX10_init_58 : decode cX10_init 58 = .ok (.iload_n 3, 1) := by decide +kernel
theorem dX10_init_59 : decode cX10_init 59 = .ok (.newarray .int, 2) := by decide +kernel
theorem dX10_init_61 : decode cX10_init 61 = .ok (.putfield 41, 3) := by decide +kernel
theorem dX10_init_64 : decode cX10_init 64 = .ok (.aload_n 0, 1) := by decide +kernel
theorem dX10_init_65 : decode cX10_init 65 = .ok (.iload_n 3, 1) := by decide +kernel
theorem dX10_init_66 : decode cX10_init 66 = .ok (.newarray .int, 2) := by decide +kernel
theorem dX10_init_68 : decode cX10_init 68 = .ok (.putfield 44, 3) := by decide +kernel
theorem dX10_init_71 : decode cX10_init 71 = .ok (.aload_n 0, 1) := by decide +kernel
theorem dX10_init_72 : decode cX10_init 72 = .ok (.iload_n 3, 1) := by decide +kernel
theorem dX10_init_73 : decode cX10_init 73 = .ok (.newarray .int, 2) := by decide +kernel
theorem dX10_init_75 : decode cX10_init 75 = .ok (.putfield 47, 3) := by decide +kernel
theorem dX10_init_78 : decode cX10_init 78 = .ok (.aload_n 0, 1) := by decide +kernel
theorem dX10_init_79 : decode cX10_init 79 = .ok (.iload_n 3, 1) := by decide +kernel
theorem dX10_init_80 : decode cX10_init 80 = .ok (.anewarray 50, 3) := by decide +kernel
theorem dX10_init_83 : decode cX10_init 83 = .ok (.putfield 52, 3) := by decide +kernel
theorem dX10_init_86 : decode cX10_init 86 = .ok (.return_, 1) := by decide +kernel
theorem dX10_kindOfField_0 : decode cX10_kindOfField 0 = .ok (.iload_n 1, 1) := by decide +kernel
theorem dX10_kindOfField_1 : decode cX10_kindOfField 1 = .ok (.ifCond .lt 12, 3) := by decide +kernel
theorem dX10_kindOfField_4 : decode cX10_kindOfField 4 = .ok (.iload_n 1, 1) := by decide +kernel
theorem dX10_kindOfField_5 : decode cX10_kindOfField 5 = .ok (.aload_n 0, 1) := by decide +kernel
theorem dX10_kindOfField_6 : decode cX10_kindOfField 6 = .ok (.getfield 32, 3) := by decide +kernel
theorem dX10_kindOfField_9 : decode cX10_kindOfField 9 = .ok (.arraylength, 1) := by decide +kernel
theorem dX10_kindOfField_10 : decode cX10_kindOfField 10 = .ok (.if_icmp .lt 7, 3) := by decide +kernel
theorem dX10_kindOfField_13 : decode cX10_kindOfField 13 = .ok (.iconst 2, 1) := by decide +kernel
theorem dX10_kindOfField_14 : decode cX10_kindOfField 14 = .ok (.goto 9, 3) := by decide +kernel
theorem dX10_kindOfField_17 : decode cX10_kindOfField 17 = .ok (.aload_n 0, 1) := by decide +kernel
theorem dX10_kindOfField_18 : decode cX10_kindOfField 18 = .ok (.getfield 32, 3) := by decide +kernel
theorem dX10_kindOfField_21 : decode cX10_kindOfField 21 = .ok (.iload_n 1, 1) := by decide +kernel
theorem dX10_kindOfField_22 : decode cX10_kindOfField 22 = .ok (.iaload, 1) := by decide +kernel
theorem dX10_kindOfField_23 : decode cX10_kindOfField 23 = .ok (.ireturn, 1) := by decide +kernel
theorem dX10_placesGiven_0 : decode cX10_placesGiven 0 = .ok (.aload_n 1, 1) := by decide +kernel
theorem dX10_placesGiven_1 : decode cX10_placesGiven 1 = .ok (.iload_n 2, 1) := by decide +kernel
theorem dX10_placesGiven_2 : decode cX10_placesGiven 2 = .ok (.invokevirtual 56, 3) := by decide +kernel
theorem dX10_placesGiven_5 : decode cX10_placesGiven 5 = .ok (.tableswitch 49 89 95 #[43, 45, 49, 47, 49, 49, 43], 43) := by decide +kernel
theorem dX10_placesGiven_48 : decode cX10_placesGiven 48 = .ok (.iconst 2, 1) := by decide +kernel
theorem dX10_placesGiven_49 : decode cX10_placesGiven 49 = .ok (.ireturn, 1) := by decide +kernel
theorem dX10_placesGiven_50 : decode cX10_placesGiven 50 = .ok (.iconst 3, 1) := by decide +kernel
theorem dX10_placesGiven_51 : decode cX10_placesGiven 51 = .ok (.ireturn, 1) := by decide +kernel
theorem dX10_placesGiven_52 : decode cX10_placesGiven 52 = .ok (.iconst 4, 1) := by decide +kernel
theorem dX10_placesGiven_53 : decode cX10_placesGiven 53 = .ok (.ireturn, 1) := by decide +kernel
theorem dX10_placesGiven_54 : decode cX10_placesGiven 54 = .ok (.aload_n 0, 1) := by decide +kernel
theorem dX10_placesGiven_55 : decode cX10_placesGiven 55 = .ok (.aload_n 1, 1) := by decide +kernel
theorem dX10_placesGiven_56 : decode cX10_placesGiven 56 = .ok (.iload_n 2, 1) := by decide +kernel
theorem dX10_placesGiven_57 : decode cX10_placesGiven 57 = .ok (.invokevirtual 81, 3) := by decide +kernel
theorem dX10_placesGiven_60 : decode cX10_placesGiven 60 = .ok (.invokestatic 84, 3) := by decide +kernel
theorem dX10_placesGiven_63 : decode cX10_placesGiven 63 = .ok (.ireturn, 1) := by decide +kernel
theorem dX10_rowAt_0 : decode cX10_rowAt 0 = .ok (.iload_n 1, 1) := by decide +kernel
theorem dX10_rowAt_1 : decode cX10_rowAt 1 = .ok (.ifCond .lt 12, 3) := by decide +kernel
theorem dX10_rowAt_4 : decode cX10_rowAt 4 = .ok (.iload_n 1, 1) := by decide +kernel
theorem dX10_rowAt_5 : decode cX10_rowAt 5 = .ok (.aload_n 0, 1) := by decide +kernel
theorem dX10_rowAt_6 : decode cX10_rowAt 6 = .ok (.getfield 52, 3) := by decide +kernel
theorem dX10_rowAt_9 : decode cX10_rowAt 9 = .ok (.arraylength, 1) := by decide +kernel
theorem dX10_rowAt_10 : decode cX10_rowAt 10 = .ok (.if_icmp .lt 7, 3) := by decide +kernel
theorem dX10_rowAt_13 : decode cX10_rowAt 13 = .ok (.aconst_null, 1) := by decide +kernel
theorem dX10_rowAt_14 : decode cX10_rowAt 14 = .ok (.goto 9, 3) := by decide +kernel
theorem dX10_rowAt_17 : decode cX10_rowAt 17 = .ok (.aload_n 0, 1) := by decide +kernel
theorem dX10_rowAt_18 : decode cX10_rowAt 18 = .ok (.getfield 52, 3) := by decide +kernel
theorem dX10_rowAt_21 : decode cX10_rowAt 21 = .ok (.iload_n 1, 1) := by decide +kernel
theorem dX10_rowAt_22 : decode cX10_rowAt 22 = .ok (.aaload, 1) := by decide +kernel
theorem dX10_rowAt_23 : decode cX10_rowAt 23 = .ok (.areturn, 1) := by decide +kernel
theorem dX10_takes_0 : decode cX10_takes 0 = .ok (.aload_n 1, 1) := by decide +kernel
theorem dX10_takes_1 : decode cX10_takes 1 = .ok (.iload_n 2, 1) := by decide +kernel
theorem dX10_takes_2 : decode cX10_takes 2 = .ok (.invokevirtual 56, 3) := by decide +kernel
theorem dX10_takes_5 : decode cX10_takes 5 = .ok (.istore_n 3, 1) := by decide +kernel
theorem dX10_takes_6 : decode cX10_takes 6 = .ok (.iload_n 3, 1) := by decide +kernel
theorem dX10_takes_7 : decode cX10_takes 7 = .ok (.sipush 179, 3) := by decide +kernel
theorem dX10_takes_10 : decode cX10_takes 10 = .ok (.if_icmp .ne 14, 3) := by decide +kernel
theorem dX10_takes_13 : decode cX10_takes 13 = .ok (.aload_n 0, 1) := by decide +kernel
theorem dX10_takes_14 : decode cX10_takes 14 = .ok (.aload_n 1, 1) := by decide +kernel
theorem dX10_takes_15 : decode cX10_takes 15 = .ok (.iload_n 2, 1) := by decide +kernel
theorem dX10_takes_16 : decode cX10_takes 16 = .ok (.invokevirtual 60, 3) := by decide +kernel
theorem dX10_takes_19 : decode cX10_takes 19 = .ok (.l2i, 1) := by decide +kernel
theorem dX10_takes_20 : decode cX10_takes 20 = .ok (.invokevirtual 64, 3) := by decide +kernel
theorem dX10_takes_23 : decode cX10_takes 23 = .ok (.ireturn, 1) := by decide +kernel
theorem dX10_takes_24 : decode cX10_takes 24 = .ok (.iload_n 3, 1) := by decide +kernel
theorem dX10_takes_25 : decode cX10_takes 25 = .ok (.sipush 184, 3) := by decide +kernel
theorem dX10_takes_28 : decode cX10_takes 28 = .ok (.if_icmp .ne 16, 3) := by decide +kernel
theorem dX10_takes_31 : decode cX10_takes 31 = .ok (.aload_n 0, 1) := by decide +kernel
theorem dX10_takes_32 : decode cX10_takes 32 = .ok (.aload_n 1, 1) := by decide +kernel
theorem dX10_takes_33 : decode cX10_takes 33 = .ok (.iload_n 2, 1) := by decide +kernel
theorem dX10_takes_34 : decode cX10_takes 34 = .ok (.invokevirtual 60, 3) := by decide +kernel
theorem dX10_takes_37 : decode cX10_takes 37 = .ok (.l2i, 1) := by decide +kernel
theorem dX10_takes_38 : decode cX10_takes 38 = .ok (.invokevirtual 67, 3) := by decide +kernel
theorem dX10_takes_41 : decode cX10_takes 41 = .ok (.goto 7, 3) := by decide +kernel
theorem dX10_takes_44 : decode cX10_takes 44 = .ok (.iload_n 3, 1) := by decide +kernel
theorem dX10_takes_45 : decode cX10_takes 45 = .ok (.invokestatic 70, 3) := by decide +kernel
theorem dX10_takes_48 : decode cX10_takes 48 = .ok (.ireturn, 1) := by decide +kernel
theorem dX10_takesOfMethod_0 : decode cX10_takesOfMethod 0 = .ok (.iload_n 1, 1) := by decide +kernel
theorem dX10_takesOfMethod_1 : decode cX10_takesOfMethod 1 = .ok (.ifCond .lt 12, 3) := by decide +kernel
theorem dX10_takesOfMethod_4 : decode cX10_takesOfMethod 4 = .ok (.iload_n 1, 1) := by decide +kernel
theorem dX10_takesOfMethod_5 : decode cX10_takesOfMethod 5 = .ok (.aload_n 0, 1) := by decide +kernel
theorem dX10_takesOfMethod_6 : decode cX10_takesOfMethod 6 = .ok (.getfield 44, 3) := by decide +kernel
theorem dX10_takesOfMethod_9 : decode cX10_takesOfMethod 9 = .ok (.arraylength, 1) := by decide +kernel
theorem dX10_takesOfMethod_10 : decode cX10_takesOfMethod 10 = .ok (.if_icmp .lt 7, 3) := by decide +kernel
theorem dX10_takesOfMethod_13 : decode cX10_takesOfMethod 13 = .ok (.iconst 0, 1) := by decide +kernel
theorem dX10_takesOfMethod_14 : decode cX10_takesOfMethod 14 = .ok (.goto 9, 3) := by decide +kernel
theorem dX10_takesOfMethod_17 : decode cX10_takesOfMethod 17 = .ok (.aload_n 0, 1) := by decide +kernel
theorem dX10_takesOfMethod_18 : decode cX10_takesOfMethod 18 = .ok (.getfield 44, 3) := by decide +kernel
theorem dX10_takesOfMethod_21 : decode cX10_takesOfMethod 21 = .ok (.iload_n 1, 1) := by decide +kernel
theorem dX10_takesOfMethod_22 : decode cX10_takesOfMethod 22 = .ok (.iaload, 1) := by decide +kernel
theorem dX10_takesOfMethod_23 : decode cX10_takesOfMethod 23 = .ok (.ireturn, 1) := by decide +kernel
theorem dX11_addMethod_0 : decode cX11_addMethod 0 = .ok (.aload_n 0, 1) := by decide +kernel
theorem dX11_addMethod_1 : decode cX11_addMethod 1 = .ok (.aload_n 1, 1) := by decide +kernel
theorem dX11_addMethod_2 : decode cX11_addMethod 2 = .ok (.putfield 180, 3) := by decide +kernel
theorem dX11_addMethod_5 : decode cX11_addMethod 5 = .ok (.aload_n 0, 1) := by decide +kernel
theorem dX11_addMethod_6 : decode cX11_addMethod 6 = .ok (.getfield 180, 3) := by decide +kernel
theorem dX11_addMethod_9 : decode cX11_addMethod 9 = .ok (.ifnull 31, 3) := by decide +kernel
theorem dX11_addMethod_12 : decode cX11_addMethod 12 = .ok (.aload_n 0, 1) := by decide +kernel
theorem dX11_addMethod_13 : decode cX11_addMethod 13 = .ok (.getfield 180, 3) := by decide +kernel
theorem dX11_addMethod_16 : decode cX11_addMethod 16 = .ok (.getfield 184, 3) := by decide +kernel
theorem dX11_addMethod_19 : decode cX11_addMethod 19 = .ok (.ifCond .lt 21, 3) := by decide +kernel
theorem dX11_addMethod_22 : decode cX11_addMethod 22 = .ok (.aload_n 0, 1) := by decide +kernel
theorem dX11_addMethod_23 : decode cX11_addMethod 23 = .ok (.getfield 180, 3) := by decide +kernel
theorem dX11_addMethod_26 : decode cX11_addMethod 26 = .ok (.getfield 184, 3) := by decide +kernel
theorem dX11_addMethod_29 : decode cX11_addMethod 29 = .ok (.aload_n 0, 1) := by decide +kernel
theorem dX11_addMethod_30 : decode cX11_addMethod 30 = .ok (.getfield 56, 3) := by decide +kernel
theorem dX11_addMethod_33 : decode cX11_addMethod 33 = .ok (.getfield 174, 3) := by decide +kernel
theorem dX11_addMethod_36 : decode cX11_addMethod 36 = .ok (.arraylength, 1) := by decide +kernel
theorem dX11_addMethod_37 : decode cX11_addMethod 37 = .ok (.if_icmp .lt 4, 3) := by decide +kernel
theorem dX11_addMethod_40 : decode cX11_addMethod 40 = .ok (.return_, 1) := by decide +kernel
theorem dX11_addMethod_41 : decode cX11_addMethod 41 = .ok (.aload_n 0, 1) := by decide +kernel
theorem dX11_addMethod_42 : decode cX11_addMethod 42 = .ok (.aload_n 0, 1) := by decide +kernel
theorem dX11_addMethod_43 : decode cX11_addMethod 43 = .ok (.getfield 56, 3) := by decide +kernel
theorem dX11_addMethod_46 : decode cX11_addMethod 46 = .ok (.getfield 174, 3) := by decide +kernel
theorem dX11_addMethod_49 : decode cX11_addMethod 49 = .ok (.aload_n 0, 1) := by decide +kernel
theorem dX11_addMethod_50 : decode cX11_addMethod 50 = .ok (.getfield 180, 3) := by decide +kernel
theorem dX11_addMethod_53 : decode cX11_addMethod 53 = .ok (.getfield 184, 3) := by decide +kernel
theorem dX11_addMethod_56 : decode cX11_addMethod 56 = .ok (.iaload, 1) := by decide +kernel
theorem dX11_addMethod_57 : decode cX11_addMethod 57 = .ok (.invokevirtual 91, 3) := by decide +kernel
theorem dX11_addMethod_60 : decode cX11_addMethod 60 = .ok (.istore_n 2, 1) := by decide +kernel
theorem dX11_addMethod_61 : decode cX11_addMethod 61 = .ok (.aload_n 0, 1) := by decide +kernel
theorem dX11_addMethod_62 : decode cX11_addMethod 62 = .ok (.iload_n 2, 1) := by decide +kernel
theorem dX11_addMethod_63 : decode cX11_addMethod 63 = .ok (.aload_n 0, 1) := by decide +kernel
theorem dX11_addMethod_64 : decode cX11_addMethod 64 = .ok (.aload_n 0, 1) := by decide +kernel
theorem dX11_addMethod_65 : decode cX11_addMethod 65 = .ok (.getfield 56, 3) := by decide +kernel
theorem dX11_addMethod_68 : decode cX11_addMethod 68 = .ok (.getfield 177, 3) := by decide +kernel
theorem dX11_addMethod_71 : decode cX11_addMethod 71 = .ok (.aload_n 0, 1) := by decide +kernel
theorem dX11_addMethod_72 : decode cX11_addMethod 72 = .ok (.getfield 180, 3) := by decide +kernel
theorem dX11_addMethod_75 : decode cX11_addMethod 75 = .ok (.getfield 184, 3) := by decide +kernel
theorem dX11_addMethod_78 : decode cX11_addMethod 78 = .ok (.iaload, 1) := by decide +kernel
theorem dX11_addMethod_79 : decode cX11_addMethod 79 = .ok (.invokevirtual 91, 3) := by decide +kernel
theorem dX11_addMethod_82 : decode cX11_addMethod 82 = .ok (.iconst 1, 1) := by decide +kernel
theorem dX11_addMethod_83 : decode cX11_addMethod 83 = .ok (.invokevirtual 119, 3) := by decide +kernel
theorem dX11_addMethod_86 : decode cX11_addMethod 86 = .ok (.aload_n 0, 1) := by decide +kernel
theorem dX11_addMethod_87 : decode cX11_addMethod 87 = .ok (.invokevirtual 189, 3) := by decide +kernel
theorem dX11_addMethod_90 : decode cX11_addMethod 90 = .ok (.istore_n 3, 1) := by decide +kernel
theorem dX11_addMethod_91 : decode cX11_addMethod 91 = .ok (.aload_n 0, 1) := by decide +kernel
theorem dX11_addMethod_92 : decode cX11_addMethod 92 = .ok (.getfield 46, 3) := by decide +kernel
theorem dX11_addMethod_95 : decode cX11_addMethod 95 = .ok (.aload_n 0, 1) := by decide +kernel
theorem dX11_addMethod_96 : decode cX11_addMethod 96 = .ok (.getfield 56, 3) := by decide +kernel
theorem dX11_addMethod_99 : decode cX11_addMethod 99 = .ok (.aload_n 0, 1) := by decide +kernel
theorem dX11_addMethod_100 : decode cX11_addMethod 100 = .ok (.getfield 180, 3) := by decide +kernel
theorem dX11_addMethod_103 : decode cX11_addMethod 103 = .ok (.bipush 28, 2) := by decide +kernel
theorem dX11_addMethod_105 : decode cX11_addMethod 105 = .ok (.invokevirtual 192, 3) := by decide +kernel
theorem dX11_addMethod_108 : decode cX11_addMethod 108 = .ok (.aload_n 0, 1) := by decide +kernel
theorem dX11_addMethod_109 : decode cX11_addMethod 109 = .ok (.getfield 18, 3) := by decide +kernel
theorem dX11_addMethod_112 : decode cX11_addMethod 112 = .ok (.aload_n 0, 1) := by decide +kernel
theorem dX11_addMethod_113 : decode cX11_addMethod 113 = .ok (.getfield 83, 3) := by decide +kernel
theorem dX11_addMethod_116 : decode cX11_addMethod 116 = .ok (.invokevirtual 105, 3) := by decide +kernel
theorem dX11_addMethod_119 : decode cX11_addMethod 119 = .ok (.aload_n 0, 1) := by decide +kernel
theorem dX11_addMethod_120 : decode cX11_addMethod 120 = .ok (.getfield 18, 3) := by decide +kernel
theorem dX11_addMethod_123 : decode cX11_addMethod 123 = .ok (.bipush 12, 2) := by decide +kernel
theorem dX11_addMethod_125 : decode cX11_addMethod 125 = .ok (.iload_n 3, 1) := by decide +kernel
theorem dX11_addMethod_126 : decode cX11_addMethod 126 = .ok (.iadd, 1) := by decide +kernel
theorem dX11_addMethod_127 : decode cX11_addMethod 127 = .ok (.bipush 8, 2) := by decide +kernel
theorem dX11_addMethod_129 : decode cX11_addMethod 129 = .ok (.aload_n 0, 1) := by decide +kernel
theorem dX11_addMethod_130 : decode cX11_addMethod 130 = .ok (.getfield 180, 3) := by decide +kernel
theorem dX11_addMethod_133 : decode cX11_addMethod 133 = .ok (.getfield 196, 3) := by decide +kernel
theorem dX11_addMethod_136 : decode cX11_addMethod 136 = .ok (.imul, 1) := by decide +kernel
theorem dX11_addMethod_137 : decode cX11_addMethod 137 = .ok (.iadd, 1) := by decide +kernel
theorem dX11_addMethod_138 : decode cX11_addMethod 138 = .ok (.invokevirtual 167, 3) := by decide +kernel
theorem dX11_addMethod_141 : decode cX11_addMethod 141 = .ok (.aload_n 0, 1) := by decide +kernel
theorem dX11_addMethod_142 : decode cX11_addMethod 142 = .ok (.getfield 18, 3) := by decide +kernel
theorem dX11_addMethod_145 : decode cX11_addMethod 145 = .ok (.aload_n 0, 1) := by decide +kernel
theorem dX11_addMethod_146 : decode cX11_addMethod 146 = .ok (.getfield 46, 3) := by decide +kernel
theorem dX11_addMethod_149 : decode cX11_addMethod 149 = .ok (.getfield 199, 3) := by decide +kernel
theorem dX11_addMethod_152 : decode cX11_addMethod 152 = .ok (.invokevirtual 105, 3) := by decide +kernel
theorem dX11_addMethod_155 : decode cX11_addMethod 155 = .ok (.aload_n 0, 1) := by decide +kernel
theorem dX11_addMethod_156 : decode cX11_addMethod 156 = .ok (.getfield 18, 3) := by decide +kernel
theorem dX11_addMethod_159 : decode cX11_addMethod 159 = .ok (.aload_n 0, 1) := by decide +kernel
theorem dX11_addMethod_160 : decode cX11_addMethod 160 = .ok (.invokevirtual 202, 3) := by decide +kernel
theorem dX11_addMethod_163 : decode cX11_addMethod 163 = .ok (.invokevirtual 105, 3) := by decide +kernel
theorem dX11_addMethod_166 : decode cX11_addMethod 166 = .ok (.aload_n 0, 1) := by decide +kernel
theorem dX11_addMethod_167 : decode cX11_addMethod 167 = .ok (.getfield 18, 3) := by decide +kernel
theorem dX11_addMethod_170 : decode cX11_addMethod 170 = .ok (.iload_n 3, 1) := by decide +kernel
theorem dX11_addMethod_171 : decode cX11_addMethod 171 = .ok (.invokevirtual 167, 3) := by decide +kernel
theorem dX11_addMethod_174 : decode cX11_addMethod 174 = .ok (.aload_n 0, 1) := by decide +kernel
theorem dX11_addMethod_175 : decode cX11_addMethod 175 = .ok (.getfield 18, 3) := by decide +kernel
theorem dX11_addMethod_178 : decode cX11_addMethod 178 = .ok (.getfield 60, 3) := by decide +kernel
theorem dX11_addMethod_181 : decode cX11_addMethod 181 = .ok (.istore 4, 2) := by decide +kernel
theorem dX11_addMethod_183 : decode cX11_addMethod 183 = .ok (.iconst 0, 1) := by decide +kernel
theorem dX11_addMethod_184 : decode cX11_addMethod 184 = .ok (.istore 5, 2) := by decide +kernel
theorem dX11_addMethod_186 : decode cX11_addMethod 186 = .ok (.iload 5, 2) := by decide +kernel
theorem dX11_addMethod_188 : decode cX11_addMethod 188 = .ok (.aload_n 0, 1) := by decide +kernel
theorem dX11_addMethod_189 : decode cX11_addMethod 189 = .ok (.getfield 180, 3) := by decide +kernel
theorem dX11_addMethod_192 : decode cX11_addMethod 192 = .ok (.getfield 205, 3) := by decide +kernel
theorem dX11_addMethod_195 : decode cX11_addMethod 195 = .ok (.if_icmp .ge 17, 3) := by decide +kernel
theorem dX11_addMethod_198 : decode cX11_addMethod 198 = .ok (.aload_n 0, 1) := by decide +kernel
theorem dX11_addMethod_199 : decode cX11_addMethod 199 = .ok (.iload 5, 2) := by decide +kernel
theorem dX11_addMethod_201 : decode cX11_addMethod 201 = .ok (.iload 4, 2) := by decide +kernel
theorem dX11_addMethod_203 : decode cX11_addMethod 203 = .ok (.invokevirtual 206, 3) := by decide +kernel
theorem dX11_addMethod_206 : decode cX11_addMethod 206 = .ok (.iinc 5 1, 3) := by decide +kernel
theorem dX11_addMethod_209 : decode cX11_addMethod 209 = .ok (.goto (-23), 3) := by decide +kernel
theorem dX11_addMethod_212 : decode cX11_addMethod 212 = .ok (.aload_n 0, 1) := by decide +kernel
theorem dX11_addMethod_213 : decode cX11_addMethod 213 = .ok (.getfield 18, 3) := by decide +kernel
theorem dX11_addMethod_216 : decode cX11_addMethod 216 = .ok (.aload_n 0, 1) := by decide +kernel
theorem dX11_addMethod_217 : decode cX11_addMethod 217 = .ok (.getfield 180, 3) := by decide +kernel
theorem dX11_addMethod_220 : decode cX11_addMethod 220 = .ok (.getfield 196, 3) := by decide +kernel
theorem dX11_addMethod_223 : decode cX11_addMethod 223 = .ok (.invokevirtual 105, 3) := by decide +kernel
theorem dX11_addMethod_226 : decode cX11_addMethod 226 = .ok (.iconst 0, 1) := by decide +kernel
theorem dX11_addMethod_227 : decode cX11_addMethod 227 = .ok (.istore 5, 2) := by decide +kernel
theorem dX11_addMethod_229 : decode cX11_addMethod 229 = .ok (.iload 5, 2) := by decide +kernel
theorem dX11_addMethod_231 : decode cX11_addMethod 231 = .ok (.aload_n 0, 1) := by decide +kernel
theorem dX11_addMethod_232 : decode cX11_addMethod 232 = .ok (.getfield 180, 3) := by decide +kernel
theorem dX11_addMethod_235 : decode cX11_addMethod 235 = .ok (.getfield 196, 3) := by decide +kernel
theorem dX11_addMethod_238 : decode cX11_addMethod 238 = .ok (.if_icmp .ge 93, 3) := by decide +kernel
theorem dX11_addMethod_241 : decode cX11_addMethod 241 = .ok (.aload_n 0, 1) := by decide +kernel
theorem dX11_addMethod_242 : decode cX11_addMethod 242 = .ok (.getfield 18, 3) := by decide +kernel
theorem dX11_addMethod_245 : decode cX11_addMethod 245 = .ok (.aload_n 0, 1) := by decide +kernel
theorem dX11_addMethod_246 : decode cX11_addMethod 246 = .ok (.aload_n 0, 1) := by decide +kernel
theorem dX11_addMethod_247 : decode cX11_addMethod 247 = .ok (.getfield 180, 3) := by decide +kernel
theorem dX11_addMethod_250 : decode cX11_addMethod 250 = .ok (.getfield 210, 3) := by decide +kernel
theorem dX11_addMethod_253 : decode cX11_addMethod 253 = .ok (.iload 5, 2) := by decide +kernel
theorem dX11_addMethod_255 : decode cX11_addMethod 255 = .ok (.iaload, 1) := by decide +kernel
theorem dX11_addMethod_256 : decode cX11_addMethod 256 = .ok (.invokevirtual 213, 3) := by decide +kernel
theorem dX11_addMethod_259 : decode cX11_addMethod 259 = .ok (.invokevirtual 105, 3) := by decide +kernel
theorem dX11_addMethod_262 : decode cX11_addMethod 262 = .ok (.aload_n 0, 1) := by decide +kernel
theorem dX11_addMethod_263 : decode cX11_addMethod 263 = .ok (.getfield 18, 3) := by decide +kernel
theorem dX11_addMethod_266 : decode cX11_addMethod 266 = .ok (.aload_n 0, 1) := by decide +kernel
theorem dX11_addMethod_267 : decode cX11_addMethod 267 = .ok (.aload_n 0, 1) := by decide +kernel
theorem dX11_addMethod_268 : decode cX11_addMethod 268 = .ok (.getfield 180, 3) := by decide +kernel
theorem dX11_addMethod_271 : decode cX11_addMethod 271 = .ok (.getfield 216, 3) := by decide +kernel
theorem dX11_addMethod_274 : decode cX11_addMethod 274 = .ok (.iload 5, 2) := by decide +kernel
theorem dX11_addMethod_276 : decode cX11_addMethod 276 = .ok (.iaload, 1) := by decide +kernel
theorem dX11_addMethod_277 : decode cX11_addMethod 277 = .ok (.invokevirtual 213, 3) := by decide +kernel
theorem dX11_addMethod_280 : decode cX11_addMethod 280 = .ok (.invokevirtual 105, 3) := by decide +kernel
theorem dX11_addMethod_283 : decode cX11_addMethod 283 = .ok (.aload_n 0, 1) := by decide +kernel
theorem dX11_addMethod_284 : decode cX11_addMethod 284 = .ok (.getfield 18, 3) := by decide +kernel
theorem dX11_addMethod_287 : decode cX11_addMethod 287 = .ok (.aload_n 0, 1) := by decide +kernel
theorem dX11_addMethod_288 : decode cX11_addMethod 288 = .ok (.aload_n 0, 1) := by decide +kernel
theorem dX11_addMethod_289 : decode cX11_addMethod 289 = .ok (.getfield 180, 3) := by decide +kernel
theorem dX11_addMethod_292 : decode cX11_addMethod 292 = .ok (.getfield 219, 3) := by decide +kernel
theorem dX11_addMethod_295 : decode cX11_addMethod 295 = .ok (.iload 5, 2) := by decide +kernel
theorem dX11_addMethod_297 : decode cX11_addMethod 297 = .ok (.iaload, 1) := by decide +kernel
theorem dX11_addMethod_298 : decode cX11_addMethod 298 = .ok (.invokevirtual 213, 3) := by decide +kernel
theorem dX11_addMethod_301 : decode cX11_addMethod 301 = .ok (.invokevirtual 105, 3) := by decide +kernel
theorem dX11_addMethod_304 : decode cX11_addMethod 304 = .ok (.aload_n 0, 1) := by decide +kernel
theorem dX11_addMethod_305 : decode cX11_addMethod 305 = .ok (.getfield 18, 3) := by decide +kernel
theorem dX11_addMethod_308 : decode cX11_addMethod 308 = .ok (.aload_n 0, 1) := by decide +kernel
theorem dX11_addMethod_309 : decode cX11_addMethod 309 = .ok (.aload_n 0, 1) := by decide +kernel
theorem dX11_addMethod_310 : decode cX11_addMethod 310 = .ok (.getfield 180, 3) := by decide +kernel
theorem dX11_addMethod_313 : decode cX11_addMethod 313 = .ok (.getfield 222, 3) := by decide +kernel
theorem dX11_addMethod_316 : decode cX11_addMethod 316 = .ok (.iload 5, 2) := by decide +kernel
theorem dX11_addMethod_318 : decode cX11_addMethod 318 = .ok (.iaload, 1) := by decide +kernel
theorem dX11_addMethod_319 : decode cX11_addMethod 319 = .ok (.invokevirtual 225, 3) := by decide +kernel
theorem dX11_addMethod_322 : decode cX11_addMethod 322 = .ok (.invokevirtual 105, 3) := by decide +kernel
theorem dX11_addMethod_325 : decode cX11_addMethod 325 = .ok (.iinc 5 1, 3) := by decide +kernel
theorem dX11_addMethod_328 : decode cX11_addMethod 328 = .ok (.goto (-99), 3) := by decide +kernel
theorem dX11_addMethod_331 : decode cX11_addMethod 331 = .ok (.aload_n 0, 1) := by decide +kernel
theorem dX11_addMethod_332 : decode cX11_addMethod 332 = .ok (.getfield 18, 3) := by decide +kernel
theorem dX11_addMethod_335 : decode cX11_addMethod 335 = .ok (.iconst 0, 1) := by decide +kernel
theorem dX11_addMethod_336 : decode cX11_addMethod 336 = .ok (.invokevirtual 105, 3) := by decide +kernel
theorem dX11_addMethod_339 : decode cX11_addMethod 339 = .ok (.return_, 1) := by decide +kernel
theorem dX11_begin_0 : decode cX11_begin 0 = .ok (.aload_n 0, 1) := by decide +kernel
theorem dX11_begin_1 : decode cX11_begin 1 = .ok (.aload_n 1, 1) := by decide +kernel
theorem dX11_begin_2 : decode cX11_begin 2 = .ok (.putfield 56, 3) := by decide +kernel
theorem dX11_begin_5 : decode cX11_begin 5 = .ok (.aload_n 0, 1) := by decide +kernel
theorem dX11_begin_6 : decode cX11_begin 6 = .ok (.getfield 12, 3) := by decide +kernel
theorem dX11_begin_9 : decode cX11_begin 9 = .ok (.iconst 0, 1) := by decide +kernel
theorem dX11_begin_10 : decode cX11_begin 10 = .ok (.putfield 60, 3) := by decide +kernel
theorem dX11_begin_13 : decode cX11_begin 13 = .ok (.aload_n 0, 1) := by decide +kernel
theorem dX11_begin_14 : decode cX11_begin 14 = .ok (.getfield 18, 3) := by decide +kernel
theorem dX11_begin_17 : decode cX11_begin 17 = .ok (.iconst 0, 1) := by decide +kernel
theorem dX11_begin_18 : decode cX11_begin 18 = .ok (.putfield 60, 3) := by decide +kernel
theorem dX11_begin_21 : decode cX11_begin 21 = .ok (.aload_n 0, 1) := by decide +kernel
theorem dX11_begin_22 : decode cX11_begin 22 = .ok (.iconst 1, 1) := by decide +kernel
theorem dX11_begin_23 : decode cX11_begin 23 = .ok (.putfield 64, 3) := by decide +kernel
theorem dX11_begin_26 : decode cX11_begin 26 = .ok (.aload_n 0, 1) := by decide +kernel
theorem dX11_begin_27 : decode cX11_begin 27 = .ok (.iconst 0, 1) := by decide +kernel
theorem dX11_begin_28 : decode cX11_begin 28 = .ok (.putfield 67, 3) := by decide +kernel
theorem dX11_begin_31 : decode cX11_begin 31 = .ok (.aload_n 0, 1) := by decide +kernel
theorem dX11_begin_32 : decode cX11_begin 32 = .ok (.getfield 37, 3) := by decide +kernel
theorem dX11_begin_35 : decode cX11_begin 35 = .ok (.iconst 0, 1) := by decide +kernel
theorem dX11_begin_36 : decode cX11_begin 36 = .ok (.invokestatic 71, 3) := by decide +kernel
theorem dX11_begin_39 : decode cX11_begin 39 = .ok (.aload_n 0, 1) := by decide +kernel
theorem dX11_begin_40 : decode cX11_begin 40 = .ok (.getfield 40, 3) := by decide +kernel
theorem dX11_begin_43 : decode cX11_begin 43 = .ok (.iconst 0, 1) := by decide +kernel
theorem dX11_begin_44 : decode cX11_begin 44 = .ok (.invokestatic 71, 3) := by decide +kernel
theorem dX11_begin_47 : decode cX11_begin 47 = .ok (.aload_n 0, 1) := by decide +kernel
theorem dX11_begin_48 : decode cX11_begin 48 = .ok (.aload_n 0, 1) := by decide +kernel
theorem dX11_begin_49 : decode cX11_begin 49 = .ok (.ldc 77, 2) := by decide +kernel
theorem dX11_begin_51 : decode cX11_begin 51 = .ok (.invokevirtual 79, 3) := by decide +kernel
theorem dX11_begin_54 : decode cX11_begin 54 = .ok (.putfield 83, 3) := by decide +kernel
theorem dX11_begin_57 : decode cX11_begin 57 = .ok (.aload_n 0, 1) := by decide +kernel
theorem dX11_begin_58 : decode cX11_begin 58 = .ok (.aload_n 0, 1) := by decide +kernel
theorem dX11_begin_59 : decode cX11_begin 59 = .ok (.bipush 7, 2) := by decide +kernel
theorem dX11_begin_61 : decode cX11_begin 61 = .ok (.aload_n 0, 1) := by decide +kernel
theorem dX11_begin_62 : decode cX11_begin 62 = .ok (.aload_n 0, 1) := by decide +kernel
theorem dX11_begin_63 : decode cX11_begin 63 = .ok (.getfield 56, 3) := by decide +kernel
theorem dX11_begin_66 : decode cX11_begin 66 = .ok (.getfield 86, 3) := by decide +kernel
theorem dX11_begin_69 : decode cX11_begin 69 = .ok (.invokevirtual 91, 3) := by decide +kernel
theorem dX11_begin_72 : decode cX11_begin 72 = .ok (.invokevirtual 95, 3) := by decide +kernel
theorem dX11_begin_75 : decode cX11_begin 75 = .ok (.putfield 99, 3) := by decide +kernel
theorem dX11_begin_78 : decode cX11_begin 78 = .ok (.aload_n 0, 1) := by decide +kernel
theorem dX11_begin_79 : decode cX11_begin 79 = .ok (.bipush 7, 2) := by decide +kernel
theorem dX11_begin_81 : decode cX11_begin 81 = .ok (.aload_n 0, 1) := by decide +kernel
theorem dX11_begin_82 : decode cX11_begin 82 = .ok (.aload_n 0, 1) := by decide +kernel
theorem dX11_begin_83 : decode cX11_begin 83 = .ok (.getfield 56, 3) := by decide +kernel
theorem dX11_begin_86 : decode cX11_begin 86 = .ok (.getfield 102, 3) := by decide +kernel
theorem dX11_begin_89 : decode cX11_begin 89 = .ok (.invokevirtual 91, 3) := by decide +kernel
theorem dX11_begin_92 : decode cX11_begin 92 = .ok (.invokevirtual 95, 3) := by decide +kernel
theorem dX11_begin_95 : decode cX11_begin 95 = .ok (.istore_n 3, 1) := by decide +kernel
theorem dX11_begin_96 : decode cX11_begin 96 = .ok (.aload_n 0, 1) := by decide +kernel
theorem dX11_begin_97 : decode cX11_begin 97 = .ok (.getfield 18, 3) := by decide +kernel
theorem dX11_begin_100 : decode cX11_begin 100 = .ok (.bipush 33, 2) := by decide +kernel
theorem dX11_begin_102 : decode cX11_begin 102 = .ok (.invokevirtual 105, 3) := by decide +kernel
theorem dX11_begin_105 : decode cX11_begin 105 = .ok (.aload_n 0, 1) := by decide +kernel
theorem dX11_begin_106 : decode cX11_begin 106 = .ok (.getfield 18, 3) := by decide +kernel
theorem dX11_begin_109 : decode cX11_begin 109 = .ok (.aload_n 0, 1) := by decide +kernel
theorem dX11_begin_110 : decode cX11_begin 110 = .ok (.getfield 99, 3) := by decide +kernel
theorem dX11_begin_113 : decode cX11_begin 113 = .ok (.invokevirtual 105, 3) := by decide +kernel
theorem dX11_begin_116 : decode cX11_begin 116 = .ok (.aload_n 0, 1) := by decide +kernel
theorem dX11_begin_117 : decode cX11_begin 117 = .ok (.getfield 18, 3) := by decide +kernel
theorem dX11_begin_120 : decode cX11_begin 120 = .ok (.iload_n 3, 1) := by decide +kernel
theorem dX11_begin_121 : decode cX11_begin 121 = .ok (.invokevirtual 105, 3) := by decide +kernel
theorem dX11_begin_124 : decode cX11_begin 124 = .ok (.aload_n 0, 1) := by decide +kernel
theorem dX11_begin_125 : decode cX11_begin 125 = .ok (.getfield 18, 3) := by decide +kernel
theorem dX11_begin_128 : decode cX11_begin 128 = .ok (.iconst 0, 1) := by decide +kernel
theorem dX11_begin_129 : decode cX11_begin 129 = .ok (.invokevirtual 105, 3) := by decide +kernel
theorem dX11_begin_132 : decode cX11_begin 132 = .ok (.aload_n 0, 1) := by decide +kernel
theorem dX11_begin_133 : decode cX11_begin 133 = .ok (.getfield 56, 3) := by decide +kernel
theorem dX11_begin_136 : decode cX11_begin 136 = .ok (.getfield 109, 3) := by decide +kernel
theorem dX11_begin_139 : decode cX11_begin 139 = .ok (.iload_n 2, 1) := by decide +kernel
theorem dX11_begin_140 : decode cX11_begin 140 = .ok (.iadd, 1) := by decide +kernel
theorem dX11_begin_141 : decode cX11_begin 141 = .ok (.istore 4, 2) := by decide +kernel
theorem dX11_begin_143 : decode cX11_begin 143 = .ok (.aload_n 0, 1) := by decide +kernel
theorem dX11_begin_144 : decode cX11_begin 144 = .ok (.getfield 18, 3) := by decide +kernel
theorem dX11_begin_147 : decode cX11_begin 147 = .ok (.iload 4, 2) := by decide +kernel
theorem dX11_begin_149 : decode cX11_begin 149 = .ok (.invokevirtual 105, 3) := by decide +kernel
theorem dX11_begin_152 : decode cX11_begin 152 = .ok (.iconst 0, 1) := by decide +kernel
theorem dX11_begin_153 : decode cX11_begin 153 = .ok (.istore 5, 2) := by decide +kernel
theorem dX11_begin_155 : decode cX11_begin 155 = .ok (.iload 5, 2) := by decide +kernel
theorem dX11_begin_157 : decode cX11_begin 157 = .ok (.iload 4, 2) := by decide +kernel
theorem dX11_begin_159 : decode cX11_begin 159 = .ok (.if_icmp .ge 134, 3) := by decide +kernel
theorem dX11_begin_162 : decode cX11_begin 162 = .ok (.iload 5, 2) := by decide +kernel
theorem dX11_begin_164 : decode cX11_begin 164 = .ok (.bipush 24, 2) := by decide +kernel
theorem dX11_begin_166 : decode cX11_begin 166 = .ok (.if_icmp .ge 127, 3) := by decide +kernel
theorem dX11_begin_169 : decode cX11_begin 169 = .ok (.iload 5, 2) := by decide +kernel
theorem dX11_begin_171 : decode cX11_begin 171 = .ok (.aload_n 0, 1) := by decide +kernel
theorem dX11_begin_172 : decode cX11_begin 172 = .ok (.getfield 56, 3) := by decide +kernel
theorem dX11_begin_175 : decode cX11_begin 175 = .ok (.getfield 112, 3) := by decide +kernel
theorem dX11_begin_178 : decode cX11_begin 178 = .ok (.arraylength, 1) := by decide +kernel
theorem dX11_begin_179 : decode cX11_begin 179 = .ok (.if_icmp .ge 7, 3) := by decide +kernel
theorem dX11_begin_182 : decode cX11_begin 182 = .ok (.iconst 1, 1) := by decide +kernel
theorem dX11_begin_183 : decode cX11_begin 183 = .ok (.goto 4, 3) := by decide +kernel
theorem dX11_begin_186 : decode cX11_begin 186 = .ok (.iconst 0, 1) := by decide +kernel
theorem dX11_begin_187 : decode cX11_begin 187 = .ok (.istore 6, 2) := by decide +kernel
theorem dX11_begin_189 : decode cX11_begin 189 = .ok (.aload_n 0, 1) := by decide +kernel
theorem dX11_begin_190 : decode cX11_begin 190 = .ok (.getfield 31, 3) := by decide +kernel
theorem dX11_begin_193 : decode cX11_begin 193 = .ok (.iload 5, 2) := by decide +kernel
theorem dX11_begin_195 : decode cX11_begin 195 = .ok (.iload 6, 2) := by decide +kernel
theorem dX11_begin_197 : decode cX11_begin 197 = .ok (.ifCond .eq 20, 3) := by decide +kernel
theorem dX11_begin_200 : decode cX11_begin 200 = .ok (.aload_n 0, 1) := by decide +kernel
theorem dX11_begin_201 : decode cX11_begin 201 = .ok (.aload_n 0, 1) := by decide +kernel
theorem dX11_begin_202 : decode cX11_begin 202 = .ok (.getfield 56, 3) := by decide +kernel
theorem dX11_begin_205 : decode cX11_begin 205 = .ok (.getfield 112, 3) := by decide +kernel
theorem dX11_begin_208 : decode cX11_begin 208 = .ok (.iload 5, 2) := by decide +kernel
theorem dX11_begin_210 : decode cX11_begin 210 = .ok (.iaload, 1) := by decide +kernel
theorem dX11_begin_211 : decode cX11_begin 211 = .ok (.invokevirtual 91, 3) := by decide +kernel
theorem dX11_begin_214 : decode cX11_begin 214 = .ok (.goto 18, 3) := by decide +kernel
theorem dX11_begin_217 : decode cX11_begin 217 = .ok (.aload_n 0, 1) := by decide +kernel
theorem dX11_begin_218 : decode cX11_begin 218 = .ok (.iload 5, 2) := by decide +kernel
theorem dX11_begin_220 : decode cX11_begin 220 = .ok (.aload_n 0, 1) := by decide +kernel
theorem dX11_begin_221 : decode cX11_begin 221 = .ok (.getfield 56, 3) := by decide +kernel
theorem dX11_begin_224 : decode cX11_begin 224 = .ok (.getfield 112, 3) := by decide +kernel
theorem dX11_begin_227 : decode cX11_begin 227 = .ok (.arraylength, 1) := by decide +kernel
theorem dX11_begin_228 : decode cX11_begin 228 = .ok (.isub, 1) := by decide +kernel
theorem dX11_begin_229 : decode cX11_begin 229 = .ok (.invokevirtual 113, 3) := by decide +kernel
theorem dX11_begin_232 : decode cX11_begin 232 = .ok (.iastore, 1) := by decide +kernel
theorem dX11_begin_233 : decode cX11_begin 233 = .ok (.aload_n 0, 1) := by decide +kernel
theorem dX11_begin_234 : decode cX11_begin 234 = .ok (.getfield 34, 3) := by decide +kernel
theorem dX11_begin_237 : decode cX11_begin 237 = .ok (.iload 5, 2) := by decide +kernel
theorem dX11_begin_239 : decode cX11_begin 239 = .ok (.iload 6, 2) := by decide +kernel
theorem dX11_begin_241 : decode cX11_begin 241 = .ok (.ifCond .eq 20, 3) := by decide +kernel
theorem dX11_begin_244 : decode cX11_begin 244 = .ok (.aload_n 0, 1) := by decide +kernel
theorem dX11_begin_245 : decode cX11_begin 245 = .ok (.aload_n 0, 1) := by decide +kernel
theorem dX11_begin_246 : decode cX11_begin 246 = .ok (.getfield 56, 3) := by decide +kernel
theorem dX11_begin_249 : decode cX11_begin 249 = .ok (.getfield 116, 3) := by decide +kernel
theorem dX11_begin_252 : decode cX11_begin 252 = .ok (.iload 5, 2) := by decide +kernel
theorem dX11_begin_254 : decode cX11_begin 254 = .ok (.iaload, 1) := by decide +kernel
theorem dX11_begin_255 : decode cX11_begin 255 = .ok (.invokevirtual 91, 3) := by decide +kernel
theorem dX11_begin_258 : decode cX11_begin 258 = .ok (.goto 9, 3) := by decide +kernel
theorem dX11_begin_261 : decode cX11_begin 261 = .ok (.aload_n 0, 1) := by decide +kernel
theorem dX11_begin_262 : decode cX11_begin 262 = .ok (.ldc 117, 2) := by decide +kernel
theorem dX11_begin_264 : decode cX11_begin 264 = .ok (.invokevirtual 79, 3) := by decide +kernel
theorem dX11_begin_267 : decode cX11_begin 267 = .ok (.iastore, 1) := by decide +kernel
theorem dX11_begin_268 : decode cX11_begin 268 = .ok (.aload_n 0, 1) := by decide +kernel
theorem dX11_begin_269 : decode cX11_begin 269 = .ok (.aload_n 0, 1) := by decide +kernel
theorem dX11_begin_270 : decode cX11_begin 270 = .ok (.getfield 31, 3) := by decide +kernel
theorem dX11_begin_273 : decode cX11_begin 273 = .ok (.iload 5, 2) := by decide +kernel
theorem dX11_begin_275 : decode cX11_begin 275 = .ok (.iaload, 1) := by decide +kernel
theorem dX11_begin_276 : decode cX11_begin 276 = .ok (.aload_n 0, 1) := by decide +kernel
theorem dX11_begin_277 : decode cX11_begin 277 = .ok (.getfield 34, 3) := by decide +kernel
theorem dX11_begin_280 : decode cX11_begin 280 = .ok (.iload 5, 2) := by decide +kernel
theorem dX11_begin_282 : decode cX11_begin 282 = .ok (.iaload, 1) := by decide +kernel
theorem dX11_begin_283 : decode cX11_begin 283 = .ok (.iconst 0, 1) := by decide +kernel
theorem dX11_begin_284 : decode cX11_begin 284 = .ok (.invokevirtual 119, 3) := by decide +kernel
theorem dX11_begin_287 : decode cX11_begin 287 = .ok (.iinc 5 1, 3) := by decide +kernel
theorem dX11_begin_290 : decode cX11_begin 290 = .ok (.goto (-135), 3) := by decide +kernel
theorem dX11_begin_293 : decode cX11_begin 293 = .ok (.aload_n 0, 1) := by decide +kernel
theorem dX11_begin_294 : decode cX11_begin 294 = .ok (.getfield 18, 3) := by decide +kernel
theorem dX11_begin_297 : decode cX11_begin 297 = .ok (.aload_n 0, 1) := by decide +kernel
theorem dX11_begin_298 : decode cX11_begin 298 = .ok (.getfield 56, 3) := by decide +kernel
theorem dX11_begin_301 : decode cX11_begin 301 = .ok (.getfield 123, 3) := by decide +kernel
theorem dX11_begin_304 : decode cX11_begin 304 = .ok (.invokevirtual 105, 3) := by decide +kernel
theorem dX11_begin_307 : decode cX11_begin 307 = .ok (.return_, 1) := by decide +kernel
theorem dX11_classOf_0 : decode cX11_classOf 0 = .ok (.iload_n 1, 1) := by decide +kernel
theorem dX11_classOf_1 : decode cX11_classOf 1 = .ok (.iconst (-1), 1) := by decide +kernel
theorem dX11_classOf_2 : decode cX11_classOf 2 = .ok (.if_icmp .ne 7, 3) := by decide +kernel
theorem dX11_classOf_5 : decode cX11_classOf 5 = .ok (.iconst 0, 1) := by decide +kernel
theorem dX11_classOf_6 : decode cX11_classOf 6 = .ok (.goto 17, 3) := by decide +kernel
theorem dX11_classOf_9 : decode cX11_classOf 9 = .ok (.aload_n 0, 1) := by decide +kernel
theorem dX11_classOf_10 : decode cX11_classOf 10 = .ok (.bipush 7, 2) := by decide +kernel
theorem dX11_classOf_12 : decode cX11_classOf 12 = .ok (.aload_n 0, 1) := by decide +kernel
theorem dX11_classOf_13 : decode cX11_classOf 13 = .ok (.iload_n 1, 1) := by decide +kernel
theorem dX11_classOf_14 : decode cX11_classOf 14 = .ok (.invokestatic 228, 3) := by decide +kernel
theorem dX11_classOf_17 : decode cX11_classOf 17 = .ok (.invokevirtual 79, 3) := by decide +kernel
theorem dX11_classOf_20 : decode cX11_classOf 20 = .ok (.invokevirtual 95, 3) := by decide +kernel
theorem dX11_classOf_23 : decode cX11_classOf 23 = .ok (.ireturn, 1) := by decide +kernel
theorem dX11_counterEntry_0 : decode cX11_counterEntry 0 = .ok (.aload_n 0, 1) := by decide +kernel
theorem dX11_counterEntry_1 : decode cX11_counterEntry 1 = .ok (.iconst 1, 1) := by decide +kernel
theorem dX11_counterEntry_2 : decode cX11_counterEntry 2 = .ok (.invokevirtual 147, 3) := by decide +kernel
theorem dX11_counterEntry_5 : decode cX11_counterEntry 5 = .ok (.aload_n 0, 1) := by decide +kernel
theorem dX11_counterEntry_6 : decode cX11_counterEntry 6 = .ok (.getfield 21, 3) := by decide +kernel
theorem dX11_counterEntry_9 : decode cX11_counterEntry 9 = .ok (.iload_n 1, 1) := by decide +kernel
theorem dX11_counterEntry_10 : decode cX11_counterEntry 10 = .ok (.bipush 10, 2) := by decide +kernel
theorem dX11_counterEntry_12 : decode cX11_counterEntry 12 = .ok (.if_icmp .ge 7, 3) := by decide +kernel
theorem dX11_counterEntry_15 : decode cX11_counterEntry 15 = .ok (.iconst 2, 1) := by decide +kernel
theorem dX11_counterEntry_16 : decode cX11_counterEntry 16 = .ok (.goto 4, 3) := by decide +kernel
theorem dX11_counterEntry_19 : decode cX11_counterEntry 19 = .ok (.iconst 3, 1) := by decide +kernel
theorem dX11_counterEntry_20 : decode cX11_counterEntry 20 = .ok (.invokevirtual 105, 3) := by decide +kernel
theorem dX11_counterEntry_23 : decode cX11_counterEntry 23 = .ok (.aload_n 0, 1) := by decide +kernel
theorem dX11_counterEntry_24 : decode cX11_counterEntry 24 = .ok (.getfield 21, 3) := by decide +kernel
theorem dX11_counterEntry_27 : decode cX11_counterEntry 27 = .ok (.bipush 99, 2) := by decide +kernel
theorem dX11_counterEntry_29 : decode cX11_counterEntry 29 = .ok (.invokevirtual 129, 3) := by decide +kernel
theorem dX11_counterEntry_32 : decode cX11_counterEntry 32 = .ok (.iload_n 1, 1) := by decide +kernel
theorem dX11_counterEntry_33 : decode cX11_counterEntry 33 = .ok (.bipush 10, 2) := by decide +kernel
theorem dX11_counterEntry_35 : decode cX11_counterEntry 35 = .ok (.if_icmp .lt 17, 3) := by decide +kernel
theorem dX11_counterEntry_38 : decode cX11_counterEntry 38 = .ok (.aload_n 0, 1) := by decide +kernel
theorem dX11_counterEntry_39 : decode cX11_counterEntry 39 = .ok (.getfield 21, 3) := by decide +kernel
theorem dX11_counterEntry_42 : decode cX11_counterEntry 42 = .ok (.bipush 48, 2) := by decide +kernel
theorem dX11_counterEntry_44 : decode cX11_counterEntry 44 = .ok (.iload_n 1, 1) := by decide +kernel
theorem dX11_counterEntry_45 : decode cX11_counterEntry 45 = .ok (.bipush 10, 2) := by decide +kernel
theorem dX11_counterEntry_47 : decode cX11_counterEntry 47 = .ok (.idiv, 1) := by decide +kernel
theorem dX11_counterEntry_48 : decode cX11_counterEntry 48 = .ok (.iadd, 1) := by decide +kernel
theorem dX11_counterEntry_49 : decode cX11_counterEntry 49 = .ok (.invokevirtual 129, 3) := by decide +kernel
theorem dX11_counterEntry_52 : decode cX11_counterEntry 52 = .ok (.aload_n 0, 1) := by decide +kernel
theorem dX11_counterEntry_53 : decode cX11_counterEntry 53 = .ok (.getfield 21, 3) := by decide +kernel
theorem dX11_counterEntry_56 : decode cX11_counterEntry 56 = .ok (.bipush 48, 2) := by decide +kernel
theorem dX11_counterEntry_58 : decode cX11_counterEntry 58 = .ok (.iload_n 1, 1) := by decide +kernel
theorem dX11_counterEntry_59 : decode cX11_counterEntry 59 = .ok (.bipush 10, 2) := by decide +kernel
theorem dX11_counterEntry_61 : decode cX11_counterEntry 61 = .ok (.irem, 1) := by decide +kernel
theorem dX11_counterEntry_62 : decode cX11_counterEntry 62 = .ok (.iadd, 1) := by decide +kernel
theorem dX11_counterEntry_63 : decode cX11_counterEntry 63 = .ok (.invokevirtual 129, 3) := by decide +kernel
theorem dX11_counterEntry_66 : decode cX11_counterEntry 66 = .ok (.aload_n 0, 1) := by decide +kernel
theorem dX11_counterEntry_67 : decode cX11_counterEntry 67 = .ok (.invokevirtual 160, 3) := by decide +kernel
theorem dX11_counterEntry_70 : decode cX11_counterEntry 70 = .ok (.ireturn, 1) := by decide +kernel
theorem dX11_entryOfWanted_0 : decode cX11_entryOfWanted 0 = .ok (.iconst 1, 1) := by decide +kernel
theorem dX11_entryOfWanted_1 : decode cX11_entryOfWanted 1 = .ok (.istore_n 1, 1) := by decide +kernel
theorem dX11_entryOfWanted_2 : decode cX11_entryOfWanted 2 = .ok (.iload_n 1, 1) := by decide +kernel
theorem dX11_entryOfWanted_3 : decode cX11_entryOfWanted 3 = .ok (.aload_n 0, 1) := by decide +kernel
theorem dX11_entryOfWanted_4 : decode cX11_entryOfWanted 4 = .ok (.getfield 64, 3) := by decide +kernel
theorem dX11_entryOfWanted_7 : decode cX11_entryOfWanted 7 = .ok (.if_icmp .ge 28, 3) := by decide +kernel
theorem dX11_entryOfWanted_10 : decode cX11_entryOfWanted 10 = .ok (.iload_n 1, 1) := by decide +kernel
theorem dX11_entryOfWanted_11 : decode cX11_entryOfWanted 11 = .ok (.aload_n 0, 1) := by decide +kernel
theorem dX11_entryOfWanted_12 : decode cX11_entryOfWanted 12 = .ok (.getfield 24, 3) := by decide +kernel
theorem dX11_entryOfWanted_15 : decode cX11_entryOfWanted 15 = .ok (.arraylength, 1) := by decide +kernel
theorem dX11_entryOfWanted_16 : decode cX11_entryOfWanted 16 = .ok (.if_icmp .ge 19, 3) := by decide +kernel
theorem dX11_entryOfWanted_19 : decode cX11_entryOfWanted 19 = .ok (.aload_n 0, 1) := by decide +kernel
theorem dX11_entryOfWanted_20 : decode cX11_entryOfWanted 20 = .ok (.iload_n 1, 1) := by decide +kernel
theorem dX11_entryOfWanted_21 : decode cX11_entryOfWanted 21 = .ok (.invokevirtual 136, 3) := by decide +kernel
theorem dX11_entryOfWanted_24 : decode cX11_entryOfWanted 24 = .ok (.ifCond .eq 5, 3) := by decide +kernel
theorem dX11_entryOfWanted_27 : decode cX11_entryOfWanted 27 = .ok (.iload_n 1, 1) := by decide +kernel
theorem dX11_entryOfWanted_28 : decode cX11_entryOfWanted 28 = .ok (.ireturn, 1) := by decide +kernel
theorem dX11_entryOfWanted_29 : decode cX11_entryOfWanted 29 = .ok (.iinc 1 1, 3) := by decide +kernel
theorem dX11_entryOfWanted_32 : decode cX11_entryOfWanted 32 = .ok (.goto (-30), 3) := by decide +kernel
theorem dX11_entryOfWanted_35 : decode cX11_entryOfWanted 35 = .ok (.aload_n 0, 1) := by decide +kernel
theorem dX11_entryOfWanted_36 : decode cX11_entryOfWanted 36 = .ok (.getfield 21, 3) := by decide +kernel
theorem dX11_entryOfWanted_39 : decode cX11_entryOfWanted 39 = .ok (.iconst 0, 1) := by decide +kernel
theorem dX11_entryOfWanted_40 : decode cX11_entryOfWanted 40 = .ok (.invokevirtual 140, 3) := by decide +kernel
theorem dX11_entryOfWanted_43 : decode cX11_entryOfWanted 43 = .ok (.iconst 5, 1) := by decide +kernel
theorem dX11_entryOfWanted_44 : decode cX11_entryOfWanted 44 = .ok (.if_icmp .ne 7, 3) := by decide +kernel
theorem dX11_entryOfWanted_47 : decode cX11_entryOfWanted 47 = .ok (.iconst 2, 1) := by decide +kernel
theorem dX11_entryOfWanted_48 : decode cX11_entryOfWanted 48 = .ok (.goto 4, 3) := by decide +kernel
theorem dX11_entryOfWanted_51 : decode cX11_entryOfWanted 51 = .ok (.iconst 1, 1) := by decide +kernel
theorem dX11_entryOfWanted_52 : decode cX11_entryOfWanted 52 = .ok (.istore_n 1, 1) := by decide +kernel
theorem dX11_entryOfWanted_53 : decode cX11_entryOfWanted 53 = .ok (.aload_n 0, 1) := by decide +kernel
theorem dX11_entryOfWanted_54 : decode cX11_entryOfWanted 54 = .ok (.getfield 64, 3) := by decide +kernel
theorem dX11_entryOfWanted_57 : decode cX11_entryOfWanted 57 = .ok (.iload_n 1, 1) := by decide +kernel
theorem dX11_entryOfWanted_58 : decode cX11_entryOfWanted 58 = .ok (.iadd, 1) := by decide +kernel
theorem dX11_entryOfWanted_59 : decode cX11_entryOfWanted 59 = .ok (.sipush 500, 3) := by decide +kernel
theorem dX11_entryOfWanted_62 : decode cX11_entryOfWanted 62 = .ok (.if_icmp .le 10, 3) := by decide +kernel
theorem dX11_entryOfWanted_65 : decode cX11_entryOfWanted 65 = .ok (.aload_n 0, 1) := by decide +kernel
theorem dX11_entryOfWanted_66 : decode cX11_entryOfWanted 66 = .ok (.iconst 1, 1) := by decide +kernel
theorem dX11_entryOfWanted_67 : decode cX11_entryOfWanted 67 = .ok (.putfield 67, 3) := by decide +kernel
theorem dX11_entryOfWanted_70 : decode cX11_entryOfWanted 70 = .ok (.iconst 0, 1) := by decide +kernel
theorem dX11_entryOfWanted_71 : decode cX11_entryOfWanted 71 = .ok (.ireturn, 1) := by decide +kernel
theorem dX11_entryOfWanted_72 : decode cX11_entryOfWanted 72 = .ok (.aload_n 0, 1) := by decide +kernel
theorem dX11_entryOfWanted_73 : decode cX11_entryOfWanted 73 = .ok (.getfield 24, 3) := by decide +kernel
theorem dX11_entryOfWanted_76 : decode cX11_entryOfWanted 76 = .ok (.aload_n 0, 1) := by decide +kernel
theorem dX11_entryOfWanted_77 : decode cX11_entryOfWanted 77 = .ok (.getfield 64, 3) := by decide +kernel
theorem dX11_entryOfWanted_80 : decode cX11_entryOfWanted 80 = .ok (.aload_n 0, 1) := by decide +kernel
theorem dX11_entryOfWanted_81 : decode cX11_entryOfWanted 81 = .ok (.getfield 12, 3) := by decide +kernel
theorem dX11_entryOfWanted_84 : decode cX11_entryOfWanted 84 = .ok (.getfield 60, 3) := by decide +kernel
theorem dX11_entryOfWanted_87 : decode cX11_entryOfWanted 87 = .ok (.iastore, 1) := by decide +kernel
theorem dX11_entryOfWanted_88 : decode cX11_entryOfWanted 88 = .ok (.aload_n 0, 1) := by decide +kernel
theorem dX11_entryOfWanted_89 : decode cX11_entryOfWanted 89 = .ok (.getfield 12, 3) := by decide +kernel
theorem dX11_entryOfWanted_92 : decode cX11_entryOfWanted 92 = .ok (.aload_n 0, 1) := by decide +kernel
theorem dX11_entryOfWanted_93 : decode cX11_entryOfWanted 93 = .ok (.getfield 21, 3) := by decide +kernel
theorem dX11_entryOfWanted_96 : decode cX11_entryOfWanted 96 = .ok (.invokevirtual 132, 3) := by decide +kernel
theorem dX11_entryOfWanted_99 : decode cX11_entryOfWanted 99 = .ok (.aload_n 0, 1) := by decide +kernel
theorem dX11_entryOfWanted_100 : decode cX11_entryOfWanted 100 = .ok (.getfield 28, 3) := by decide +kernel
theorem dX11_entryOfWanted_103 : decode cX11_entryOfWanted 103 = .ok (.aload_n 0, 1) := by decide +kernel
theorem dX11_entryOfWanted_104 : decode cX11_entryOfWanted 104 = .ok (.getfield 64, 3) := by decide +kernel
theorem dX11_entryOfWanted_107 : decode cX11_entryOfWanted 107 = .ok (.aload_n 0, 1) := by decide +kernel
theorem dX11_entryOfWanted_108 : decode cX11_entryOfWanted 108 = .ok (.getfield 12, 3) := by decide +kernel
theorem dX11_entryOfWanted_111 : decode cX11_entryOfWanted 111 = .ok (.getfield 60, 3) := by decide +kernel
theorem dX11_entryOfWanted_114 : decode cX11_entryOfWanted 114 = .ok (.iastore, 1) := by decide +kernel
theorem dX11_entryOfWanted_115 : decode cX11_entryOfWanted 115 = .ok (.aload_n 0, 1) := by decide +kernel
theorem dX11_entryOfWanted_116 : decode cX11_entryOfWanted 116 = .ok (.dup, 1) := by decide +kernel
theorem dX11_entryOfWanted_117 : decode cX11_entryOfWanted 117 = .ok (.getfield 64, 3) := by decide +kernel
theorem dX11_entryOfWanted_120 : decode cX11_entryOfWanted 120 = .ok (.iload_n 1, 1) := by decide +kernel
theorem dX11_entryOfWanted_121 : decode cX11_entryOfWanted 121 = .ok (.iadd, 1) := by decide +kernel
theorem dX11_entryOfWanted_122 : decode cX11_entryOfWanted 122 = .ok (.putfield 64, 3) := by decide +kernel
theorem dX11_entryOfWanted_125 : decode cX11_entryOfWanted 125 = .ok (.iload_n 1, 1) := by decide +kernel
theorem dX11_entryOfWanted_126 : decode cX11_entryOfWanted 126 = .ok (.iconst 2, 1) := by decide +kernel
theorem dX11_entryOfWanted_127 : decode cX11_entryOfWanted 127 = .ok (.if_icmp .ne 39, 3) := by decide +kernel
theorem dX11_entryOfWanted_130 : decode cX11_entryOfWanted 130 = .ok (.aload_n 0, 1) := by decide +kernel
theorem dX11_entryOfWanted_131 : decode cX11_entryOfWanted 131 = .ok (.getfield 24, 3) := by decide +kernel
theorem dX11_entryOfWanted_134 : decode cX11_entryOfWanted 134 = .ok (.aload_n 0, 1) := by decide +kernel
theorem dX11_entryOfWanted_135 : decode cX11_entryOfWanted 135 = .ok (.getfield 64, 3) := by decide +kernel
theorem dX11_entryOfWanted_138 : decode cX11_entryOfWanted 138 = .ok (.iconst 1, 1) := by decide +kernel
theorem dX11_entryOfWanted_139 : decode cX11_entryOfWanted 139 = .ok (.isub, 1) := by decide +kernel
theorem dX11_entryOfWanted_140 : decode cX11_entryOfWanted 140 = .ok (.aload_n 0, 1) := by decide +kernel
theorem dX11_entryOfWanted_141 : decode cX11_entryOfWanted 141 = .ok (.getfield 12, 3) := by decide +kernel
theorem dX11_entryOfWanted_144 : decode cX11_entryOfWanted 144 = .ok (.getfield 60, 3) := by decide +kernel
theorem dX11_entryOfWanted_147 : decode cX11_entryOfWanted 147 = .ok (.iastore, 1) := by decide +kernel
theorem dX11_entryOfWanted_148 : decode cX11_entryOfWanted 148 = .ok (.aload_n 0, 1) := by decide +kernel
theorem dX11_entryOfWanted_149 : decode cX11_entryOfWanted 149 = .ok (.getfield 28, 3) := by decide +kernel
theorem dX11_entryOfWanted_152 : decode cX11_entryOfWanted 152 = .ok (.aload_n 0, 1) := by decide +kernel
theorem dX11_entryOfWanted_153 : decode cX11_entryOfWanted 153 = .ok (.getfield 64, 3) := by decide +kernel
theorem dX11_entryOfWanted_156 : decode cX11_entryOfWanted 156 = .ok (.iconst 1, 1) := by decide +kernel
theorem dX11_entryOfWanted_157 : decode cX11_entryOfWanted 157 = .ok (.isub, 1) := by decide +kernel
theorem dX11_entryOfWanted_158 : decode cX11_entryOfWanted 158 = .ok (.aload_n 0, 1) := by decide +kernel
theorem dX11_entryOfWanted_159 : decode cX11_entryOfWanted 159 = .ok (.getfield 12, 3) := by decide +kernel
theorem dX11_entryOfWanted_162 : decode cX11_entryOfWanted 162 = .ok (.getfield 60, 3) := by decide +kernel
theorem dX11_entryOfWanted_165 : decode cX11_entryOfWanted 165 = .ok (.iastore, 1) := by decide +kernel
theorem dX11_entryOfWanted_166 : decode cX11_entryOfWanted 166 = .ok (.aload_n 0, 1) := by decide +kernel
theorem dX11_entryOfWanted_167 : decode cX11_entryOfWanted 167 = .ok (.getfield 64, 3) := by decide +kernel
theorem dX11_entryOfWanted_170 : decode cX11_entryOfWanted 170 = .ok (.iload_n 1, 1) := by decide +kernel
theorem dX11_entryOfWanted_171 : decode cX11_entryOfWanted 171 = .ok (.isub, 1) := by decide +kernel
theorem dX11_entryOfWanted_172 : decode cX11_entryOfWanted 172 = .ok (.ireturn, 1) := by decide +kernel
theorem dX11_fieldEntryOf_0 : decode cX11_fieldEntryOf 0 = .ok (.iload_n 1, 1) := by decide +kernel
theorem dX11_fieldEntryOf_1 : decode cX11_fieldEntryOf 1 = .ok (.ifCond .lt 12, 3) := by decide +kernel
theorem dX11_fieldEntryOf_4 : decode cX11_fieldEntryOf 4 = .ok (.iload_n 1, 1) := by decide +kernel
theorem dX11_fieldEntryOf_5 : decode cX11_fieldEntryOf 5 = .ok (.aload_n 0, 1) := by decide +kernel
theorem dX11_fieldEntryOf_6 : decode cX11_fieldEntryOf 6 = .ok (.getfield 37, 3) := by decide +kernel
theorem dX11_fieldEntryOf_9 : decode cX11_fieldEntryOf 9 = .ok (.arraylength, 1) := by decide +kernel
theorem dX11_fieldEntryOf_10 : decode cX11_fieldEntryOf 10 = .ok (.if_icmp .lt 5, 3) := by decide +kernel
theorem dX11_fieldEntryOf_13 : decode cX11_fieldEntryOf 13 = .ok (.iconst 0, 1) := by decide +kernel
theorem dX11_fieldEntryOf_14 : decode cX11_fieldEntryOf 14 = .ok (.ireturn, 1) := by decide +kernel
theorem dX11_fieldEntryOf_15 : decode cX11_fieldEntryOf 15 = .ok (.aload_n 0, 1) := by decide +kernel
theorem dX11_fieldEntryOf_16 : decode cX11_fieldEntryOf 16 = .ok (.getfield 37, 3) := by decide +kernel
theorem dX11_fieldEntryOf_19 : decode cX11_fieldEntryOf 19 = .ok (.iload_n 1, 1) := by decide +kernel
theorem dX11_fieldEntryOf_20 : decode cX11_fieldEntryOf 20 = .ok (.iaload, 1) := by decide +kernel
theorem dX11_fieldEntryOf_21 : decode cX11_fieldEntryOf 21 = .ok (.ifCond .ne 39, 3) := by decide +kernel
theorem dX11_fieldEntryOf_24 : decode cX11_fieldEntryOf 24 = .ok (.aload_n 0, 1) := by decide +kernel
theorem dX11_fieldEntryOf_25 : decode cX11_fieldEntryOf 25 = .ok (.bipush 12, 2) := by decide +kernel
theorem dX11_fieldEntryOf_27 : decode cX11_fieldEntryOf 27 = .ok (.aload_n 0, 1) := by decide +kernel
theorem dX11_fieldEntryOf_28 : decode cX11_fieldEntryOf 28 = .ok (.getfield 31, 3) := by decide +kernel
theorem dX11_fieldEntryOf_31 : decode cX11_fieldEntryOf 31 = .ok (.iload_n 1, 1) := by decide +kernel
theorem dX11_fieldEntryOf_32 : decode cX11_fieldEntryOf 32 = .ok (.iaload, 1) := by decide +kernel
theorem dX11_fieldEntryOf_33 : decode cX11_fieldEntryOf 33 = .ok (.aload_n 0, 1) := by decide +kernel
theorem dX11_fieldEntryOf_34 : decode cX11_fieldEntryOf 34 = .ok (.getfield 34, 3) := by decide +kernel
theorem dX11_fieldEntryOf_37 : decode cX11_fieldEntryOf 37 = .ok (.iload_n 1, 1) := by decide +kernel
theorem dX11_fieldEntryOf_38 : decode cX11_fieldEntryOf 38 = .ok (.iaload, 1) := by decide +kernel
theorem dX11_fieldEntryOf_39 : decode cX11_fieldEntryOf 39 = .ok (.invokevirtual 170, 3) := by decide +kernel
theorem dX11_fieldEntryOf_42 : decode cX11_fieldEntryOf 42 = .ok (.istore_n 2, 1) := by decide +kernel
theorem dX11_fieldEntryOf_43 : decode cX11_fieldEntryOf 43 = .ok (.aload_n 0, 1) := by decide +kernel
theorem dX11_fieldEntryOf_44 : decode cX11_fieldEntryOf 44 = .ok (.getfield 37, 3) := by decide +kernel
theorem dX11_fieldEntryOf_47 : decode cX11_fieldEntryOf 47 = .ok (.iload_n 1, 1) := by decide +kernel
theorem dX11_fieldEntryOf_48 : decode cX11_fieldEntryOf 48 = .ok (.aload_n 0, 1) := by decide +kernel
theorem dX11_fieldEntryOf_49 : decode cX11_fieldEntryOf 49 = .ok (.bipush 9, 2) := by decide +kernel
theorem dX11_fieldEntryOf_51 : decode cX11_fieldEntryOf 51 = .ok (.aload_n 0, 1) := by decide +kernel
theorem dX11_fieldEntryOf_52 : decode cX11_fieldEntryOf 52 = .ok (.getfield 99, 3) := by decide +kernel
theorem dX11_fieldEntryOf_55 : decode cX11_fieldEntryOf 55 = .ok (.iload_n 2, 1) := by decide +kernel
theorem dX11_fieldEntryOf_56 : decode cX11_fieldEntryOf 56 = .ok (.invokevirtual 170, 3) := by decide +kernel
theorem dX11_fieldEntryOf_59 : decode cX11_fieldEntryOf 59 = .ok (.iastore, 1) := by decide +kernel
theorem dX11_fieldEntryOf_60 : decode cX11_fieldEntryOf 60 = .ok (.aload_n 0, 1) := by decide +kernel
theorem dX11_fieldEntryOf_61 : decode cX11_fieldEntryOf 61 = .ok (.getfield 37, 3) := by decide +kernel
theorem dX11_fieldEntryOf_64 : decode cX11_fieldEntryOf 64 = .ok (.iload_n 1, 1) := by decide +kernel
theorem dX11_fieldEntryOf_65 : decode cX11_fieldEntryOf 65 = .ok (.iaload, 1) := by decide +kernel
theorem dX11_fieldEntryOf_66 : decode cX11_fieldEntryOf 66 = .ok (.ireturn, 1) := by decide +kernel
theorem dX11_finish_0 : decode cX11_finish 0 = .ok (.aload_n 0, 1) := by decide +kernel
theorem dX11_finish_1 : decode cX11_finish 1 = .ok (.getfield 18, 3) := by decide +kernel
theorem dX11_finish_4 : decode cX11_finish 4 = .ok (.iconst 0, 1) := by decide +kernel
theorem dX11_finish_5 : decode cX11_finish 5 = .ok (.invokevirtual 105, 3) := by decide +kernel
theorem dX11_finish_8 : decode cX11_finish 8 = .ok (.aload_n 1, 1) := by decide +kernel
theorem dX11_finish_9 : decode cX11_finish 9 = .ok (.iconst 0, 1) := by decide +kernel
theorem dX11_finish_10 : decode cX11_finish 10 = .ok (.putfield 60, 3) := by decide +kernel
theorem dX11_finish_13 : decode cX11_finish 13 = .ok (.iconst 0, 1) := by decide +kernel
theorem dX11_finish_14 : decode cX11_finish 14 = .ok (.istore_n 2, 1) := by decide +kernel
theorem dX11_finish_15 : decode cX11_finish 15 = .ok (.iload_n 2, 1) := by decide +kernel
theorem dX11_finish_16 : decode cX11_finish 16 = .ok (.getstatic 126, 3) := by decide +kernel
theorem dX11_finish_19 : decode cX11_finish 19 = .ok (.arraylength, 1) := by decide +kernel
theorem dX11_finish_20 : decode cX11_finish 20 = .ok (.if_icmp .ge 18, 3) := by decide +kernel
theorem dX11_finish_23 : decode cX11_finish 23 = .ok (.aload_n 1, 1) := by decide +kernel
theorem dX11_finish_24 : decode cX11_finish 24 = .ok (.getstatic 126, 3) := by decide +kernel
theorem dX11_finish_27 : decode cX11_finish 27 = .ok (.iload_n 2, 1) := by decide +kernel
theorem dX11_finish_28 : decode cX11_finish 28 = .ok (.iaload, 1) := by decide +kernel
theorem dX11_finish_29 : decode cX11_finish 29 = .ok (.invokevirtual 129, 3) := by decide +kernel
theorem dX11_finish_32 : decode cX11_finish 32 = .ok (.iinc 2 1, 3) := by decide +kernel
theorem dX11_finish_35 : decode cX11_finish 35 = .ok (.goto (-20), 3) := by decide +kernel
theorem dX11_finish_38 : decode cX11_finish 38 = .ok (.aload_n 1, 1) := by decide +kernel
theorem dX11_finish_39 : decode cX11_finish 39 = .ok (.aload_n 0, 1) := by decide +kernel
theorem dX11_finish_40 : decode cX11_finish 40 = .ok (.getfield 64, 3) := by decide +kernel
theorem dX11_finish_43 : decode cX11_finish 43 = .ok (.invokevirtual 105, 3) := by decide +kernel
theorem dX11_finish_46 : decode cX11_finish 46 = .ok (.aload_n 1, 1) := by decide +kernel
theorem dX11_finish_47 : decode cX11_finish 47 = .ok (.aload_n 0, 1) := by decide +kernel
theorem dX11_finish_48 : decode cX11_finish 48 = .ok (.getfield 12, 3) := by decide +kernel
theorem dX11_finish_51 : decode cX11_finish 51 = .ok (.invokevirtual 132, 3) := by decide +kernel
theorem dX11_finish_54 : decode cX11_finish 54 = .ok (.aload_n 1, 1) := by decide +kernel
theorem dX11_finish_55 : decode cX11_finish 55 = .ok (.aload_n 0, 1) := by decide +kernel
theorem dX11_finish_56 : decode cX11_finish 56 = .ok (.getfield 18, 3) := by decide +kernel
theorem dX11_finish_59 : decode cX11_finish 59 = .ok (.invokevirtual 132, 3) := by decide +kernel
theorem dX11_finish_62 : decode cX11_finish 62 = .ok (.return_, 1) := by decide +kernel
theorem dX11_fits_0 : decode cX11_fits 0 = .ok (.aload_n 0, 1) := by decide +kernel
theorem dX11_fits_1 : decode cX11_fits 1 = .ok (.getfield 67, 3) := by decide +kernel
theorem dX11_fits_4 : decode cX11_fits 4 = .ok (.ifCond .ne 7, 3) := by decide +kernel
theorem dX11_fits_7 : decode cX11_fits 7 = .ok (.iconst 1, 1) := by decide +kernel
theorem dX11_fits_8 : decode cX11_fits 8 = .ok (.goto 4, 3) := by decide +kernel
theorem dX11_fits_11 : decode cX11_fits 11 = .ok (.iconst 0, 1) := by decide +kernel
theorem dX11_fits_12 : decode cX11_fits 12 = .ok (.ireturn, 1) := by decide +kernel
theorem dX11_init_0 : decode cX11_init 0 = .ok (.aload_n 0, 1) := by decide +kernel
theorem dX11_init_1 : decode cX11_init 1 = .ok (.invokespecial 3, 3) := by decide +kernel
theorem dX11_init_4 : decode cX11_init 4 = .ok (.aload_n 0, 1) := by decide +kernel
theorem dX11_init_5 : decode cX11_init 5 = .ok (.new 9, 3) := by decide +kernel
theorem dX11_init_8 : decode cX11_init 8 = .ok (.dup, 1) := by decide +kernel
theorem dX11_init_9 : decode cX11_init 9 = .ok (.invokespecial 11, 3) := by decide +kernel
theorem dX11_init_12 : decode cX11_init 12 = .ok (.putfield 12, 3) := by decide +kernel
theorem dX11_init_15 : decode cX11_init 15 = .ok (.aload_n 0, 1) := by decide +kernel
theorem dX11_init_16 : decode cX11_init 16 = .ok (.new 9, 3) := by decide +kernel
theorem dX11_init_19 : decode cX11_init 19 = .ok (.dup, 1) := by decide +kernel
theorem dX11_init_20 : decode cX11_init 20 = .ok (.invokespecial 11, 3) := by decide +kernel
theorem dX11_init_23 : decode cX11_init 23 = .ok (.putfield 18, 3) := by decide +kernel
theorem dX11_init_26 : decode cX11_init 26 = .ok (.aload_n 0, 1) := by decide +kernel
theorem dX11_init_27 : decode cX11_init 27 = .ok (.new 9, 3) := by decide +kernel
theorem dX11_init_30 : decode cX11_init 30 = .ok (.dup, 1) := by decide +kernel
theorem dX11_init_31 : decode cX11_init 31 = .ok (.invokespecial 11, 3) := by decide +kernel
theorem dX11_init_34 : decode cX11_init 34 = .ok (.putfield 21, 3) := by decide +kernel
theorem dX11_init_37 : decode cX11_init 37 = .ok (.aload_n 0, 1) := by decide +kernel
theorem dX11_init_38 : decode cX11_init 38 = .ok (.sipush 500, 3) := by decide +kernel
theorem dX11_init_41 : decode cX11_init 41 = .ok (.newarray .int, 2) := by decide +kernel
theorem dX11_init_43 : decode cX11_init 43 = .ok (.putfield 24, 3) := by decide +kernel
theorem dX11_init_46 : decode cX11_init 46 = .ok (.aload_n 0, 1) := by decide +kernel
theorem dX11_init_47 : decode cX11_init 47 = .ok (.sipush 500, 3) := by decide +kernel
theorem dX11_init_50 : decode cX11_init 50 = .ok (.newarray .int, 2) := by decide +kernel
theorem dX11_init_52 : decode cX11_init 52 = .ok (.putfield 28, 3) := by decide +kernel
theorem dX11_init_55 : decode cX11_init 55 = .ok (.aload_n 0, 1) := by decide +kernel
theorem dX11_init_56 : decode cX11_init 56 = .ok (.bipush 24, 2) := by decide +kernel
theorem dX11_init_58 : decode cX11_init 58 = .ok (.newarray .int, 2) := by decide +kernel
theorem dX11_init_60 : decode cX11_init 60 = .ok (.putfield 31, 3) := by decide +kernel
theorem dX11_init_63 : decode cX11_init 63 = .ok (.aload_n 0, 1) := by decide +kernel
theorem dX11_init_64 : decode cX11_init 64 = .ok (.bipush 24, 2) := by decide +kernel
theorem dX11_init_66 : decode cX11_init 66 = .ok (.newarray .int, 2) := by decide +kernel
theorem dX11_init_68 : decode cX11_init 68 = .ok (.putfield 34, 3) := by decide +kernel
theorem dX11_init_71 : decode cX11_init 71 = .ok (.aload_n 0, 1) := by decide +kernel
theorem dX11_init_72 : decode cX11_init 72 = .ok (.bipush 24, 2) := by decide +kernel
theorem dX11_init_74 : decode cX11_init 74 = .ok (.newarray .int, 2) := by decide +kernel
theorem dX11_init_76 : decode cX11_init 76 = .ok (.putfield 37, 3) := by decide +kernel
theorem dX11_init_79 : decode cX11_init 79 = .ok (.aload_n 0, 1) := by decide +kernel
theorem dX11_init_80 : decode cX11_init 80 = .ok (.bipush 24, 2) := by decide +kernel
theorem dX11_init_82 : decode cX11_init 82 = .ok (.newarray .int, 2) := by decide +kernel
theorem dX11_init_84 : decode cX11_init 84 = .ok (.putfield 40, 3) := by decide +kernel
theorem dX11_init_87 : decode cX11_init 87 = .ok (.aload_n 0, 1) := by decide +kernel
theorem dX11_init_88 : decode cX11_init 88 = .ok (.new 43, 3) := by decide +kernel
theorem dX11_init_91 : decode cX11_init 91 = .ok (.dup, 1) := by decide +kernel
theorem dX11_init_92 : decode cX11_init 92 = .ok (.invokespecial 45, 3) := by decide +kernel
theorem dX11_init_95 : decode cX11_init 95 = .ok (.putfield 46, 3) := by decide +kernel
theorem dX11_init_98 : decode cX11_init 98 = .ok (.aload_n 0, 1) := by decide +kernel
theorem dX11_init_99 : decode cX11_init 99 = .ok (.iconst 0, 1) := by decide +kernel
theorem dX11_init_100 : decode cX11_init 100 = .ok (.newarray .int, 2) := by decide +kernel
theorem dX11_init_102 : decode cX11_init 102 = .ok (.putfield 50, 3) := by decide +kernel
theorem dX11_init_105 : decode cX11_init 105 = .ok (.aload_n 0, 1) := by decide +kernel
theorem dX11_init_106 : decode cX11_init 106 = .ok (.iconst 0, 1) := by decide +kernel
theorem dX11_init_107 : decode cX11_init 107 = .ok (.newarray .int, 2) := by decide +kernel
theorem dX11_init_109 : decode cX11_init 109 = .ok (.putfield 53, 3) := by decide +kernel
theorem dX11_init_112 : decode cX11_init 112 = .ok (.return_, 1) := by decide +kernel
theorem dX11_intEntry_0 : decode cX11_intEntry 0 = .ok (.aload_n 0, 1) := by decide +kernel
theorem dX11_intEntry_1 : decode cX11_intEntry 1 = .ok (.iconst 3, 1) := by decide +kernel
theorem dX11_intEntry_2 : decode cX11_intEntry 2 = .ok (.invokevirtual 147, 3) := by decide +kernel
theorem dX11_intEntry_5 : decode cX11_intEntry 5 = .ok (.aload_n 0, 1) := by decide +kernel
theorem dX11_intEntry_6 : decode cX11_intEntry 6 = .ok (.getfield 21, 3) := by decide +kernel
theorem dX11_intEntry_9 : decode cX11_intEntry 9 = .ok (.iload_n 1, 1) := by decide +kernel
theorem dX11_intEntry_10 : decode cX11_intEntry 10 = .ok (.invokevirtual 167, 3) := by decide +kernel
theorem dX11_intEntry_13 : decode cX11_intEntry 13 = .ok (.aload_n 0, 1) := by decide +kernel
theorem dX11_intEntry_14 : decode cX11_intEntry 14 = .ok (.invokevirtual 160, 3) := by decide +kernel
theorem dX11_intEntry_17 : decode cX11_intEntry 17 = .ok (.ireturn, 1) := by decide +kernel
theorem dX11_isByte_0 : decode cX11_isByte 0 = .ok (.lload_n 0, 1) := by decide +kernel
theorem dX11_isByte_1 : decode cX11_isByte 1 = .ok (.lload_n 0, 1) := by decide +kernel
theorem dX11_isByte_2 : decode cX11_isByte 2 = .ok (.l2i, 1) := by decide +kernel
theorem dX11_isByte_3 : decode cX11_isByte 3 = .ok (.i2b, 1) := by decide +kernel
theorem dX11_isByte_4 : decode cX11_isByte 4 = .ok (.i2l, 1) := by decide +kernel
theorem dX11_isByte_5 : decode cX11_isByte 5 = .ok (.lcmp, 1) := by decide +kernel
theorem dX11_isByte_6 : decode cX11_isByte 6 = .ok (.ifCond .ne 7, 3) := by decide +kernel
theorem dX11_isByte_9 : decode cX11_isByte 9 = .ok (.iconst 1, 1) := by decide +kernel
theorem dX11_isByte_10 : decode cX11_isByte 10 = .ok (.goto 4, 3) := by decide +kernel
theorem dX11_isByte_13 : decode cX11_isByte 13 = .ok (.iconst 0, 1) := by decide +kernel
theorem dX11_isByte_14 : decode cX11_isByte 14 = .ok (.ireturn, 1) := by decide +kernel
theorem dX11_isWanted_0 : decode cX11_isWanted 0 = .ok (.aload_n 0, 1) := by decide +kernel
theorem dX11_isWanted_1 : decode cX11_isWanted 1 = .ok (.getfield 24, 3) := by decide +kernel
theorem dX11_isWanted_4 : decode cX11_isWanted 4 = .ok (.iload_n 1, 1) := by decide +kernel
theorem dX11_isWanted_5 : decode cX11_isWanted 5 = .ok (.iaload, 1) := by decide +kernel
theorem dX11_isWanted_6 : decode cX11_isWanted 6 = .ok (.istore_n 2, 1) := by decide +kernel
theorem dX11_isWanted_7 : decode cX11_isWanted 7 = .ok (.aload_n 0, 1) := by decide +kernel
theorem dX11_isWanted_8 : decode cX11_isWanted 8 = .ok (.getfield 28, 3) := by decide +kernel
theorem dX11_isWanted_11 : decode cX11_isWanted 11 = .ok (.iload_n 1, 1) := by decide +kernel
theorem dX11_isWanted_12 : decode cX11_isWanted 12 = .ok (.iaload, 1) := by decide +kernel
theorem dX11_isWanted_13 : decode cX11_isWanted 13 = .ok (.iload_n 2, 1) := by decide +kernel
theorem dX11_isWanted_14 : decode cX11_isWanted 14 = .ok (.isub, 1) := by decide +kernel
theorem dX11_isWanted_15 : decode cX11_isWanted 15 = .ok (.istore_n 3, 1) := by decide +kernel
theorem dX11_isWanted_16 : decode cX11_isWanted 16 = .ok (.iload_n 3, 1) := by decide +kernel
theorem dX11_isWanted_17 : decode cX11_isWanted 17 = .ok (.aload_n 0, 1) := by decide +kernel
theorem dX11_isWanted_18 : decode cX11_isWanted 18 = .ok (.getfield 21, 3) := by decide +kernel
theorem dX11_isWanted_21 : decode cX11_isWanted 21 = .ok (.getfield 60, 3) := by decide +kernel
theorem dX11_isWanted_24 : decode cX11_isWanted 24 = .ok (.if_icmp .ne 24, 3) := by decide +kernel
theorem dX11_isWanted_27 : decode cX11_isWanted 27 = .ok (.iload_n 2, 1) := by decide +kernel
theorem dX11_isWanted_28 : decode cX11_isWanted 28 = .ok (.ifCond .lt 20, 3) := by decide +kernel
theorem dX11_isWanted_31 : decode cX11_isWanted 31 = .ok (.aload_n 0, 1) := by decide +kernel
theorem dX11_isWanted_32 : decode cX11_isWanted 32 = .ok (.getfield 28, 3) := by decide +kernel
theorem dX11_isWanted_35 : decode cX11_isWanted 35 = .ok (.iload_n 1, 1) := by decide +kernel
theorem dX11_isWanted_36 : decode cX11_isWanted 36 = .ok (.iaload, 1) := by decide +kernel
theorem dX11_isWanted_37 : decode cX11_isWanted 37 = .ok (.aload_n 0, 1) := by decide +kernel
theorem dX11_isWanted_38 : decode cX11_isWanted 38 = .ok (.getfield 12, 3) := by decide +kernel
theorem dX11_isWanted_41 : decode cX11_isWanted 41 = .ok (.getfield 143, 3) := by decide +kernel
theorem dX11_isWanted_44 : decode cX11_isWanted 44 = .ok (.arraylength, 1) := by decide +kernel
theorem dX11_isWanted_45 : decode cX11_isWanted 45 = .ok (.if_icmp .le 5, 3) := by decide +kernel
theorem dX11_isWanted_48 : decode cX11_isWanted 48 = .ok (.iconst 0, 1) := by decide +kernel
theorem dX11_isWanted_49 : decode cX11_isWanted 49 = .ok (.ireturn, 1) := by decide +kernel
theorem dX11_isWanted_50 : decode cX11_isWanted 50 = .ok (.iconst 0, 1) := by decide +kernel
theorem dX11_isWanted_51 : decode cX11_isWanted 51 = .ok (.istore 4, 2) := by decide +kernel
theorem dX11_isWanted_53 : decode cX11_isWanted 53 = .ok (.iload 4, 2) := by decide +kernel
theorem dX11_isWanted_55 : decode cX11_isWanted 55 = .ok (.iload_n 3, 1) := by decide +kernel
theorem dX11_isWanted_56 : decode cX11_isWanted 56 = .ok (.if_icmp .ge 49, 3) := by decide +kernel
theorem dX11_isWanted_59 : decode cX11_isWanted 59 = .ok (.iload 4, 2) := by decide +kernel
theorem dX11_isWanted_61 : decode cX11_isWanted 61 = .ok (.aload_n 0, 1) := by decide +kernel
theorem dX11_isWanted_62 : decode cX11_isWanted 62 = .ok (.getfield 21, 3) := by decide +kernel
theorem dX11_isWanted_65 : decode cX11_isWanted 65 = .ok (.getfield 143, 3) := by decide +kernel
theorem dX11_isWanted_68 : decode cX11_isWanted 68 = .ok (.arraylength, 1) := by decide +kernel
theorem dX11_isWanted_69 : decode cX11_isWanted 69 = .ok (.if_icmp .ge 36, 3) := by decide +kernel
theorem dX11_isWanted_72 : decode cX11_isWanted 72 = .ok (.aload_n 0, 1) := by decide +kernel
theorem dX11_isWanted_73 : decode cX11_isWanted 73 = .ok (.getfield 12, 3) := by decide +kernel
theorem dX11_isWanted_76 : decode cX11_isWanted 76 = .ok (.getfield 143, 3) := by decide +kernel
theorem dX11_isWanted_79 : decode cX11_isWanted 79 = .ok (.iload_n 2, 1) := by decide +kernel
theorem dX11_isWanted_80 : decode cX11_isWanted 80 = .ok (.iload 4, 2) := by decide +kernel
theorem dX11_isWanted_82 : decode cX11_isWanted 82 = .ok (.iadd, 1) := by decide +kernel
theorem dX11_isWanted_83 : decode cX11_isWanted 83 = .ok (.baload, 1) := by decide +kernel
theorem dX11_isWanted_84 : decode cX11_isWanted 84 = .ok (.aload_n 0, 1) := by decide +kernel
theorem dX11_isWanted_85 : decode cX11_isWanted 85 = .ok (.getfield 21, 3) := by decide +kernel
theorem dX11_isWanted_88 : decode cX11_isWanted 88 = .ok (.getfield 143, 3) := by decide +kernel
theorem dX11_isWanted_91 : decode cX11_isWanted 91 = .ok (.iload 4, 2) := by decide +kernel
theorem dX11_isWanted_93 : decode cX11_isWanted 93 = .ok (.baload, 1) := by decide +kernel
theorem dX11_isWanted_94 : decode cX11_isWanted 94 = .ok (.if_icmp .eq 5, 3) := by decide +kernel
theorem dX11_isWanted_97 : decode cX11_isWanted 97 = .ok (.iconst 0, 1) := by decide +kernel
theorem dX11_isWanted_98 : decode cX11_isWanted 98 = .ok (.ireturn, 1) := by decide +kernel
theorem dX11_isWanted_99 : decode cX11_isWanted 99 = .ok (.iinc 4 1, 3) := by decide +kernel
theorem dX11_isWanted_102 : decode cX11_isWanted 102 = .ok (.goto (-49), 3) := by decide +kernel
theorem dX11_isWanted_105 : decode cX11_isWanted 105 = .ok (.iconst 1, 1) := by decide +kernel
theorem dX11_isWanted_106 : decode cX11_isWanted 106 = .ok (.ireturn, 1) := by decide +kernel
theorem dX11_layOut_0 : decode cX11_layOut 0 = .ok (.aload_n 0, 1) := by decide +kernel
theorem dX11_layOut_1 : decode cX11_layOut 1 = .ok (.getfield 53, 3) := by decide +kernel
theorem dX11_layOut_4 : decode cX11_layOut 4 = .ok (.arraylength, 1) := by decide +kernel
theorem dX11_layOut_5 : decode cX11_layOut 5 = .ok (.aload_n 0, 1) := by decide +kernel
theorem dX11_layOut_6 : decode cX11_layOut 6 = .ok (.getfield 180, 3) := by decide +kernel
theorem dX11_layOut_9 : decode cX11_layOut 9 = .ok (.getfield 205, 3) := by decide +kernel
theorem dX11_layOut_12 : decode cX11_layOut 12 = .ok (.if_icmp .gt 37, 3) := by decide +kernel
theorem dX11_layOut_15 : decode cX11_layOut 15 = .ok (.aload_n 0, 1) := by decide +kernel
theorem dX11_layOut_16 : decode cX11_layOut 16 = .ok (.iconst 2, 1) := by decide +kernel
theorem dX11_layOut_17 : decode cX11_layOut 17 = .ok (.aload_n 0, 1) := by decide +kernel
theorem dX11_layOut_18 : decode cX11_layOut 18 = .ok (.getfield 180, 3) := by decide +kernel
theorem dX11_layOut_21 : decode cX11_layOut 21 = .ok (.getfield 205, 3) := by decide +kernel
theorem dX11_layOut_24 : decode cX11_layOut 24 = .ok (.imul, 1) := by decide +kernel
theorem dX11_layOut_25 : decode cX11_layOut 25 = .ok (.iconst 2, 1) := by decide +kernel
theorem dX11_layOut_26 : decode cX11_layOut 26 = .ok (.iadd, 1) := by decide +kernel
theorem dX11_layOut_27 : decode cX11_layOut 27 = .ok (.newarray .int, 2) := by decide +kernel
theorem dX11_layOut_29 : decode cX11_layOut 29 = .ok (.putfield 53, 3) := by decide +kernel
theorem dX11_layOut_32 : decode cX11_layOut 32 = .ok (.aload_n 0, 1) := by decide +kernel
theorem dX11_layOut_33 : decode cX11_layOut 33 = .ok (.iconst 2, 1) := by decide +kernel
theorem dX11_layOut_34 : decode cX11_layOut 34 = .ok (.aload_n 0, 1) := by decide +kernel
theorem dX11_layOut_35 : decode cX11_layOut 35 = .ok (.getfield 180, 3) := by decide +kernel
theorem dX11_layOut_38 : decode cX11_layOut 38 = .ok (.getfield 205, 3) := by decide +kernel
theorem dX11_layOut_41 : decode cX11_layOut 41 = .ok (.imul, 1) := by decide +kernel
theorem dX11_layOut_42 : decode cX11_layOut 42 = .ok (.iconst 2, 1) := by decide +kernel
theorem dX11_layOut_43 : decode cX11_layOut 43 = .ok (.iadd, 1) := by decide +kernel
theorem dX11_layOut_44 : decode cX11_layOut 44 = .ok (.newarray .int, 2) := by decide +kernel
theorem dX11_layOut_46 : decode cX11_layOut 46 = .ok (.putfield 50, 3) := by decide +kernel
theorem dX11_layOut_49 : decode cX11_layOut 49 = .ok (.iconst 0, 1) := by decide +kernel
theorem dX11_layOut_50 : decode cX11_layOut 50 = .ok (.istore_n 1, 1) := by decide +kernel
theorem dX11_layOut_51 : decode cX11_layOut 51 = .ok (.iconst 0, 1) := by decide +kernel
theorem dX11_layOut_52 : decode cX11_layOut 52 = .ok (.istore_n 2, 1) := by decide +kernel
theorem dX11_layOut_53 : decode cX11_layOut 53 = .ok (.iload_n 2, 1) := by decide +kernel
theorem dX11_layOut_54 : decode cX11_layOut 54 = .ok (.aload_n 0, 1) := by decide +kernel
theorem dX11_layOut_55 : decode cX11_layOut 55 = .ok (.getfield 180, 3) := by decide +kernel
theorem dX11_layOut_58 : decode cX11_layOut 58 = .ok (.getfield 205, 3) := by decide +kernel
theorem dX11_layOut_61 : decode cX11_layOut 61 = .ok (.if_icmp .ge 36, 3) := by decide +kernel
theorem dX11_layOut_64 : decode cX11_layOut 64 = .ok (.aload_n 0, 1) := by decide +kernel
theorem dX11_layOut_65 : decode cX11_layOut 65 = .ok (.getfield 53, 3) := by decide +kernel
theorem dX11_layOut_68 : decode cX11_layOut 68 = .ok (.iload_n 2, 1) := by decide +kernel
theorem dX11_layOut_69 : decode cX11_layOut 69 = .ok (.iload_n 1, 1) := by decide +kernel
theorem dX11_layOut_70 : decode cX11_layOut 70 = .ok (.iastore, 1) := by decide +kernel
theorem dX11_layOut_71 : decode cX11_layOut 71 = .ok (.aload_n 0, 1) := by decide +kernel
theorem dX11_layOut_72 : decode cX11_layOut 72 = .ok (.getfield 50, 3) := by decide +kernel
theorem dX11_layOut_75 : decode cX11_layOut 75 = .ok (.iload_n 2, 1) := by decide +kernel
theorem dX11_layOut_76 : decode cX11_layOut 76 = .ok (.aload_n 0, 1) := by decide +kernel
theorem dX11_layOut_77 : decode cX11_layOut 77 = .ok (.iload_n 2, 1) := by decide +kernel
theorem dX11_layOut_78 : decode cX11_layOut 78 = .ok (.invokevirtual 257, 3) := by decide +kernel
theorem dX11_layOut_81 : decode cX11_layOut 81 = .ok (.iastore, 1) := by decide +kernel
theorem dX11_layOut_82 : decode cX11_layOut 82 = .ok (.iload_n 1, 1) := by decide +kernel
theorem dX11_layOut_83 : decode cX11_layOut 83 = .ok (.aload_n 0, 1) := by decide +kernel
theorem dX11_layOut_84 : decode cX11_layOut 84 = .ok (.iload_n 2, 1) := by decide +kernel
theorem dX11_layOut_85 : decode cX11_layOut 85 = .ok (.iload_n 1, 1) := by decide +kernel
theorem dX11_layOut_86 : decode cX11_layOut 86 = .ok (.invokevirtual 260, 3) := by decide +kernel
theorem dX11_layOut_89 : decode cX11_layOut 89 = .ok (.iadd, 1) := by decide +kernel
theorem dX11_layOut_90 : decode cX11_layOut 90 = .ok (.istore_n 1, 1) := by decide +kernel
theorem dX11_layOut_91 : decode cX11_layOut 91 = .ok (.iinc 2 1, 3) := by decide +kernel
theorem dX11_layOut_94 : decode cX11_layOut 94 = .ok (.goto (-41), 3) := by decide +kernel
theorem dX11_layOut_97 : decode cX11_layOut 97 = .ok (.aload_n 0, 1) := by decide +kernel
theorem dX11_layOut_98 : decode cX11_layOut 98 = .ok (.getfield 53, 3) := by decide +kernel
theorem dX11_layOut_101 : decode cX11_layOut 101 = .ok (.aload_n 0, 1) := by decide +kernel
theorem dX11_layOut_102 : decode cX11_layOut 102 = .ok (.getfield 180, 3) := by decide +kernel
theorem dX11_layOut_105 : decode cX11_layOut 105 = .ok (.getfield 205, 3) := by decide +kernel
theorem dX11_layOut_108 : decode cX11_layOut 108 = .ok (.iload_n 1, 1) := by decide +kernel

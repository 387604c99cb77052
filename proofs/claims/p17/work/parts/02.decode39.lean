theorem dX2_set_7 : decode cX2_set 7 = .ok (.putfield 172, 3) := by decide +kernel
theorem dX2_set_10 : decode cX2_set 10 = .ok (.return_, 1) := by decide +kernel
theorem dX2_switchCount_0 : decode cX2_switchCount 0 = .ok (.aload_n 0, 1) := by decide +kernel
theorem dX2_switchCount_1 : decode cX2_switchCount 1 = .ok (.getfield 169, 3) := by decide +kernel
theorem dX2_switchCount_4 : decode cX2_switchCount 4 = .ok (.sipush 170, 3) := by decide +kernel
theorem dX2_switchCount_7 : decode cX2_switchCount 7 = .ok (.if_icmp .ne 24, 3) := by decide +kernel
theorem dX2_switchCount_10 : decode cX2_switchCount 10 = .ok (.aload_n 0, 1) := by decide +kernel
theorem dX2_switchCount_11 : decode cX2_switchCount 11 = .ok (.iload_n 1, 1) := by decide +kernel
theorem dX2_switchCount_12 : decode cX2_switchCount 12 = .ok (.bipush 8, 2) := by decide +kernel
theorem dX2_switchCount_14 : decode cX2_switchCount 14 = .ok (.iadd, 1) := by decide +kernel
theorem dX2_switchCount_15 : decode cX2_switchCount 15 = .ok (.invokevirtual 163, 3) := by decide +kernel
theorem dX2_switchCount_18 : decode cX2_switchCount 18 = .ok (.aload_n 0, 1) := by decide +kernel
theorem dX2_switchCount_19 : decode cX2_switchCount 19 = .ok (.iload_n 1, 1) := by decide +kernel
theorem dX2_switchCount_20 : decode cX2_switchCount 20 = .ok (.iconst 4, 1) := by decide +kernel
theorem dX2_switchCount_21 : decode cX2_switchCount 21 = .ok (.iadd, 1) := by decide +kernel
theorem dX2_switchCount_22 : decode cX2_switchCount 22 = .ok (.invokevirtual 163, 3) := by decide +kernel
theorem dX2_switchCount_25 : decode cX2_switchCount 25 = .ok (.isub, 1) := by decide +kernel
theorem dX2_switchCount_26 : decode cX2_switchCount 26 = .ok (.iconst 1, 1) := by decide +kernel
theorem dX2_switchCount_27 : decode cX2_switchCount 27 = .ok (.iadd, 1) := by decide +kernel
theorem dX2_switchCount_28 : decode cX2_switchCount 28 = .ok (.goto 10, 3) := by decide +kernel
theorem dX2_switchCount_31 : decode cX2_switchCount 31 = .ok (.aload_n 0, 1) := by decide +kernel
theorem dX2_switchCount_32 : decode cX2_switchCount 32 = .ok (.iload_n 1, 1) := by decide +kernel
theorem dX2_switchCount_33 : decode cX2_switchCount 33 = .ok (.iconst 4, 1) := by decide +kernel
theorem dX2_switchCount_34 : decode cX2_switchCount 34 = .ok (.iadd, 1) := by decide +kernel
theorem dX2_switchCount_35 : decode cX2_switchCount 35 = .ok (.invokevirtual 163, 3) := by decide +kernel
theorem dX2_switchCount_38 : decode cX2_switchCount 38 = .ok (.ireturn, 1) := by decide +kernel
theorem dX2_switchTarget_0 : decode cX2_switchTarget 0 = .ok (.iload_n 2, 1) := by decide +kernel
theorem dX2_switchTarget_1 : decode cX2_switchTarget 1 = .ok (.ifCond .ge 16, 3) := by decide +kernel
theorem dX2_switchTarget_4 : decode cX2_switchTarget 4 = .ok (.aload_n 0, 1) := by decide +kernel
theorem dX2_switchTarget_5 : decode cX2_switchTarget 5 = .ok (.getfield 166, 3) := by decide +kernel
theorem dX2_switchTarget_8 : decode cX2_switchTarget 8 = .ok (.i2l, 1) := by decide +kernel
theorem dX2_switchTarget_9 : decode cX2_switchTarget 9 = .ok (.aload_n 0, 1) := by decide +kernel
theorem dX2_switchTarget_10 : decode cX2_switchTarget 10 = .ok (.iload_n 1, 1) := by decide +kernel
theorem dX2_switchTarget_11 : decode cX2_switchTarget 11 = .ok (.invokevirtual 163, 3) := by decide +kernel
theorem dX2_switchTarget_14 : decode cX2_switchTarget 14 = .ok (.i2l, 1) := by decide +kernel
theorem dX2_switchTarget_15 : decode cX2_switchTarget 15 = .ok (.ladd, 1) := by decide +kernel
theorem dX2_switchTarget_16 : decode cX2_switchTarget 16 = .ok (.lreturn, 1) := by decide +kernel
theorem dX2_switchTarget_17 : decode cX2_switchTarget 17 = .ok (.aload_n 0, 1) := by decide +kernel
theorem dX2_switchTarget_18 : decode cX2_switchTarget 18 = .ok (.getfield 166, 3) := by decide +kernel
theorem dX2_switchTarget_21 : decode cX2_switchTarget 21 = .ok (.i2l, 1) := by decide +kernel
theorem dX2_switchTarget_22 : decode cX2_switchTarget 22 = .ok (.aload_n 0, 1) := by decide +kernel
theorem dX2_switchTarget_23 : decode cX2_switchTarget 23 = .ok (.aload_n 0, 1) := by decide +kernel
theorem dX2_switchTarget_24 : decode cX2_switchTarget 24 = .ok (.getfield 169, 3) := by decide +kernel
theorem dX2_switchTarget_27 : decode cX2_switchTarget 27 = .ok (.sipush 170, 3) := by decide +kernel
theorem dX2_switchTarget_30 : decode cX2_switchTarget 30 = .ok (.if_icmp .ne 14, 3) := by decide +kernel
theorem dX2_switchTarget_33 : decode cX2_switchTarget 33 = .ok (.iload_n 1, 1) := by decide +kernel
theorem dX2_switchTarget_34 : decode cX2_switchTarget 34 = .ok (.bipush 12, 2) := by decide +kernel
theorem dX2_switchTarget_36 : decode cX2_switchTarget 36 = .ok (.iadd, 1) := by decide +kernel
theorem dX2_switchTarget_37 : decode cX2_switchTarget 37 = .ok (.iconst 4, 1) := by decide +kernel
theorem dX2_switchTarget_38 : decode cX2_switchTarget 38 = .ok (.iload_n 2, 1) := by decide +kernel
theorem dX2_switchTarget_39 : decode cX2_switchTarget 39 = .ok (.imul, 1) := by decide +kernel
theorem dX2_switchTarget_40 : decode cX2_switchTarget 40 = .ok (.iadd, 1) := by decide +kernel
theorem dX2_switchTarget_41 : decode cX2_switchTarget 41 = .ok (.goto 12, 3) := by decide +kernel
theorem dX2_switchTarget_44 : decode cX2_switchTarget 44 = .ok (.iload_n 1, 1) := by decide +kernel
theorem dX2_switchTarget_45 : decode cX2_switchTarget 45 = .ok (.bipush 12, 2) := by decide +kernel
theorem dX2_switchTarget_47 : decode cX2_switchTarget 47 = .ok (.iadd, 1) := by decide +kernel
theorem dX2_switchTarget_48 : decode cX2_switchTarget 48 = .ok (.bipush 8, 2) := by decide +kernel
theorem dX2_switchTarget_50 : decode cX2_switchTarget 50 = .ok (.iload_n 2, 1) := by decide +kernel
theorem dX2_switchTarget_51 : decode cX2_switchTarget 51 = .ok (.imul, 1) := by decide +kernel
theorem dX2_switchTarget_52 : decode cX2_switchTarget 52 = .ok (.iadd, 1) := by decide +kernel
theorem dX2_switchTarget_53 : decode cX2_switchTarget 53 = .ok (.invokevirtual 163, 3) := by decide +kernel
theorem dX2_switchTarget_56 : decode cX2_switchTarget 56 = .ok (.i2l, 1) := by decide +kernel
theorem dX2_switchTarget_57 : decode cX2_switchTarget 57 = .ok (.ladd, 1) := by decide +kernel
theorem dX2_switchTarget_58 : decode cX2_switchTarget 58 = .ok (.lreturn, 1) := by decide +kernel
theorem dX2_tableLength_0 : decode cX2_tableLength 0 = .ok (.iload_n 1, 1) := by decide +kernel
theorem dX2_tableLength_1 : decode cX2_tableLength 1 = .ok (.invokestatic 160, 3) := by decide +kernel
theorem dX2_tableLength_4 : decode cX2_tableLength 4 = .ok (.istore_n 2, 1) := by decide +kernel
theorem dX2_tableLength_5 : decode cX2_tableLength 5 = .ok (.aload_n 0, 1) := by decide +kernel
theorem dX2_tableLength_6 : decode cX2_tableLength 6 = .ok (.iload_n 2, 1) := by decide +kernel
theorem dX2_tableLength_7 : decode cX2_tableLength 7 = .ok (.bipush 8, 2) := by decide +kernel
theorem dX2_tableLength_9 : decode cX2_tableLength 9 = .ok (.iadd, 1) := by decide +kernel
theorem dX2_tableLength_10 : decode cX2_tableLength 10 = .ok (.invokevirtual 163, 3) := by decide +kernel
theorem dX2_tableLength_13 : decode cX2_tableLength 13 = .ok (.i2l, 1) := by decide +kernel
theorem dX2_tableLength_14 : decode cX2_tableLength 14 = .ok (.aload_n 0, 1) := by decide +kernel
theorem dX2_tableLength_15 : decode cX2_tableLength 15 = .ok (.iload_n 2, 1) := by decide +kernel
theorem dX2_tableLength_16 : decode cX2_tableLength 16 = .ok (.iconst 4, 1) := by decide +kernel
theorem dX2_tableLength_17 : decode cX2_tableLength 17 = .ok (.iadd, 1) := by decide +kernel
theorem dX2_tableLength_18 : decode cX2_tableLength 18 = .ok (.invokevirtual 163, 3) := by decide +kernel
theorem dX2_tableLength_21 : decode cX2_tableLength 21 = .ok (.i2l, 1) := by decide +kernel
theorem dX2_tableLength_22 : decode cX2_tableLength 22 = .ok (.lsub, 1) := by decide +kernel
theorem dX2_tableLength_23 : decode cX2_tableLength 23 = .ok (.lstore_n 3, 1) := by decide +kernel
theorem dX2_tableLength_24 : decode cX2_tableLength 24 = .ok (.iload_n 2, 1) := by decide +kernel
theorem dX2_tableLength_25 : decode cX2_tableLength 25 = .ok (.bipush 12, 2) := by decide +kernel
theorem dX2_tableLength_27 : decode cX2_tableLength 27 = .ok (.iadd, 1) := by decide +kernel
theorem dX2_tableLength_28 : decode cX2_tableLength 28 = .ok (.aload_n 0, 1) := by decide +kernel
theorem dX2_tableLength_29 : decode cX2_tableLength 29 = .ok (.getfield 117, 3) := by decide +kernel
theorem dX2_tableLength_32 : decode cX2_tableLength 32 = .ok (.if_icmp .gt 17, 3) := by decide +kernel
theorem dX2_tableLength_35 : decode cX2_tableLength 35 = .ok (.lload_n 3, 1) := by decide +kernel
theorem dX2_tableLength_36 : decode cX2_tableLength 36 = .ok (.lconst 0, 1) := by decide +kernel
theorem dX2_tableLength_37 : decode cX2_tableLength 37 = .ok (.lcmp, 1) := by decide +kernel
theorem dX2_tableLength_38 : decode cX2_tableLength 38 = .ok (.ifCond .lt 11, 3) := by decide +kernel
theorem dX2_tableLength_41 : decode cX2_tableLength 41 = .ok (.lload_n 3, 1) := by decide +kernel
theorem dX2_tableLength_42 : decode cX2_tableLength 42 = .ok (.ldc2_w 164, 3) := by decide +kernel
theorem dX2_tableLength_45 : decode cX2_tableLength 45 = .ok (.lcmp, 1) := by decide +kernel
theorem dX2_tableLength_46 : decode cX2_tableLength 46 = .ok (.ifCond .le 5, 3) := by decide +kernel
theorem dX2_tableLength_49 : decode cX2_tableLength 49 = .ok (.iconst 0, 1) := by decide +kernel
theorem dX2_tableLength_50 : decode cX2_tableLength 50 = .ok (.ireturn, 1) := by decide +kernel
theorem dX2_tableLength_51 : decode cX2_tableLength 51 = .ok (.iload_n 2, 1) := by decide +kernel
theorem dX2_tableLength_52 : decode cX2_tableLength 52 = .ok (.bipush 16, 2) := by decide +kernel
theorem dX2_tableLength_54 : decode cX2_tableLength 54 = .ok (.iadd, 1) := by decide +kernel
theorem dX2_tableLength_55 : decode cX2_tableLength 55 = .ok (.iconst 4, 1) := by decide +kernel
theorem dX2_tableLength_56 : decode cX2_tableLength 56 = .ok (.lload_n 3, 1) := by decide +kernel
theorem dX2_tableLength_57 : decode cX2_tableLength 57 = .ok (.l2i, 1) := by decide +kernel
theorem dX2_tableLength_58 : decode cX2_tableLength 58 = .ok (.imul, 1) := by decide +kernel
theorem dX2_tableLength_59 : decode cX2_tableLength 59 = .ok (.iadd, 1) := by decide +kernel
theorem dX2_tableLength_60 : decode cX2_tableLength 60 = .ok (.iload_n 1, 1) := by decide +kernel
theorem dX2_tableLength_61 : decode cX2_tableLength 61 = .ok (.isub, 1) := by decide +kernel
theorem dX2_tableLength_62 : decode cX2_tableLength 62 = .ok (.ireturn, 1) := by decide +kernel
theorem dX2_tableRoom_0 : decode cX2_tableRoom 0 = .ok (.iconst 0, 1) := by decide +kernel
theorem dX2_tableRoom_1 : decode cX2_tableRoom 1 = .ok (.istore_n 1, 1) := by decide +kernel
theorem dX2_tableRoom_2 : decode cX2_tableRoom 2 = .ok (.iconst 0, 1) := by decide +kernel
theorem dX2_tableRoom_3 : decode cX2_tableRoom 3 = .ok (.istore_n 2, 1) := by decide +kernel
theorem dX2_tableRoom_4 : decode cX2_tableRoom 4 = .ok (.iload_n 2, 1) := by decide +kernel
theorem dX2_tableRoom_5 : decode cX2_tableRoom 5 = .ok (.aload_n 0, 1) := by decide +kernel
theorem dX2_tableRoom_6 : decode cX2_tableRoom 6 = .ok (.getfield 117, 3) := by decide +kernel
theorem dX2_tableRoom_9 : decode cX2_tableRoom 9 = .ok (.if_icmp .ge 65, 3) := by decide +kernel
theorem dX2_tableRoom_12 : decode cX2_tableRoom 12 = .ok (.aload_n 0, 1) := by decide +kernel
theorem dX2_tableRoom_13 : decode cX2_tableRoom 13 = .ok (.iload_n 2, 1) := by decide +kernel
theorem dX2_tableRoom_14 : decode cX2_tableRoom 14 = .ok (.invokevirtual 198, 3) := by decide +kernel
theorem dX2_tableRoom_17 : decode cX2_tableRoom 17 = .ok (.aload_n 0, 1) := by decide +kernel
theorem dX2_tableRoom_18 : decode cX2_tableRoom 18 = .ok (.getfield 169, 3) := by decide +kernel
theorem dX2_tableRoom_21 : decode cX2_tableRoom 21 = .ok (.invokestatic 184, 3) := by decide +kernel
theorem dX2_tableRoom_24 : decode cX2_tableRoom 24 = .ok (.ifCond .eq 35, 3) := by decide +kernel
theorem dX2_tableRoom_27 : decode cX2_tableRoom 27 = .ok (.aload_n 0, 1) := by decide +kernel
theorem dX2_tableRoom_28 : decode cX2_tableRoom 28 = .ok (.aload_n 0, 1) := by decide +kernel
theorem dX2_tableRoom_29 : decode cX2_tableRoom 29 = .ok (.getfield 172, 3) := by decide +kernel
theorem dX2_tableRoom_32 : decode cX2_tableRoom 32 = .ok (.l2i, 1) := by decide +kernel
theorem dX2_tableRoom_33 : decode cX2_tableRoom 33 = .ok (.invokevirtual 237, 3) := by decide +kernel
theorem dX2_tableRoom_36 : decode cX2_tableRoom 36 = .ok (.istore_n 3, 1) := by decide +kernel
theorem dX2_tableRoom_37 : decode cX2_tableRoom 37 = .ok (.iload_n 1, 1) := by decide +kernel
theorem dX2_tableRoom_38 : decode cX2_tableRoom 38 = .ok (.iconst 3, 1) := by decide +kernel
theorem dX2_tableRoom_39 : decode cX2_tableRoom 39 = .ok (.aload_n 0, 1) := by decide +kernel
theorem dX2_tableRoom_40 : decode cX2_tableRoom 40 = .ok (.getfield 169, 3) := by decide +kernel
theorem dX2_tableRoom_43 : decode cX2_tableRoom 43 = .ok (.sipush 170, 3) := by decide +kernel
theorem dX2_tableRoom_46 : decode cX2_tableRoom 46 = .ok (.if_icmp .ne 7, 3) := by decide +kernel
theorem dX2_tableRoom_49 : decode cX2_tableRoom 49 = .ok (.iload_n 3, 1) := by decide +kernel
theorem dX2_tableRoom_50 : decode cX2_tableRoom 50 = .ok (.goto 6, 3) := by decide +kernel
theorem dX2_tableRoom_53 : decode cX2_tableRoom 53 = .ok (.iconst 2, 1) := by decide +kernel
theorem dX2_tableRoom_54 : decode cX2_tableRoom 54 = .ok (.iload_n 3, 1) := by decide +kernel
theorem dX2_tableRoom_55 : decode cX2_tableRoom 55 = .ok (.imul, 1) := by decide +kernel
theorem dX2_tableRoom_56 : decode cX2_tableRoom 56 = .ok (.iadd, 1) := by decide +kernel
theorem dX2_tableRoom_57 : decode cX2_tableRoom 57 = .ok (.iadd, 1) := by decide +kernel
theorem dX2_tableRoom_58 : decode cX2_tableRoom 58 = .ok (.istore_n 1, 1) := by decide +kernel
theorem dX2_tableRoom_59 : decode cX2_tableRoom 59 = .ok (.iload_n 2, 1) := by decide +kernel
theorem dX2_tableRoom_60 : decode cX2_tableRoom 60 = .ok (.iconst 1, 1) := by decide +kernel
theorem dX2_tableRoom_61 : decode cX2_tableRoom 61 = .ok (.aload_n 0, 1) := by decide +kernel
theorem dX2_tableRoom_62 : decode cX2_tableRoom 62 = .ok (.iload_n 2, 1) := by decide +kernel
theorem dX2_tableRoom_63 : decode cX2_tableRoom 63 = .ok (.invokevirtual 133, 3) := by decide +kernel
theorem dX2_tableRoom_66 : decode cX2_tableRoom 66 = .ok (.invokestatic 204, 3) := by decide +kernel
theorem dX2_tableRoom_69 : decode cX2_tableRoom 69 = .ok (.iadd, 1) := by decide +kernel

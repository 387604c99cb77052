theorem dX8_setTarget_23 : decode cX8_setTarget 23 = .ok (.return_, 1) := by decide +kernel
theorem dX8_setTarget_24 : decode cX8_setTarget 24 = .ok (.aload_n 0, 1) := by decide +kernel
theorem dX8_setTarget_25 : decode cX8_setTarget 25 = .ok (.iload_n 1, 1) := by decide +kernel
theorem dX8_setTarget_26 : decode cX8_setTarget 26 = .ok (.invokevirtual 41, 3) := by decide +kernel
theorem dX8_setTarget_29 : decode cX8_setTarget 29 = .ok (.l2i, 1) := by decide +kernel
theorem dX8_setTarget_30 : decode cX8_setTarget 30 = .ok (.iconst 2, 1) := by decide +kernel
theorem dX8_setTarget_31 : decode cX8_setTarget 31 = .ok (.iadd, 1) := by decide +kernel
theorem dX8_setTarget_32 : decode cX8_setTarget 32 = .ok (.iload_n 2, 1) := by decide +kernel
theorem dX8_setTarget_33 : decode cX8_setTarget 33 = .ok (.iadd, 1) := by decide +kernel
theorem dX8_setTarget_34 : decode cX8_setTarget 34 = .ok (.istore 4, 2) := by decide +kernel
theorem dX8_setTarget_36 : decode cX8_setTarget 36 = .ok (.iload 4, 2) := by decide +kernel
theorem dX8_setTarget_38 : decode cX8_setTarget 38 = .ok (.ifCond .lt 20, 3) := by decide +kernel
theorem dX8_setTarget_41 : decode cX8_setTarget 41 = .ok (.iload 4, 2) := by decide +kernel
theorem dX8_setTarget_43 : decode cX8_setTarget 43 = .ok (.aload_n 0, 1) := by decide +kernel
theorem dX8_setTarget_44 : decode cX8_setTarget 44 = .ok (.getfield 38, 3) := by decide +kernel
theorem dX8_setTarget_47 : decode cX8_setTarget 47 = .ok (.if_icmp .ge 11, 3) := by decide +kernel
theorem dX8_setTarget_50 : decode cX8_setTarget 50 = .ok (.aload_n 0, 1) := by decide +kernel
theorem dX8_setTarget_51 : decode cX8_setTarget 51 = .ok (.getfield 19, 3) := by decide +kernel
theorem dX8_setTarget_54 : decode cX8_setTarget 54 = .ok (.iload 4, 2) := by decide +kernel
theorem dX8_setTarget_56 : decode cX8_setTarget 56 = .ok (.iload_n 3, 1) := by decide +kernel
theorem dX8_setTarget_57 : decode cX8_setTarget 57 = .ok (.iastore, 1) := by decide +kernel
theorem dX8_setTarget_58 : decode cX8_setTarget 58 = .ok (.return_, 1) := by decide +kernel
theorem dX8_stepOf_0 : decode cX8_stepOf 0 = .ok (.aload_n 0, 1) := by decide +kernel
theorem dX8_stepOf_1 : decode cX8_stepOf 1 = .ok (.iload_n 1, 1) := by decide +kernel
theorem dX8_stepOf_2 : decode cX8_stepOf 2 = .ok (.invokevirtual 41, 3) := by decide +kernel
theorem dX8_stepOf_5 : decode cX8_stepOf 5 = .ok (.bipush 8, 2) := by decide +kernel
theorem dX8_stepOf_7 : decode cX8_stepOf 7 = .ok (.lshr, 1) := by decide +kernel
theorem dX8_stepOf_8 : decode cX8_stepOf 8 = .ok (.l2i, 1) := by decide +kernel
theorem dX8_stepOf_9 : decode cX8_stepOf 9 = .ok (.ireturn, 1) := by decide +kernel
theorem dX8_tableAt_0 : decode cX8_tableAt 0 = .ok (.iload_n 1, 1) := by decide +kernel
theorem dX8_tableAt_1 : decode cX8_tableAt 1 = .ok (.ifCond .lt 11, 3) := by decide +kernel
theorem dX8_tableAt_4 : decode cX8_tableAt 4 = .ok (.iload_n 1, 1) := by decide +kernel
theorem dX8_tableAt_5 : decode cX8_tableAt 5 = .ok (.aload_n 0, 1) := by decide +kernel
theorem dX8_tableAt_6 : decode cX8_tableAt 6 = .ok (.getfield 38, 3) := by decide +kernel
theorem dX8_tableAt_9 : decode cX8_tableAt 9 = .ok (.if_icmp .lt 7, 3) := by decide +kernel
theorem dX8_tableAt_12 : decode cX8_tableAt 12 = .ok (.iconst 0, 1) := by decide +kernel
theorem dX8_tableAt_13 : decode cX8_tableAt 13 = .ok (.goto 9, 3) := by decide +kernel
theorem dX8_tableAt_16 : decode cX8_tableAt 16 = .ok (.aload_n 0, 1) := by decide +kernel
theorem dX8_tableAt_17 : decode cX8_tableAt 17 = .ok (.getfield 19, 3) := by decide +kernel
theorem dX8_tableAt_20 : decode cX8_tableAt 20 = .ok (.iload_n 1, 1) := by decide +kernel
theorem dX8_tableAt_21 : decode cX8_tableAt 21 = .ok (.iaload, 1) := by decide +kernel
theorem dX8_tableAt_22 : decode cX8_tableAt 22 = .ok (.ireturn, 1) := by decide +kernel
theorem dX8_targetAt_0 : decode cX8_targetAt 0 = .ok (.aload_n 0, 1) := by decide +kernel
theorem dX8_targetAt_1 : decode cX8_targetAt 1 = .ok (.iload_n 1, 1) := by decide +kernel
theorem dX8_targetAt_2 : decode cX8_targetAt 2 = .ok (.invokevirtual 52, 3) := by decide +kernel
theorem dX8_targetAt_5 : decode cX8_targetAt 5 = .ok (.invokestatic 56, 3) := by decide +kernel
theorem dX8_targetAt_8 : decode cX8_targetAt 8 = .ok (.ifCond .eq 12, 3) := by decide +kernel
theorem dX8_targetAt_11 : decode cX8_targetAt 11 = .ok (.aload_n 0, 1) := by decide +kernel
theorem dX8_targetAt_12 : decode cX8_targetAt 12 = .ok (.iload_n 1, 1) := by decide +kernel
theorem dX8_targetAt_13 : decode cX8_targetAt 13 = .ok (.invokevirtual 41, 3) := by decide +kernel
theorem dX8_targetAt_16 : decode cX8_targetAt 16 = .ok (.l2i, 1) := by decide +kernel
theorem dX8_targetAt_17 : decode cX8_targetAt 17 = .ok (.goto 17, 3) := by decide +kernel
theorem dX8_targetAt_20 : decode cX8_targetAt 20 = .ok (.aload_n 0, 1) := by decide +kernel
theorem dX8_targetAt_21 : decode cX8_targetAt 21 = .ok (.aload_n 0, 1) := by decide +kernel
theorem dX8_targetAt_22 : decode cX8_targetAt 22 = .ok (.iload_n 1, 1) := by decide +kernel
theorem dX8_targetAt_23 : decode cX8_targetAt 23 = .ok (.invokevirtual 41, 3) := by decide +kernel
theorem dX8_targetAt_26 : decode cX8_targetAt 26 = .ok (.l2i, 1) := by decide +kernel
theorem dX8_targetAt_27 : decode cX8_targetAt 27 = .ok (.iconst 2, 1) := by decide +kernel
theorem dX8_targetAt_28 : decode cX8_targetAt 28 = .ok (.iadd, 1) := by decide +kernel
theorem dX8_targetAt_29 : decode cX8_targetAt 29 = .ok (.iload_n 2, 1) := by decide +kernel
theorem dX8_targetAt_30 : decode cX8_targetAt 30 = .ok (.iadd, 1) := by decide +kernel
theorem dX8_targetAt_31 : decode cX8_targetAt 31 = .ok (.invokevirtual 65, 3) := by decide +kernel
theorem dX8_targetAt_34 : decode cX8_targetAt 34 = .ok (.ireturn, 1) := by decide +kernel
theorem dX8_targetCount_0 : decode cX8_targetCount 0 = .ok (.aload_n 0, 1) := by decide +kernel
theorem dX8_targetCount_1 : decode cX8_targetCount 1 = .ok (.iload_n 1, 1) := by decide +kernel
theorem dX8_targetCount_2 : decode cX8_targetCount 2 = .ok (.invokevirtual 52, 3) := by decide +kernel
theorem dX8_targetCount_5 : decode cX8_targetCount 5 = .ok (.istore_n 2, 1) := by decide +kernel
theorem dX8_targetCount_6 : decode cX8_targetCount 6 = .ok (.iload_n 2, 1) := by decide +kernel
theorem dX8_targetCount_7 : decode cX8_targetCount 7 = .ok (.invokestatic 56, 3) := by decide +kernel
theorem dX8_targetCount_10 : decode cX8_targetCount 10 = .ok (.ifCond .eq 5, 3) := by decide +kernel
theorem dX8_targetCount_13 : decode cX8_targetCount 13 = .ok (.iconst 1, 1) := by decide +kernel
theorem dX8_targetCount_14 : decode cX8_targetCount 14 = .ok (.ireturn, 1) := by decide +kernel
theorem dX8_targetCount_15 : decode cX8_targetCount 15 = .ok (.iload_n 2, 1) := by decide +kernel
theorem dX8_targetCount_16 : decode cX8_targetCount 16 = .ok (.invokestatic 62, 3) := by decide +kernel
theorem dX8_targetCount_19 : decode cX8_targetCount 19 = .ok (.ifCond .eq 16, 3) := by decide +kernel
theorem dX8_targetCount_22 : decode cX8_targetCount 22 = .ok (.aload_n 0, 1) := by decide +kernel
theorem dX8_targetCount_23 : decode cX8_targetCount 23 = .ok (.aload_n 0, 1) := by decide +kernel
theorem dX8_targetCount_24 : decode cX8_targetCount 24 = .ok (.iload_n 1, 1) := by decide +kernel
theorem dX8_targetCount_25 : decode cX8_targetCount 25 = .ok (.invokevirtual 41, 3) := by decide +kernel
theorem dX8_targetCount_28 : decode cX8_targetCount 28 = .ok (.l2i, 1) := by decide +kernel
theorem dX8_targetCount_29 : decode cX8_targetCount 29 = .ok (.invokevirtual 65, 3) := by decide +kernel
theorem dX8_targetCount_32 : decode cX8_targetCount 32 = .ok (.goto 4, 3) := by decide +kernel
theorem dX8_targetCount_35 : decode cX8_targetCount 35 = .ok (.iconst 0, 1) := by decide +kernel
theorem dX8_targetCount_36 : decode cX8_targetCount 36 = .ok (.ireturn, 1) := by decide +kernel
theorem dX9_appliedAt_0 : decode cX9_appliedAt 0 = .ok (.iload_n 1, 1) := by decide +kernel
theorem dX9_appliedAt_1 : decode cX9_appliedAt 1 = .ok (.ifCond .lt 12, 3) := by decide +kernel
theorem dX9_appliedAt_4 : decode cX9_appliedAt 4 = .ok (.iload_n 1, 1) := by decide +kernel
theorem dX9_appliedAt_5 : decode cX9_appliedAt 5 = .ok (.aload_n 0, 1) := by decide +kernel
theorem dX9_appliedAt_6 : decode cX9_appliedAt 6 = .ok (.getfield 20, 3) := by decide +kernel
theorem dX9_appliedAt_9 : decode cX9_appliedAt 9 = .ok (.arraylength, 1) := by decide +kernel
theorem dX9_appliedAt_10 : decode cX9_appliedAt 10 = .ok (.if_icmp .lt 7, 3) := by decide +kernel
theorem dX9_appliedAt_13 : decode cX9_appliedAt 13 = .ok (.iconst 0, 1) := by decide +kernel
theorem dX9_appliedAt_14 : decode cX9_appliedAt 14 = .ok (.goto 9, 3) := by decide +kernel
theorem dX9_appliedAt_17 : decode cX9_appliedAt 17 = .ok (.aload_n 0, 1) := by decide +kernel
theorem dX9_appliedAt_18 : decode cX9_appliedAt 18 = .ok (.getfield 20, 3) := by decide +kernel
theorem dX9_appliedAt_21 : decode cX9_appliedAt 21 = .ok (.iload_n 1, 1) := by decide +kernel
theorem dX9_appliedAt_22 : decode cX9_appliedAt 22 = .ok (.iaload, 1) := by decide +kernel
theorem dX9_appliedAt_23 : decode cX9_appliedAt 23 = .ok (.ireturn, 1) := by decide +kernel
theorem dX9_dropUnreached_0 : decode cX9_dropUnreached 0 = .ok (.aload_n 0, 1) := by decide +kernel
theorem dX9_dropUnreached_1 : decode cX9_dropUnreached 1 = .ok (.invokevirtual 180, 3) := by decide +kernel
theorem dX9_dropUnreached_4 : decode cX9_dropUnreached 4 = .ok (.iconst 0, 1) := by decide +kernel
theorem dX9_dropUnreached_5 : decode cX9_dropUnreached 5 = .ok (.istore_n 1, 1) := by decide +kernel
theorem dX9_dropUnreached_6 : decode cX9_dropUnreached 6 = .ok (.iconst 0, 1) := by decide +kernel
theorem dX9_dropUnreached_7 : decode cX9_dropUnreached 7 = .ok (.istore_n 2, 1) := by decide +kernel
theorem dX9_dropUnreached_8 : decode cX9_dropUnreached 8 = .ok (.aload_n 0, 1) := by decide +kernel
theorem dX9_dropUnreached_9 : decode cX9_dropUnreached 9 = .ok (.getfield 14, 3) := by decide +kernel
theorem dX9_dropUnreached_12 : decode cX9_dropUnreached 12 = .ok (.getfield 54, 3) := by decide +kernel
theorem dX9_dropUnreached_15 : decode cX9_dropUnreached 15 = .ok (.istore_n 3, 1) := by decide +kernel
theorem dX9_dropUnreached_16 : decode cX9_dropUnreached 16 = .ok (.iconst 0, 1) := by decide +kernel
theorem dX9_dropUnreached_17 : decode cX9_dropUnreached 17 = .ok (.istore 4, 2) := by decide +kernel
theorem dX9_dropUnreached_19 : decode cX9_dropUnreached 19 = .ok (.iload 4, 2) := by decide +kernel
theorem dX9_dropUnreached_21 : decode cX9_dropUnreached 21 = .ok (.iload_n 3, 1) := by decide +kernel
theorem dX9_dropUnreached_22 : decode cX9_dropUnreached 22 = .ok (.if_icmp .ge 46, 3) := by decide +kernel
theorem dX9_dropUnreached_25 : decode cX9_dropUnreached 25 = .ok (.aload_n 0, 1) := by decide +kernel
theorem dX9_dropUnreached_26 : decode cX9_dropUnreached 26 = .ok (.getfield 28, 3) := by decide +kernel
theorem dX9_dropUnreached_29 : decode cX9_dropUnreached 29 = .ok (.iload 4, 2) := by decide +kernel
theorem dX9_dropUnreached_31 : decode cX9_dropUnreached 31 = .ok (.baload, 1) := by decide +kernel
theorem dX9_dropUnreached_32 : decode cX9_dropUnreached 32 = .ok (.ifCond .eq 9, 3) := by decide +kernel
theorem dX9_dropUnreached_35 : decode cX9_dropUnreached 35 = .ok (.iinc 2 1, 3) := by decide +kernel
theorem dX9_dropUnreached_38 : decode cX9_dropUnreached 38 = .ok (.goto 24, 3) := by decide +kernel
theorem dX9_dropUnreached_41 : decode cX9_dropUnreached 41 = .ok (.aload_n 0, 1) := by decide +kernel
theorem dX9_dropUnreached_42 : decode cX9_dropUnreached 42 = .ok (.getfield 14, 3) := by decide +kernel
theorem dX9_dropUnreached_45 : decode cX9_dropUnreached 45 = .ok (.iload_n 2, 1) := by decide +kernel
theorem dX9_dropUnreached_46 : decode cX9_dropUnreached 46 = .ok (.iconst 1, 1) := by decide +kernel
theorem dX9_dropUnreached_47 : decode cX9_dropUnreached 47 = .ok (.invokevirtual 176, 3) := by decide +kernel
theorem dX9_dropUnreached_50 : decode cX9_dropUnreached 50 = .ok (.aload_n 0, 1) := by decide +kernel
theorem dX9_dropUnreached_51 : decode cX9_dropUnreached 51 = .ok (.getfield 20, 3) := by decide +kernel
theorem dX9_dropUnreached_54 : decode cX9_dropUnreached 54 = .ok (.iconst 1, 1) := by decide +kernel
theorem dX9_dropUnreached_55 : decode cX9_dropUnreached 55 = .ok (.dup2, 1) := by decide +kernel
theorem dX9_dropUnreached_56 : decode cX9_dropUnreached 56 = .ok (.iaload, 1) := by decide +kernel
theorem dX9_dropUnreached_57 : decode cX9_dropUnreached 57 = .ok (.iconst 1, 1) := by decide +kernel
theorem dX9_dropUnreached_58 : decode cX9_dropUnreached 58 = .ok (.iadd, 1) := by decide +kernel
theorem dX9_dropUnreached_59 : decode cX9_dropUnreached 59 = .ok (.iastore, 1) := by decide +kernel
theorem dX9_dropUnreached_60 : decode cX9_dropUnreached 60 = .ok (.iconst 1, 1) := by decide +kernel
theorem dX9_dropUnreached_61 : decode cX9_dropUnreached 61 = .ok (.istore_n 1, 1) := by decide +kernel
theorem dX9_dropUnreached_62 : decode cX9_dropUnreached 62 = .ok (.iinc 4 1, 3) := by decide +kernel
theorem dX9_dropUnreached_65 : decode cX9_dropUnreached 65 = .ok (.goto (-46), 3) := by decide +kernel
theorem dX9_dropUnreached_68 : decode cX9_dropUnreached 68 = .ok (.iload_n 1, 1) := by decide +kernel
theorem dX9_dropUnreached_69 : decode cX9_dropUnreached 69 = .ok (.ireturn, 1) := by decide +kernel
theorem dX9_findLive_0 : decode cX9_findLive 0 = .ok (.aload_n 0, 1) := by decide +kernel
theorem dX9_findLive_1 : decode cX9_findLive 1 = .ok (.getfield 31, 3) := by decide +kernel
theorem dX9_findLive_4 : decode cX9_findLive 4 = .ok (.iconst 0, 1) := by decide +kernel
theorem dX9_findLive_5 : decode cX9_findLive 5 = .ok (.invokestatic 37, 3) := by decide +kernel
theorem dX9_findLive_8 : decode cX9_findLive 8 = .ok (.iconst 1, 1) := by decide +kernel
theorem dX9_findLive_9 : decode cX9_findLive 9 = .ok (.istore_n 1, 1) := by decide +kernel
theorem dX9_findLive_10 : decode cX9_findLive 10 = .ok (.iconst 0, 1) := by decide +kernel
theorem dX9_findLive_11 : decode cX9_findLive 11 = .ok (.istore_n 2, 1) := by decide +kernel
theorem dX9_findLive_12 : decode cX9_findLive 12 = .ok (.iload_n 1, 1) := by decide +kernel
theorem dX9_findLive_13 : decode cX9_findLive 13 = .ok (.ifCond .eq 71, 3) := by decide +kernel
theorem dX9_findLive_16 : decode cX9_findLive 16 = .ok (.iload_n 2, 1) := by decide +kernel

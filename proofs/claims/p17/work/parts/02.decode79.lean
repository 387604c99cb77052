theorem dX8_targetCount_2 : decode cX8_targetCount 2 = .ok (.invokevirtual 52, 3) := by decide +kernel
theorem dX8_targetCount_5 : decode cX8_targetCount 5 = .ok (.istore_n 2, 1) := by decide +kernel
theorem dX8_targetCount_6 : decode cX8_targetCount 6 = .ok (.iload_n 2, 1) := by decide +kernel
theorem dX8_targetCount_7 : decode cX8_targetCount 7 = .ok (.invokestatic 56, 3) := by decide +kernel
theorem dX8_targetCount_10 : decode cX8_targetCount 10 = .ok (.ifCond .eq 5, 3) := by decide +kernel
theorem dX8_targetCount_13 : decode cX8_targetCount 13 = .ok (.iconst 1, 1) := by decide +kernel
theorem dX8_targetCount_14 : decode cX8_targetCount 14 = .ok (.ireturn, 1) := by decide +kernel
theorem dX8_targetCount_15 : decode cX8_targetCount 15 = .ok (.iload_n 2, 1) := by decide +kernel
theorem dX8_targetCount_16 : decode cX8_targetCount 16 = .ok (.invokestatic 62, 3) := by decide +kernel
theorem dX8_targetCount_19 : decode cX8_targetCount 19 = .ok (.ifCond .eq 16, 3) := by decide +kernel
theorem dX8_targetCount_22 : decode cX8_targetCount 22 = .ok (.aload_n 0, 1) := by decide +kernel
theorem dX8_targetCount_23 : decode cX8_targetCount 23 = .ok (.aload_n 0, 1) := by decide +kernel
theorem dX8_targetCount_24 : decode cX8_targetCount 24 = .ok (.iload_n 1, 1) := by decide +kernel
theorem dX8_targetCount_25 : decode cX8_targetCount 25 = .ok (.invokevirtual 41, 3) := by decide +kernel
theorem dX8_targetCount_28 : decode cX8_targetCount 28 = .ok (.l2i, 1) := by decide +kernel
theorem dX8_targetCount_29 : decode cX8_targetCount 29 = .ok (.invokevirtual 65, 3) := by decide +kernel
theorem dX8_targetCount_32 : decode cX8_targetCount 32 = .ok (.goto 4, 3) := by decide +kernel
theorem dX8_targetCount_35 : decode cX8_targetCount 35 = .ok (.iconst 0, 1) := by decide +kernel
theorem dX8_targetCount_36 : decode cX8_targetCount 36 = .ok (.ireturn, 1) := by decide +kernel
theorem dX9_appliedAt_0 : decode cX9_appliedAt 0 = .ok (.iload_n 1, 1) := by decide +kernel
theorem dX9_appliedAt_1 : decode cX9_appliedAt 1 = .ok (.ifCond .lt 12, 3) := by decide +kernel
theorem dX9_appliedAt_4 : decode cX9_appliedAt 4 = .ok (.iload_n 1, 1) := by decide +kernel
theorem dX9_appliedAt_5 : decode cX9_appliedAt 5 = .ok (.aload_n 0, 1) := by decide +kernel
theorem dX9_appliedAt_6 : decode cX9_appliedAt 6 = .ok (.getfield 20, 3) := by decide +kernel
theorem dX9_appliedAt_9 : decode cX9_appliedAt 9 = .ok (.arraylength, 1) := by decide +kernel
theorem dX9_appliedAt_10 : decode cX9_appliedAt 10 = .ok (.if_icmp .lt 7, 3) := by decide +kernel
theorem dX9_appliedAt_13 : decode cX9_appliedAt 13 = .ok (.iconst 0, 1) := by decide +kernel
theorem dX9_appliedAt_14 : decode cX9_appliedAt 14 = .ok (.goto 9, 3) := by decide +kernel
theorem dX9_appliedAt_17 : decode cX9_appliedAt 17 = .ok (.aload_n 0, 1) := by decide +kernel
theorem dX9_appliedAt_18 : decode cX9_appliedAt 18 = .ok (.getfield 20, 3) := by decide +kernel
theorem dX9_appliedAt_21 : decode cX9_appliedAt 21 = .ok (.iload_n 1, 1) := by decide +kernel
theorem dX9_appliedAt_22 : decode cX9_appliedAt 22 = .ok (.iaload, 1) := by decide +kernel
theorem dX9_appliedAt_23 : decode cX9_appliedAt 23 = .ok (.ireturn, 1) := by decide +kernel
theorem dX9_dropUnreached_0 : decode cX9_dropUnreached 0 = .ok (.aload_n 0, 1) := by decide +kernel
theorem dX9_dropUnreached_1 : decode cX9_dropUnreached 1 = .ok (.invokevirtual 180, 3) := by decide +kernel
theorem dX9_dropUnreached_4 : decode cX9_dropUnreached 4 = .ok (.iconst 0, 1) := by decide +kernel
theorem dX9_dropUnreached_5 : decode cX9_dropUnreached 5 = .ok (.istore_n 1, 1) := by decide +kernel
theorem dX9_dropUnreached_6 : decode cX9_dropUnreached 6 = .ok (.iconst 0, 1) := by decide +kernel
theorem dX9_dropUnreached_7 : decode cX9_dropUnreached 7 = .ok (.istore_n 2, 1) := by decide +kernel
theorem dX9_dropUnreached_8 : decode cX9_dropUnreached 8 = .ok (.aload_n 0, 1) := by decide +kernel
theorem dX9_dropUnreached_9 : decode cX9_dropUnreached 9 = .ok (.getfield 14, 3) := by decide +kernel
theorem dX9_dropUnreached_12 : decode cX9_dropUnreached 12 = .ok (.getfield 54, 3) := by decide +kernel
theorem dX9_dropUnreached_15 : decode cX9_dropUnreached 15 = .ok (.istore_n 3, 1) := by decide +kernel
theorem dX9_dropUnreached_16 : decode cX9_dropUnreached 16 = .ok (.iconst 0, 1) := by decide +kernel
theorem dX9_dropUnreached_17 : decode cX9_dropUnreached 17 = .ok (.istore 4, 2) := by decide +kernel
theorem dX9_dropUnreached_19 : decode cX9_dropUnreached 19 = .ok (.iload 4, 2) := by decide +kernel
theorem dX9_dropUnreached_21 : decode cX9_dropUnreached 21 = .ok (.iload_n 3, 1) := by decide +kernel
theorem dX9_dropUnreached_22 : decode cX9_dropUnreached 22 = .ok (.if_icmp .ge 46, 3) := by decide +kernel
theorem dX9_dropUnreached_25 : decode cX9_dropUnreached 25 = .ok (.aload_n 0, 1) := by decide +kernel
theorem dX9_dropUnreached_26 : decode cX9_dropUnreached 26 = .ok (.getfield 28, 3) := by decide +kernel
theorem dX9_dropUnreached_29 : decode cX9_dropUnreached 29 = .ok (.iload 4, 2) := by decide +kernel
theorem dX9_dropUnreached_31 : decode cX9_dropUnreached 31 = .ok (.baload, 1) := by decide +kernel
theorem dX9_dropUnreached_32 : decode cX9_dropUnreached 32 = .ok (.ifCond .eq 9, 3) := by decide +kernel
theorem dX9_dropUnreached_35 : decode cX9_dropUnreached 35 = .ok (.iinc 2 1, 3) := by decide +kernel
theorem dX9_dropUnreached_38 : decode cX9_dropUnreached 38 = .ok (.goto 24, 3) := by decide +kernel
theorem dX9_dropUnreached_41 : decode cX9_dropUnreached 41 = .ok (.aload_n 0, 1) := by decide +kernel
theorem dX9_dropUnreached_42 : decode cX9_dropUnreached 42 = .ok (.getfield 14, 3) := by decide +kernel
theorem dX9_dropUnreached_45 : decode cX9_dropUnreached 45 = .ok (.iload_n 2, 1) := by decide +kernel
theorem dX9_dropUnreached_46 : decode cX9_dropUnreached 46 = .ok (.iconst 1, 1) := by decide +kernel
theorem dX9_dropUnreached_47 : decode cX9_dropUnreached 47 = .ok (.invokevirtual 176, 3) := by decide +kernel
theorem dX9_dropUnreached_50 : decode cX9_dropUnreached 50 = .ok (.aload_n 0, 1) := by decide +kernel
theorem dX9_dropUnreached_51 : decode cX9_dropUnreached 51 = .ok (.getfield 20, 3) := by decide +kernel
theorem dX9_dropUnreached_54 : decode cX9_dropUnreached 54 = .ok (.iconst 1, 1) := by decide +kernel
theorem dX9_dropUnreached_55 : decode cX9_dropUnreached 55 = .ok (.dup2, 1) := by decide +kernel
theorem dX9_dropUnreached_56 : decode cX9_dropUnreached 56 = .ok (.iaload, 1) := by decide +kernel
theorem dX9_dropUnreached_57 : decode cX9_dropUnreached 57 = .ok (.iconst 1, 1) := by decide +kernel
theorem dX9_dropUnreached_58 : decode cX9_dropUnreached 58 = .ok (.iadd, 1) := by decide +kernel
theorem dX9_dropUnreached_59 : decode cX9_dropUnreached 59 = .ok (.iastore, 1) := by decide +kernel
theorem dX9_dropUnreached_60 : decode cX9_dropUnreached 60 = .ok (.iconst 1, 1) := by decide +kernel
theorem dX9_dropUnreached_61 : decode cX9_dropUnreached 61 = .ok (.istore_n 1, 1) := by decide +kernel
theorem dX9_dropUnreached_62 : decode cX9_dropUnreached 62 = .ok (.iinc 4 1, 3) := by decide +kernel
theorem dX9_dropUnreached_65 : decode cX9_dropUnreached 65 = .ok (.goto (-46), 3) := by decide +kernel
theorem dX9_dropUnreached_68 : decode cX9_dropUnreached 68 = .ok (.iload_n 1, 1) := by decide +kernel
theorem dX9_dropUnreached_69 : decode cX9_dropUnreached 69 = .ok (.ireturn, 1) := by decide +kernel
theorem dX9_findLive_0 : decode cX9_findLive 0 = .ok (.aload_n 0, 1) := by decide +kernel
theorem dX9_findLive_1 : decode cX9_findLive 1 = .ok (.getfield 31, 3) := by decide +kernel
theorem dX9_findLive_4 : decode cX9_findLive 4 = .ok (.iconst 0, 1) := by decide +kernel
theorem dX9_findLive_5 : decode cX9_findLive 5 = .ok (.invokestatic 37, 3) := by decide +kernel
theorem dX9_findLive_8 : decode cX9_findLive 8 = .ok (.iconst 1, 1) := by decide +kernel
theorem dX9_findLive_9 : decode cX9_findLive 9 = .ok (.istore_n 1, 1) := by decide +kernel
theorem dX9_findLive_10 : decode cX9_findLive 10 = .ok (.iconst 0, 1) := by decide +kernel
theorem dX9_findLive_11 : decode cX9_findLive 11 = .ok (.istore_n 2, 1) := by decide +kernel
theorem dX9_findLive_12 : decode cX9_findLive 12 = .ok (.iload_n 1, 1) := by decide +kernel
theorem dX9_findLive_13 : decode cX9_findLive 13 = .ok (.ifCond .eq 71, 3) := by decide +kernel
theorem dX9_findLive_16 : decode cX9_findLive 16 = .ok (.iload_n 2, 1) := by decide +kernel
theorem dX9_findLive_17 : decode cX9_findLive 17 = .ok (.ldc 135, 2) := by decide +kernel
theorem dX9_findLive_19 : decode cX9_findLive 19 = .ok (.if_icmp .ge 65, 3) := by decide +kernel
theorem dX9_findLive_22 : decode cX9_findLive 22 = .ok (.iconst 0, 1) := by decide +kernel
theorem dX9_findLive_23 : decode cX9_findLive 23 = .ok (.istore_n 1, 1) := by decide +kernel
theorem dX9_findLive_24 : decode cX9_findLive 24 = .ok (.aload_n 0, 1) := by decide +kernel
theorem dX9_findLive_25 : decode cX9_findLive 25 = .ok (.getfield 14, 3) := by decide +kernel
theorem dX9_findLive_28 : decode cX9_findLive 28 = .ok (.getfield 54, 3) := by decide +kernel
theorem dX9_findLive_31 : decode cX9_findLive 31 = .ok (.iconst 1, 1) := by decide +kernel
theorem dX9_findLive_32 : decode cX9_findLive 32 = .ok (.isub, 1) := by decide +kernel
theorem dX9_findLive_33 : decode cX9_findLive 33 = .ok (.istore_n 3, 1) := by decide +kernel
theorem dX9_findLive_34 : decode cX9_findLive 34 = .ok (.iload_n 3, 1) := by decide +kernel
theorem dX9_findLive_35 : decode cX9_findLive 35 = .ok (.ifCond .lt 43, 3) := by decide +kernel
theorem dX9_findLive_38 : decode cX9_findLive 38 = .ok (.aload_n 0, 1) := by decide +kernel
theorem dX9_findLive_39 : decode cX9_findLive 39 = .ok (.iload_n 3, 1) := by decide +kernel
theorem dX9_findLive_40 : decode cX9_findLive 40 = .ok (.invokevirtual 260, 3) := by decide +kernel
theorem dX9_findLive_43 : decode cX9_findLive 43 = .ok (.istore 4, 2) := by decide +kernel
theorem dX9_findLive_45 : decode cX9_findLive 45 = .ok (.iload_n 1, 1) := by decide +kernel
theorem dX9_findLive_46 : decode cX9_findLive 46 = .ok (.iload 4, 2) := by decide +kernel
theorem dX9_findLive_48 : decode cX9_findLive 48 = .ok (.aload_n 0, 1) := by decide +kernel
theorem dX9_findLive_49 : decode cX9_findLive 49 = .ok (.getfield 31, 3) := by decide +kernel
theorem dX9_findLive_52 : decode cX9_findLive 52 = .ok (.iload_n 3, 1) := by decide +kernel
theorem dX9_findLive_53 : decode cX9_findLive 53 = .ok (.iaload, 1) := by decide +kernel
theorem dX9_findLive_54 : decode cX9_findLive 54 = .ok (.if_icmp .eq 7, 3) := by decide +kernel
theorem dX9_findLive_57 : decode cX9_findLive 57 = .ok (.iconst 1, 1) := by decide +kernel
theorem dX9_findLive_58 : decode cX9_findLive 58 = .ok (.goto 4, 3) := by decide +kernel
theorem dX9_findLive_61 : decode cX9_findLive 61 = .ok (.iconst 0, 1) := by decide +kernel
theorem dX9_findLive_62 : decode cX9_findLive 62 = .ok (.ior, 1) := by decide +kernel
theorem dX9_findLive_63 : decode cX9_findLive 63 = .ok (.istore_n 1, 1) := by decide +kernel
theorem dX9_findLive_64 : decode cX9_findLive 64 = .ok (.aload_n 0, 1) := by decide +kernel
theorem dX9_findLive_65 : decode cX9_findLive 65 = .ok (.getfield 31, 3) := by decide +kernel
theorem dX9_findLive_68 : decode cX9_findLive 68 = .ok (.iload_n 3, 1) := by decide +kernel
theorem dX9_findLive_69 : decode cX9_findLive 69 = .ok (.iload 4, 2) := by decide +kernel
theorem dX9_findLive_71 : decode cX9_findLive 71 = .ok (.iastore, 1) := by decide +kernel
theorem dX9_findLive_72 : decode cX9_findLive 72 = .ok (.iinc 3 (-1), 3) := by decide +kernel
theorem dX9_findLive_75 : decode cX9_findLive 75 = .ok (.goto (-41), 3) := by decide +kernel
theorem dX9_findLive_78 : decode cX9_findLive 78 = .ok (.iinc 2 1, 3) := by decide +kernel
theorem dX9_findLive_81 : decode cX9_findLive 81 = .ok (.goto (-69), 3) := by decide +kernel
theorem dX9_findLive_84 : decode cX9_findLive 84 = .ok (.return_, 1) := by decide +kernel
theorem dX9_findMarked_0 : decode cX9_findMarked 0 = .ok (.iconst 0, 1) := by decide +kernel
theorem dX9_findMarked_1 : decode cX9_findMarked 1 = .ok (.istore_n 1, 1) := by decide +kernel
theorem dX9_findMarked_2 : decode cX9_findMarked 2 = .ok (.iload_n 1, 1) := by decide +kernel
theorem dX9_findMarked_3 : decode cX9_findMarked 3 = .ok (.aload_n 0, 1) := by decide +kernel
theorem dX9_findMarked_4 : decode cX9_findMarked 4 = .ok (.getfield 24, 3) := by decide +kernel
theorem dX9_findMarked_7 : decode cX9_findMarked 7 = .ok (.arraylength, 1) := by decide +kernel
theorem dX9_findMarked_8 : decode cX9_findMarked 8 = .ok (.if_icmp .ge 16, 3) := by decide +kernel
theorem dX9_findMarked_11 : decode cX9_findMarked 11 = .ok (.aload_n 0, 1) := by decide +kernel
theorem dX9_findMarked_12 : decode cX9_findMarked 12 = .ok (.getfield 24, 3) := by decide +kernel
theorem dX9_findMarked_15 : decode cX9_findMarked 15 = .ok (.iload_n 1, 1) := by decide +kernel
theorem dX9_findMarked_16 : decode cX9_findMarked 16 = .ok (.iconst 0, 1) := by decide +kernel
theorem dX9_findMarked_17 : decode cX9_findMarked 17 = .ok (.bastore, 1) := by decide +kernel
theorem dX9_findMarked_18 : decode cX9_findMarked 18 = .ok (.iinc 1 1, 3) := by decide +kernel
theorem dX9_findMarked_21 : decode cX9_findMarked 21 = .ok (.goto (-19), 3) := by decide +kernel
theorem dX9_findMarked_24 : decode cX9_findMarked 24 = .ok (.iconst 0, 1) := by decide +kernel
theorem dX9_findMarked_25 : decode cX9_findMarked 25 = .ok (.istore_n 1, 1) := by decide +kernel
theorem dX9_findMarked_26 : decode cX9_findMarked 26 = .ok (.iload_n 1, 1) := by decide +kernel
theorem dX9_findMarked_27 : decode cX9_findMarked 27 = .ok (.aload_n 0, 1) := by decide +kernel
theorem dX9_findMarked_28 : decode cX9_findMarked 28 = .ok (.getfield 14, 3) := by decide +kernel
theorem dX9_findMarked_31 : decode cX9_findMarked 31 = .ok (.getfield 54, 3) := by decide +kernel
theorem dX9_findMarked_34 : decode cX9_findMarked 34 = .ok (.if_icmp .ge 44, 3) := by decide +kernel
theorem dX9_findMarked_37 : decode cX9_findMarked 37 = .ok (.aload_n 0, 1) := by decide +kernel
theorem dX9_findMarked_38 : decode cX9_findMarked 38 = .ok (.getfield 14, 3) := by decide +kernel
theorem dX9_findMarked_41 : decode cX9_findMarked 41 = .ok (.iload_n 1, 1) := by decide +kernel
theorem dX9_findMarked_42 : decode cX9_findMarked 42 = .ok (.invokevirtual 94, 3) := by decide +kernel
theorem dX9_findMarked_45 : decode cX9_findMarked 45 = .ok (.istore_n 2, 1) := by decide +kernel
theorem dX9_findMarked_46 : decode cX9_findMarked 46 = .ok (.iconst 0, 1) := by decide +kernel

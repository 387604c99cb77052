theorem dX9_isUnaryFolded_63 : decode cX9_isUnaryFolded 63 = .ok (.getfield 14, 3) := by decide +kernel
theorem dX9_isUnaryFolded_66 : decode cX9_isUnaryFolded 66 = .ok (.iload_n 1, 1) := by decide +kernel
theorem dX9_isUnaryFolded_67 : decode cX9_isUnaryFolded 67 = .ok (.iconst 1, 1) := by decide +kernel
theorem dX9_isUnaryFolded_68 : decode cX9_isUnaryFolded 68 = .ok (.iadd, 1) := by decide +kernel
theorem dX9_isUnaryFolded_69 : decode cX9_isUnaryFolded 69 = .ok (.iconst 1, 1) := by decide +kernel
theorem dX9_isUnaryFolded_70 : decode cX9_isUnaryFolded 70 = .ok (.invokevirtual 176, 3) := by decide +kernel
theorem dX9_isUnaryFolded_73 : decode cX9_isUnaryFolded 73 = .ok (.iconst 1, 1) := by decide +kernel
theorem dX9_isUnaryFolded_74 : decode cX9_isUnaryFolded 74 = .ok (.ireturn, 1) := by decide +kernel
theorem dX9_isWindow_0 : decode cX9_isWindow 0 = .ok (.iload_n 1, 1) := by decide +kernel
theorem dX9_isWindow_1 : decode cX9_isWindow 1 = .ok (.ifCond .lt 16, 3) := by decide +kernel
theorem dX9_isWindow_4 : decode cX9_isWindow 4 = .ok (.iload_n 1, 1) := by decide +kernel
theorem dX9_isWindow_5 : decode cX9_isWindow 5 = .ok (.iload_n 2, 1) := by decide +kernel
theorem dX9_isWindow_6 : decode cX9_isWindow 6 = .ok (.iadd, 1) := by decide +kernel
theorem dX9_isWindow_7 : decode cX9_isWindow 7 = .ok (.aload_n 0, 1) := by decide +kernel
theorem dX9_isWindow_8 : decode cX9_isWindow 8 = .ok (.getfield 14, 3) := by decide +kernel
theorem dX9_isWindow_11 : decode cX9_isWindow 11 = .ok (.getfield 54, 3) := by decide +kernel
theorem dX9_isWindow_14 : decode cX9_isWindow 14 = .ok (.if_icmp .lt 5, 3) := by decide +kernel
theorem dX9_isWindow_17 : decode cX9_isWindow 17 = .ok (.iconst 0, 1) := by decide +kernel
theorem dX9_isWindow_18 : decode cX9_isWindow 18 = .ok (.ireturn, 1) := by decide +kernel
theorem dX9_isWindow_19 : decode cX9_isWindow 19 = .ok (.aload_n 0, 1) := by decide +kernel
theorem dX9_isWindow_20 : decode cX9_isWindow 20 = .ok (.getfield 24, 3) := by decide +kernel
theorem dX9_isWindow_23 : decode cX9_isWindow 23 = .ok (.iload_n 1, 1) := by decide +kernel
theorem dX9_isWindow_24 : decode cX9_isWindow 24 = .ok (.iconst 1, 1) := by decide +kernel
theorem dX9_isWindow_25 : decode cX9_isWindow 25 = .ok (.iadd, 1) := by decide +kernel
theorem dX9_isWindow_26 : decode cX9_isWindow 26 = .ok (.baload, 1) := by decide +kernel
theorem dX9_isWindow_27 : decode cX9_isWindow 27 = .ok (.ifCond .ne 23, 3) := by decide +kernel
theorem dX9_isWindow_30 : decode cX9_isWindow 30 = .ok (.iload_n 2, 1) := by decide +kernel
theorem dX9_isWindow_31 : decode cX9_isWindow 31 = .ok (.iconst 3, 1) := by decide +kernel
theorem dX9_isWindow_32 : decode cX9_isWindow 32 = .ok (.if_icmp .lt 14, 3) := by decide +kernel
theorem dX9_isWindow_35 : decode cX9_isWindow 35 = .ok (.aload_n 0, 1) := by decide +kernel
theorem dX9_isWindow_36 : decode cX9_isWindow 36 = .ok (.getfield 24, 3) := by decide +kernel
theorem dX9_isWindow_39 : decode cX9_isWindow 39 = .ok (.iload_n 1, 1) := by decide +kernel
theorem dX9_isWindow_40 : decode cX9_isWindow 40 = .ok (.iconst 2, 1) := by decide +kernel
theorem dX9_isWindow_41 : decode cX9_isWindow 41 = .ok (.iadd, 1) := by decide +kernel
theorem dX9_isWindow_42 : decode cX9_isWindow 42 = .ok (.baload, 1) := by decide +kernel
theorem dX9_isWindow_43 : decode cX9_isWindow 43 = .ok (.ifCond .ne 7, 3) := by decide +kernel
theorem dX9_isWindow_46 : decode cX9_isWindow 46 = .ok (.iconst 1, 1) := by decide +kernel
theorem dX9_isWindow_47 : decode cX9_isWindow 47 = .ok (.goto 4, 3) := by decide +kernel
theorem dX9_isWindow_50 : decode cX9_isWindow 50 = .ok (.iconst 0, 1) := by decide +kernel
theorem dX9_isWindow_51 : decode cX9_isWindow 51 = .ok (.ireturn, 1) := by decide +kernel
theorem dX9_liveAt_0 : decode cX9_liveAt 0 = .ok (.iload_n 1, 1) := by decide +kernel
theorem dX9_liveAt_1 : decode cX9_liveAt 1 = .ok (.ifCond .lt 14, 3) := by decide +kernel
theorem dX9_liveAt_4 : decode cX9_liveAt 4 = .ok (.iload_n 1, 1) := by decide +kernel
theorem dX9_liveAt_5 : decode cX9_liveAt 5 = .ok (.aload_n 0, 1) := by decide +kernel
theorem dX9_liveAt_6 : decode cX9_liveAt 6 = .ok (.getfield 14, 3) := by decide +kernel
theorem dX9_liveAt_9 : decode cX9_liveAt 9 = .ok (.getfield 54, 3) := by decide +kernel
theorem dX9_liveAt_12 : decode cX9_liveAt 12 = .ok (.if_icmp .lt 7, 3) := by decide +kernel
theorem dX9_liveAt_15 : decode cX9_liveAt 15 = .ok (.iconst 0, 1) := by decide +kernel
theorem dX9_liveAt_16 : decode cX9_liveAt 16 = .ok (.goto 9, 3) := by decide +kernel
theorem dX9_liveAt_19 : decode cX9_liveAt 19 = .ok (.aload_n 0, 1) := by decide +kernel
theorem dX9_liveAt_20 : decode cX9_liveAt 20 = .ok (.getfield 31, 3) := by decide +kernel
theorem dX9_liveAt_23 : decode cX9_liveAt 23 = .ok (.iload_n 1, 1) := by decide +kernel
theorem dX9_liveAt_24 : decode cX9_liveAt 24 = .ok (.iaload, 1) := by decide +kernel
theorem dX9_liveAt_25 : decode cX9_liveAt 25 = .ok (.ireturn, 1) := by decide +kernel
theorem dX9_liveBefore_0 : decode cX9_liveBefore 0 = .ok (.aload_n 0, 1) := by decide +kernel
theorem dX9_liveBefore_1 : decode cX9_liveBefore 1 = .ok (.getfield 14, 3) := by decide +kernel
theorem dX9_liveBefore_4 : decode cX9_liveBefore 4 = .ok (.iload_n 1, 1) := by decide +kernel
theorem dX9_liveBefore_5 : decode cX9_liveBefore 5 = .ok (.invokevirtual 71, 3) := by decide +kernel
theorem dX9_liveBefore_8 : decode cX9_liveBefore 8 = .ok (.istore_n 2, 1) := by decide +kernel
theorem dX9_liveBefore_9 : decode cX9_liveBefore 9 = .ok (.aload_n 0, 1) := by decide +kernel
theorem dX9_liveBefore_10 : decode cX9_liveBefore 10 = .ok (.iload_n 1, 1) := by decide +kernel
theorem dX9_liveBefore_11 : decode cX9_liveBefore 11 = .ok (.invokevirtual 251, 3) := by decide +kernel
theorem dX9_liveBefore_14 : decode cX9_liveBefore 14 = .ok (.istore_n 3, 1) := by decide +kernel
theorem dX9_liveBefore_15 : decode cX9_liveBefore 15 = .ok (.iload_n 2, 1) := by decide +kernel
theorem dX9_liveBefore_16 : decode cX9_liveBefore 16 = .ok (.invokestatic 257, 3) := by decide +kernel
theorem dX9_liveBefore_19 : decode cX9_liveBefore 19 = .ok (.ifCond .eq 16, 3) := by decide +kernel
theorem dX9_liveBefore_22 : decode cX9_liveBefore 22 = .ok (.iload_n 3, 1) := by decide +kernel
theorem dX9_liveBefore_23 : decode cX9_liveBefore 23 = .ok (.aload_n 0, 1) := by decide +kernel
theorem dX9_liveBefore_24 : decode cX9_liveBefore 24 = .ok (.iload_n 1, 1) := by decide +kernel
theorem dX9_liveBefore_25 : decode cX9_liveBefore 25 = .ok (.invokevirtual 254, 3) := by decide +kernel
theorem dX9_liveBefore_28 : decode cX9_liveBefore 28 = .ok (.iconst (-1), 1) := by decide +kernel
theorem dX9_liveBefore_29 : decode cX9_liveBefore 29 = .ok (.ixor, 1) := by decide +kernel
theorem dX9_liveBefore_30 : decode cX9_liveBefore 30 = .ok (.iand, 1) := by decide +kernel
theorem dX9_liveBefore_31 : decode cX9_liveBefore 31 = .ok (.istore_n 3, 1) := by decide +kernel
theorem dX9_liveBefore_32 : decode cX9_liveBefore 32 = .ok (.goto 18, 3) := by decide +kernel
theorem dX9_liveBefore_35 : decode cX9_liveBefore 35 = .ok (.iload_n 2, 1) := by decide +kernel
theorem dX9_liveBefore_36 : decode cX9_liveBefore 36 = .ok (.invokestatic 263, 3) := by decide +kernel
theorem dX9_liveBefore_39 : decode cX9_liveBefore 39 = .ok (.ifCond .eq 11, 3) := by decide +kernel
theorem dX9_liveBefore_42 : decode cX9_liveBefore 42 = .ok (.iload_n 3, 1) := by decide +kernel
theorem dX9_liveBefore_43 : decode cX9_liveBefore 43 = .ok (.aload_n 0, 1) := by decide +kernel
theorem dX9_liveBefore_44 : decode cX9_liveBefore 44 = .ok (.iload_n 1, 1) := by decide +kernel
theorem dX9_liveBefore_45 : decode cX9_liveBefore 45 = .ok (.invokevirtual 254, 3) := by decide +kernel
theorem dX9_liveBefore_48 : decode cX9_liveBefore 48 = .ok (.ior, 1) := by decide +kernel
theorem dX9_liveBefore_49 : decode cX9_liveBefore 49 = .ok (.istore_n 3, 1) := by decide +kernel
theorem dX9_liveBefore_50 : decode cX9_liveBefore 50 = .ok (.iconst 0, 1) := by decide +kernel
theorem dX9_liveBefore_51 : decode cX9_liveBefore 51 = .ok (.istore 4, 2) := by decide +kernel
theorem dX9_liveBefore_53 : decode cX9_liveBefore 53 = .ok (.iload 4, 2) := by decide +kernel
theorem dX9_liveBefore_55 : decode cX9_liveBefore 55 = .ok (.aload_n 0, 1) := by decide +kernel
theorem dX9_liveBefore_56 : decode cX9_liveBefore 56 = .ok (.getfield 14, 3) := by decide +kernel
theorem dX9_liveBefore_59 : decode cX9_liveBefore 59 = .ok (.getfield 106, 3) := by decide +kernel
theorem dX9_liveBefore_62 : decode cX9_liveBefore 62 = .ok (.if_icmp .ge 39, 3) := by decide +kernel
theorem dX9_liveBefore_65 : decode cX9_liveBefore 65 = .ok (.aload_n 0, 1) := by decide +kernel
theorem dX9_liveBefore_66 : decode cX9_liveBefore 66 = .ok (.getfield 14, 3) := by decide +kernel
theorem dX9_liveBefore_69 : decode cX9_liveBefore 69 = .ok (.iload 4, 2) := by decide +kernel
theorem dX9_liveBefore_71 : decode cX9_liveBefore 71 = .ok (.iload_n 1, 1) := by decide +kernel
theorem dX9_liveBefore_72 : decode cX9_liveBefore 72 = .ok (.invokevirtual 194, 3) := by decide +kernel
theorem dX9_liveBefore_75 : decode cX9_liveBefore 75 = .ok (.ifCond .eq 20, 3) := by decide +kernel
theorem dX9_liveBefore_78 : decode cX9_liveBefore 78 = .ok (.iload_n 3, 1) := by decide +kernel
theorem dX9_liveBefore_79 : decode cX9_liveBefore 79 = .ok (.aload_n 0, 1) := by decide +kernel
theorem dX9_liveBefore_80 : decode cX9_liveBefore 80 = .ok (.aload_n 0, 1) := by decide +kernel
theorem dX9_liveBefore_81 : decode cX9_liveBefore 81 = .ok (.getfield 14, 3) := by decide +kernel
theorem dX9_liveBefore_84 : decode cX9_liveBefore 84 = .ok (.getfield 115, 3) := by decide +kernel
theorem dX9_liveBefore_87 : decode cX9_liveBefore 87 = .ok (.iload 4, 2) := by decide +kernel
theorem dX9_liveBefore_89 : decode cX9_liveBefore 89 = .ok (.iaload, 1) := by decide +kernel
theorem dX9_liveBefore_90 : decode cX9_liveBefore 90 = .ok (.invokevirtual 266, 3) := by decide +kernel
theorem dX9_liveBefore_93 : decode cX9_liveBefore 93 = .ok (.ior, 1) := by decide +kernel
theorem dX9_liveBefore_94 : decode cX9_liveBefore 94 = .ok (.istore_n 3, 1) := by decide +kernel
theorem dX9_liveBefore_95 : decode cX9_liveBefore 95 = .ok (.iinc 4 1, 3) := by decide +kernel
theorem dX9_liveBefore_98 : decode cX9_liveBefore 98 = .ok (.goto (-45), 3) := by decide +kernel
theorem dX9_liveBefore_101 : decode cX9_liveBefore 101 = .ok (.iload_n 3, 1) := by decide +kernel
theorem dX9_liveBefore_102 : decode cX9_liveBefore 102 = .ok (.ireturn, 1) := by decide +kernel
theorem dX9_liveBehind_0 : decode cX9_liveBehind 0 = .ok (.aload_n 0, 1) := by decide +kernel
theorem dX9_liveBehind_1 : decode cX9_liveBehind 1 = .ok (.getfield 14, 3) := by decide +kernel
theorem dX9_liveBehind_4 : decode cX9_liveBehind 4 = .ok (.iload_n 1, 1) := by decide +kernel
theorem dX9_liveBehind_5 : decode cX9_liveBehind 5 = .ok (.invokevirtual 71, 3) := by decide +kernel
theorem dX9_liveBehind_8 : decode cX9_liveBehind 8 = .ok (.invokestatic 186, 3) := by decide +kernel
theorem dX9_liveBehind_11 : decode cX9_liveBehind 11 = .ok (.ifCond .eq 13, 3) := by decide +kernel
theorem dX9_liveBehind_14 : decode cX9_liveBehind 14 = .ok (.aload_n 0, 1) := by decide +kernel
theorem dX9_liveBehind_15 : decode cX9_liveBehind 15 = .ok (.iload_n 1, 1) := by decide +kernel
theorem dX9_liveBehind_16 : decode cX9_liveBehind 16 = .ok (.iconst 1, 1) := by decide +kernel
theorem dX9_liveBehind_17 : decode cX9_liveBehind 17 = .ok (.iadd, 1) := by decide +kernel
theorem dX9_liveBehind_18 : decode cX9_liveBehind 18 = .ok (.invokevirtual 266, 3) := by decide +kernel
theorem dX9_liveBehind_21 : decode cX9_liveBehind 21 = .ok (.goto 4, 3) := by decide +kernel
theorem dX9_liveBehind_24 : decode cX9_liveBehind 24 = .ok (.iconst 0, 1) := by decide +kernel
theorem dX9_liveBehind_25 : decode cX9_liveBehind 25 = .ok (.istore_n 2, 1) := by decide +kernel
theorem dX9_liveBehind_26 : decode cX9_liveBehind 26 = .ok (.aload_n 0, 1) := by decide +kernel
theorem dX9_liveBehind_27 : decode cX9_liveBehind 27 = .ok (.getfield 14, 3) := by decide +kernel
theorem dX9_liveBehind_30 : decode cX9_liveBehind 30 = .ok (.iload_n 1, 1) := by decide +kernel
theorem dX9_liveBehind_31 : decode cX9_liveBehind 31 = .ok (.invokevirtual 94, 3) := by decide +kernel
theorem dX9_liveBehind_34 : decode cX9_liveBehind 34 = .ok (.istore_n 3, 1) := by decide +kernel
theorem dX9_liveBehind_35 : decode cX9_liveBehind 35 = .ok (.iconst 0, 1) := by decide +kernel
theorem dX9_liveBehind_36 : decode cX9_liveBehind 36 = .ok (.istore 4, 2) := by decide +kernel
theorem dX9_liveBehind_38 : decode cX9_liveBehind 38 = .ok (.iload 4, 2) := by decide +kernel
theorem dX9_liveBehind_40 : decode cX9_liveBehind 40 = .ok (.iload_n 3, 1) := by decide +kernel
theorem dX9_liveBehind_41 : decode cX9_liveBehind 41 = .ok (.if_icmp .ge 26, 3) := by decide +kernel
theorem dX9_liveBehind_44 : decode cX9_liveBehind 44 = .ok (.iload_n 2, 1) := by decide +kernel
theorem dX9_liveBehind_45 : decode cX9_liveBehind 45 = .ok (.aload_n 0, 1) := by decide +kernel
theorem dX9_liveBehind_46 : decode cX9_liveBehind 46 = .ok (.aload_n 0, 1) := by decide +kernel
theorem dX9_liveBehind_47 : decode cX9_liveBehind 47 = .ok (.getfield 14, 3) := by decide +kernel
theorem dX9_liveBehind_50 : decode cX9_liveBehind 50 = .ok (.iload_n 1, 1) := by decide +kernel
theorem dX9_liveBehind_51 : decode cX9_liveBehind 51 = .ok (.iload 4, 2) := by decide +kernel
theorem dX9_liveBehind_53 : decode cX9_liveBehind 53 = .ok (.invokevirtual 97, 3) := by decide +kernel
theorem dX9_liveBehind_56 : decode cX9_liveBehind 56 = .ok (.invokevirtual 266, 3) := by decide +kernel
theorem dX9_liveBehind_59 : decode cX9_liveBehind 59 = .ok (.ior, 1) := by decide +kernel
theorem dX9_liveBehind_60 : decode cX9_liveBehind 60 = .ok (.istore_n 2, 1) := by decide +kernel
theorem dX9_liveBehind_61 : decode cX9_liveBehind 61 = .ok (.iinc 4 1, 3) := by decide +kernel
theorem dX9_liveBehind_64 : decode cX9_liveBehind 64 = .ok (.goto (-26), 3) := by decide +kernel
theorem dX9_liveBehind_67 : decode cX9_liveBehind 67 = .ok (.iload_n 2, 1) := by decide +kernel
theorem dX9_liveBehind_68 : decode cX9_liveBehind 68 = .ok (.ireturn, 1) := by decide +kernel
theorem dX9_localBits_0 : decode cX9_localBits 0 = .ok (.aload_n 0, 1) := by decide +kernel

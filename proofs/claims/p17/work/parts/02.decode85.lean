theorem dX9_isRedirected_20 : decode cX9_isRedirected 20 = .ok (.iload_n 1, 1) := by decide +kernel
theorem dX9_isRedirected_21 : decode cX9_isRedirected 21 = .ok (.iload_n 3, 1) := by decide +kernel
theorem dX9_isRedirected_22 : decode cX9_isRedirected 22 = .ok (.invokevirtual 97, 3) := by decide +kernel
theorem dX9_isRedirected_25 : decode cX9_isRedirected 25 = .ok (.istore 4, 2) := by decide +kernel
theorem dX9_isRedirected_27 : decode cX9_isRedirected 27 = .ok (.iconst 0, 1) := by decide +kernel
theorem dX9_isRedirected_28 : decode cX9_isRedirected 28 = .ok (.istore 5, 2) := by decide +kernel
theorem dX9_isRedirected_30 : decode cX9_isRedirected 30 = .ok (.aload_n 0, 1) := by decide +kernel
theorem dX9_isRedirected_31 : decode cX9_isRedirected 31 = .ok (.getfield 14, 3) := by decide +kernel
theorem dX9_isRedirected_34 : decode cX9_isRedirected 34 = .ok (.iload 4, 2) := by decide +kernel
theorem dX9_isRedirected_36 : decode cX9_isRedirected 36 = .ok (.invokevirtual 71, 3) := by decide +kernel
theorem dX9_isRedirected_39 : decode cX9_isRedirected 39 = .ok (.sipush 167, 3) := by decide +kernel
theorem dX9_isRedirected_42 : decode cX9_isRedirected 42 = .ok (.if_icmp .ne 33, 3) := by decide +kernel
theorem dX9_isRedirected_45 : decode cX9_isRedirected 45 = .ok (.iload 5, 2) := by decide +kernel
theorem dX9_isRedirected_47 : decode cX9_isRedirected 47 = .ok (.aload_n 0, 1) := by decide +kernel
theorem dX9_isRedirected_48 : decode cX9_isRedirected 48 = .ok (.getfield 14, 3) := by decide +kernel
theorem dX9_isRedirected_51 : decode cX9_isRedirected 51 = .ok (.getfield 54, 3) := by decide +kernel
theorem dX9_isRedirected_54 : decode cX9_isRedirected 54 = .ok (.if_icmp .gt 21, 3) := by decide +kernel
theorem dX9_isRedirected_57 : decode cX9_isRedirected 57 = .ok (.aload_n 0, 1) := by decide +kernel
theorem dX9_isRedirected_58 : decode cX9_isRedirected 58 = .ok (.getfield 14, 3) := by decide +kernel
theorem dX9_isRedirected_61 : decode cX9_isRedirected 61 = .ok (.iload 4, 2) := by decide +kernel
theorem dX9_isRedirected_63 : decode cX9_isRedirected 63 = .ok (.iconst 0, 1) := by decide +kernel
theorem dX9_isRedirected_64 : decode cX9_isRedirected 64 = .ok (.invokevirtual 97, 3) := by decide +kernel
theorem dX9_isRedirected_67 : decode cX9_isRedirected 67 = .ok (.istore 4, 2) := by decide +kernel
theorem dX9_isRedirected_69 : decode cX9_isRedirected 69 = .ok (.iinc 5 1, 3) := by decide +kernel
theorem dX9_isRedirected_72 : decode cX9_isRedirected 72 = .ok (.goto (-42), 3) := by decide +kernel
theorem dX9_isRedirected_75 : decode cX9_isRedirected 75 = .ok (.iload 4, 2) := by decide +kernel
theorem dX9_isRedirected_77 : decode cX9_isRedirected 77 = .ok (.aload_n 0, 1) := by decide +kernel
theorem dX9_isRedirected_78 : decode cX9_isRedirected 78 = .ok (.getfield 14, 3) := by decide +kernel
theorem dX9_isRedirected_81 : decode cX9_isRedirected 81 = .ok (.iload_n 1, 1) := by decide +kernel
theorem dX9_isRedirected_82 : decode cX9_isRedirected 82 = .ok (.iload_n 3, 1) := by decide +kernel
theorem dX9_isRedirected_83 : decode cX9_isRedirected 83 = .ok (.invokevirtual 97, 3) := by decide +kernel
theorem dX9_isRedirected_86 : decode cX9_isRedirected 86 = .ok (.if_icmp .eq 31, 3) := by decide +kernel
theorem dX9_isRedirected_89 : decode cX9_isRedirected 89 = .ok (.aload_n 0, 1) := by decide +kernel
theorem dX9_isRedirected_90 : decode cX9_isRedirected 90 = .ok (.getfield 14, 3) := by decide +kernel
theorem dX9_isRedirected_93 : decode cX9_isRedirected 93 = .ok (.iload 4, 2) := by decide +kernel
theorem dX9_isRedirected_95 : decode cX9_isRedirected 95 = .ok (.invokevirtual 71, 3) := by decide +kernel
theorem dX9_isRedirected_98 : decode cX9_isRedirected 98 = .ok (.sipush 167, 3) := by decide +kernel
theorem dX9_isRedirected_101 : decode cX9_isRedirected 101 = .ok (.if_icmp .eq 16, 3) := by decide +kernel
theorem dX9_isRedirected_104 : decode cX9_isRedirected 104 = .ok (.aload_n 0, 1) := by decide +kernel
theorem dX9_isRedirected_105 : decode cX9_isRedirected 105 = .ok (.getfield 14, 3) := by decide +kernel
theorem dX9_isRedirected_108 : decode cX9_isRedirected 108 = .ok (.iload_n 1, 1) := by decide +kernel
theorem dX9_isRedirected_109 : decode cX9_isRedirected 109 = .ok (.iload_n 3, 1) := by decide +kernel
theorem dX9_isRedirected_110 : decode cX9_isRedirected 110 = .ok (.iload 4, 2) := by decide +kernel
theorem dX9_isRedirected_112 : decode cX9_isRedirected 112 = .ok (.invokevirtual 103, 3) := by decide +kernel
theorem dX9_isRedirected_115 : decode cX9_isRedirected 115 = .ok (.iconst 1, 1) := by decide +kernel
theorem dX9_isRedirected_116 : decode cX9_isRedirected 116 = .ok (.ireturn, 1) := by decide +kernel
theorem dX9_isRedirected_117 : decode cX9_isRedirected 117 = .ok (.iinc 3 1, 3) := by decide +kernel
theorem dX9_isRedirected_120 : decode cX9_isRedirected 120 = .ok (.goto (-109), 3) := by decide +kernel
theorem dX9_isRedirected_123 : decode cX9_isRedirected 123 = .ok (.iconst 0, 1) := by decide +kernel
theorem dX9_isRedirected_124 : decode cX9_isRedirected 124 = .ok (.ireturn, 1) := by decide +kernel
theorem dX9_isUnaryFolded_0 : decode cX9_isUnaryFolded 0 = .ok (.aload_n 0, 1) := by decide +kernel
theorem dX9_isUnaryFolded_1 : decode cX9_isUnaryFolded 1 = .ok (.getfield 14, 3) := by decide +kernel
theorem dX9_isUnaryFolded_4 : decode cX9_isUnaryFolded 4 = .ok (.iload_n 1, 1) := by decide +kernel
theorem dX9_isUnaryFolded_5 : decode cX9_isUnaryFolded 5 = .ok (.iconst 1, 1) := by decide +kernel
theorem dX9_isUnaryFolded_6 : decode cX9_isUnaryFolded 6 = .ok (.iadd, 1) := by decide +kernel
theorem dX9_isUnaryFolded_7 : decode cX9_isUnaryFolded 7 = .ok (.invokevirtual 71, 3) := by decide +kernel
theorem dX9_isUnaryFolded_10 : decode cX9_isUnaryFolded 10 = .ok (.istore_n 2, 1) := by decide +kernel
theorem dX9_isUnaryFolded_11 : decode cX9_isUnaryFolded 11 = .ok (.iload_n 2, 1) := by decide +kernel
theorem dX9_isUnaryFolded_12 : decode cX9_isUnaryFolded 12 = .ok (.invokestatic 226, 3) := by decide +kernel
theorem dX9_isUnaryFolded_15 : decode cX9_isUnaryFolded 15 = .ok (.ifCond .eq 24, 3) := by decide +kernel
theorem dX9_isUnaryFolded_18 : decode cX9_isUnaryFolded 18 = .ok (.aload_n 0, 1) := by decide +kernel
theorem dX9_isUnaryFolded_19 : decode cX9_isUnaryFolded 19 = .ok (.iload_n 1, 1) := by decide +kernel
theorem dX9_isUnaryFolded_20 : decode cX9_isUnaryFolded 20 = .ok (.invokevirtual 207, 3) := by decide +kernel
theorem dX9_isUnaryFolded_23 : decode cX9_isUnaryFolded 23 = .ok (.iload_n 2, 1) := by decide +kernel
theorem dX9_isUnaryFolded_24 : decode cX9_isUnaryFolded 24 = .ok (.invokestatic 210, 3) := by decide +kernel
theorem dX9_isUnaryFolded_27 : decode cX9_isUnaryFolded 27 = .ok (.if_icmp .ne 12, 3) := by decide +kernel
theorem dX9_isUnaryFolded_30 : decode cX9_isUnaryFolded 30 = .ok (.aload_n 0, 1) := by decide +kernel
theorem dX9_isUnaryFolded_31 : decode cX9_isUnaryFolded 31 = .ok (.iload_n 1, 1) := by decide +kernel
theorem dX9_isUnaryFolded_32 : decode cX9_isUnaryFolded 32 = .ok (.iconst 2, 1) := by decide +kernel
theorem dX9_isUnaryFolded_33 : decode cX9_isUnaryFolded 33 = .ok (.invokevirtual 161, 3) := by decide +kernel
theorem dX9_isUnaryFolded_36 : decode cX9_isUnaryFolded 36 = .ok (.ifCond .ne 5, 3) := by decide +kernel
theorem dX9_isUnaryFolded_39 : decode cX9_isUnaryFolded 39 = .ok (.iconst 0, 1) := by decide +kernel
theorem dX9_isUnaryFolded_40 : decode cX9_isUnaryFolded 40 = .ok (.ireturn, 1) := by decide +kernel
theorem dX9_isUnaryFolded_41 : decode cX9_isUnaryFolded 41 = .ok (.aload_n 0, 1) := by decide +kernel
theorem dX9_isUnaryFolded_42 : decode cX9_isUnaryFolded 42 = .ok (.iload_n 1, 1) := by decide +kernel
theorem dX9_isUnaryFolded_43 : decode cX9_isUnaryFolded 43 = .ok (.iload_n 2, 1) := by decide +kernel
theorem dX9_isUnaryFolded_44 : decode cX9_isUnaryFolded 44 = .ok (.invokestatic 216, 3) := by decide +kernel
theorem dX9_isUnaryFolded_47 : decode cX9_isUnaryFolded 47 = .ok (.iload_n 2, 1) := by decide +kernel
theorem dX9_isUnaryFolded_48 : decode cX9_isUnaryFolded 48 = .ok (.aload_n 0, 1) := by decide +kernel
theorem dX9_isUnaryFolded_49 : decode cX9_isUnaryFolded 49 = .ok (.getfield 14, 3) := by decide +kernel
theorem dX9_isUnaryFolded_52 : decode cX9_isUnaryFolded 52 = .ok (.iload_n 1, 1) := by decide +kernel
theorem dX9_isUnaryFolded_53 : decode cX9_isUnaryFolded 53 = .ok (.invokevirtual 74, 3) := by decide +kernel
theorem dX9_isUnaryFolded_56 : decode cX9_isUnaryFolded 56 = .ok (.invokestatic 229, 3) := by decide +kernel
theorem dX9_isUnaryFolded_59 : decode cX9_isUnaryFolded 59 = .ok (.invokevirtual 223, 3) := by decide +kernel
theorem dX9_isUnaryFolded_62 : decode cX9_isUnaryFolded 62 = .ok (.aload_n 0, 1) := by decide +kernel
theorem dX9_isUnaryFolded_63 : decode cX9_isUnaryFolded 63 = .ok (.getfield 14, 3) := by decide +kernel
theorem dX9_isUnaryFolded_66 : decode cX9_isUnaryFolded 66 = .ok (.iload_n 1, 1) := by decide +kernel
theorem dX9_isUnaryFolded_67 : decode cX9_isUnaryFolded 67 = .ok (.iconst 1, 1) := by decide +kernel
theorem dX9_isUnaryFolded_68 : decode cX9_isUnaryFolded 68 = .ok (.iadd, 1) := by decide +kernel
theorem dX9_isUnaryFolded_69 : decode cX9_isUnaryFolded 69 = .ok (.iconst 1, 1) := by decide +kernel
theorem dX9_isUnaryFolded_70 : decode cX9_isUnaryFolded 70 = .ok (.invokevirtual 176, 3) := by decide +kernel
theorem dX9_isUnaryFolded_73 : decode cX9_isUnaryFolded 73 = .ok (.iconst 1, 1) := by decide +kernel
theorem dX9_isUnaryFolded_74 : decode cX9_isUnaryFolded 74 = .ok (.ireturn, 1) := by decide +kernel
theorem dX9_isWindow_0 : decode cX9_isWindow 0 = .ok (.iload_n 1, 1) := by decide +kernel
theorem dX9_isWindow_1 : decode cX9_isWindow 1 = .ok (.ifCond .lt 16, 3) := by decide +kernel
theorem dX9_isWindow_4 : decode cX9_isWindow 4 = .ok (.iload_n 1, 1) := by decide +kernel
theorem dX9_isWindow_5 : decode cX9_isWindow 5 = .ok (.iload_n 2, 1) := by decide +kernel
theorem dX9_isWindow_6 : decode cX9_isWindow 6 = .ok (.iadd, 1) := by decide +kernel
theorem dX9_isWindow_7 : decode cX9_isWindow 7 = .ok (.aload_n 0, 1) := by decide +kernel
theorem dX9_isWindow_8 : decode cX9_isWindow 8 = .ok (.getfield 14, 3) := by decide +kernel
theorem dX9_isWindow_11 : decode cX9_isWindow 11 = .ok (.getfield 54, 3) := by decide +kernel
theorem dX9_isWindow_14 : decode cX9_isWindow 14 = .ok (.if_icmp .lt 5, 3) := by decide +kernel
theorem dX9_isWindow_17 : decode cX9_isWindow 17 = .ok (.iconst 0, 1) := by decide +kernel
theorem dX9_isWindow_18 : decode cX9_isWindow 18 = .ok (.ireturn, 1) := by decide +kernel
theorem dX9_isWindow_19 : decode cX9_isWindow 19 = .ok (.aload_n 0, 1) := by decide +kernel
theorem dX9_isWindow_20 : decode cX9_isWindow 20 = .ok (.getfield 24, 3) := by decide +kernel
theorem dX9_isWindow_23 : decode cX9_isWindow 23 = .ok (.iload_n 1, 1) := by decide +kernel
theorem dX9_isWindow_24 : decode cX9_isWindow 24 = .ok (.iconst 1, 1) := by decide +kernel
theorem dX9_isWindow_25 : decode cX9_isWindow 25 = .ok (.iadd, 1) := by decide +kernel
theorem dX9_isWindow_26 : decode cX9_isWindow 26 = .ok (.baload, 1) := by decide +kernel
theorem dX9_isWindow_27 : decode cX9_isWindow 27 = .ok (.ifCond .ne 23, 3) := by decide +kernel
theorem dX9_isWindow_30 : decode cX9_isWindow 30 = .ok (.iload_n 2, 1) := by decide +kernel
theorem dX9_isWindow_31 : decode cX9_isWindow 31 = .ok (.iconst 3, 1) := by decide +kernel
theorem dX9_isWindow_32 : decode cX9_isWindow 32 = .ok (.if_icmp .lt 14, 3) := by decide +kernel
theorem dX9_isWindow_35 : decode cX9_isWindow 35 = .ok (.aload_n 0, 1) := by decide +kernel
theorem dX9_isWindow_36 : decode cX9_isWindow 36 = .ok (.getfield 24, 3) := by decide +kernel
theorem dX9_isWindow_39 : decode cX9_isWindow 39 = .ok (.iload_n 1, 1) := by decide +kernel
theorem dX9_isWindow_40 : decode cX9_isWindow 40 = .ok (.iconst 2, 1) := by decide +kernel
theorem dX9_isWindow_41 : decode cX9_isWindow 41 = .ok (.iadd, 1) := by decide +kernel
theorem dX9_isWindow_42 : decode cX9_isWindow 42 = .ok (.baload, 1) := by decide +kernel
theorem dX9_isWindow_43 : decode cX9_isWindow 43 = .ok (.ifCond .ne 7, 3) := by decide +kernel
theorem dX9_isWindow_46 : decode cX9_isWindow 46 = .ok (.iconst 1, 1) := by decide +kernel
theorem dX9_isWindow_47 : decode cX9_isWindow 47 = .ok (.goto 4, 3) := by decide +kernel
theorem dX9_isWindow_50 : decode cX9_isWindow 50 = .ok (.iconst 0, 1) := by decide +kernel
theorem dX9_isWindow_51 : decode cX9_isWindow 51 = .ok (.ireturn, 1) := by decide +kernel
theorem dX9_liveAt_0 : decode cX9_liveAt 0 = .ok (.iload_n 1, 1) := by decide +kernel
theorem dX9_liveAt_1 : decode cX9_liveAt 1 = .ok (.ifCond .lt 14, 3) := by decide +kernel
theorem dX9_liveAt_4 : decode cX9_liveAt 4 = .ok (.iload_n 1, 1) := by decide +kernel
theorem dX9_liveAt_5 : decode cX9_liveAt 5 = .ok (.aload_n 0, 1) := by decide +kernel
theorem dX9_liveAt_6 : decode cX9_liveAt 6 = .ok (.getfield 14, 3) := by decide +kernel
theorem dX9_liveAt_9 : decode cX9_liveAt 9 = .ok (.getfield 54, 3) := by decide +kernel
theorem dX9_liveAt_12 : decode cX9_liveAt 12 = .ok (.if_icmp .lt 7, 3) := by decide +kernel
theorem dX9_liveAt_15 : decode cX9_liveAt 15 = .ok (.iconst 0, 1) := by decide +kernel
theorem dX9_liveAt_16 : decode cX9_liveAt 16 = .ok (.goto 9, 3) := by decide +kernel
theorem dX9_liveAt_19 : decode cX9_liveAt 19 = .ok (.aload_n 0, 1) := by decide +kernel
theorem dX9_liveAt_20 : decode cX9_liveAt 20 = .ok (.getfield 31, 3) := by decide +kernel
theorem dX9_liveAt_23 : decode cX9_liveAt 23 = .ok (.iload_n 1, 1) := by decide +kernel
theorem dX9_liveAt_24 : decode cX9_liveAt 24 = .ok (.iaload, 1) := by decide +kernel
theorem dX9_liveAt_25 : decode cX9_liveAt 25 = .ok (.ireturn, 1) := by decide +kernel
theorem dX9_liveBefore_0 : decode cX9_liveBefore 0 = .ok (.aload_n 0, 1) := by decide +kernel
theorem dX9_liveBefore_1 : decode cX9_liveBefore 1 = .ok (.getfield 14, 3) := by decide +kernel
theorem dX9_liveBefore_4 : decode cX9_liveBefore 4 = .ok (.iload_n 1, 1) := by decide +kernel
theorem dX9_liveBefore_5 : decode cX9_liveBefore 5 = .ok (.invokevirtual 71, 3) := by decide +kernel
theorem dX9_liveBefore_8 : decode cX9_liveBefore 8 = .ok (.istore_n 2, 1) := by decide +kernel
theorem dX9_liveBefore_9 : decode cX9_liveBefore 9 = .ok (.aload_n 0, 1) := by decide +kernel
theorem dX9_liveBefore_10 : decode cX9_liveBefore 10 = .ok (.iload_n 1, 1) := by decide +kernel
theorem dX9_liveBefore_11 : decode cX9_liveBefore 11 = .ok (.invokevirtual 251, 3) := by decide +kernel
theorem dX9_liveBefore_14 : decode cX9_liveBefore 14 = .ok (.istore_n 3, 1) := by decide +kernel
theorem dX9_liveBefore_15 : decode cX9_liveBefore 15 = .ok (.iload_n 2, 1) := by decide +kernel
theorem dX9_liveBefore_16 : decode cX9_liveBefore 16 = .ok (.invokestatic 257, 3) := by decide +kernel

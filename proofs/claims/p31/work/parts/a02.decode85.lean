theorem dX9_isPassedOn_81 : decode cX9_isPassedOn 81 = .ok (.iconst 1, 1) := by decide +kernel
theorem dX9_isPassedOn_82 : decode cX9_isPassedOn 82 = .ok (.iadd, 1) := by decide +kernel
theorem dX9_isPassedOn_83 : decode cX9_isPassedOn 83 = .ok (.invokevirtual 248, 3) := by decide +kernel
theorem dX9_isPassedOn_86 : decode cX9_isPassedOn 86 = .ok (.if_icmp .ne 23, 3) := by decide +kernel
theorem dX9_isPassedOn_89 : decode cX9_isPassedOn 89 = .ok (.aload_n 0, 1) := by decide +kernel
theorem dX9_isPassedOn_90 : decode cX9_isPassedOn 90 = .ok (.iload_n 1, 1) := by decide +kernel
theorem dX9_isPassedOn_91 : decode cX9_isPassedOn 91 = .ok (.iconst 1, 1) := by decide +kernel
theorem dX9_isPassedOn_92 : decode cX9_isPassedOn 92 = .ok (.iadd, 1) := by decide +kernel
theorem dX9_isPassedOn_93 : decode cX9_isPassedOn 93 = .ok (.invokevirtual 251, 3) := by decide +kernel
theorem dX9_isPassedOn_96 : decode cX9_isPassedOn 96 = .ok (.aload_n 0, 1) := by decide +kernel
theorem dX9_isPassedOn_97 : decode cX9_isPassedOn 97 = .ok (.iload_n 1, 1) := by decide +kernel
theorem dX9_isPassedOn_98 : decode cX9_isPassedOn 98 = .ok (.invokevirtual 254, 3) := by decide +kernel
theorem dX9_isPassedOn_101 : decode cX9_isPassedOn 101 = .ok (.iand, 1) := by decide +kernel
theorem dX9_isPassedOn_102 : decode cX9_isPassedOn 102 = .ok (.ifCond .ne 7, 3) := by decide +kernel
theorem dX9_isPassedOn_105 : decode cX9_isPassedOn 105 = .ok (.iconst 1, 1) := by decide +kernel
theorem dX9_isPassedOn_106 : decode cX9_isPassedOn 106 = .ok (.goto 4, 3) := by decide +kernel
theorem dX9_isPassedOn_109 : decode cX9_isPassedOn 109 = .ok (.iconst 0, 1) := by decide +kernel
theorem dX9_isPassedOn_110 : decode cX9_isPassedOn 110 = .ok (.ireturn, 1) := by decide +kernel
theorem dX9_isPopped_0 : decode cX9_isPopped 0 = .ok (.aload_n 0, 1) := by decide +kernel
theorem dX9_isPopped_1 : decode cX9_isPopped 1 = .ok (.getfield 14, 3) := by decide +kernel
theorem dX9_isPopped_4 : decode cX9_isPopped 4 = .ok (.iload_n 1, 1) := by decide +kernel
theorem dX9_isPopped_5 : decode cX9_isPopped 5 = .ok (.invokevirtual 71, 3) := by decide +kernel
theorem dX9_isPopped_8 : decode cX9_isPopped 8 = .ok (.istore_n 2, 1) := by decide +kernel
theorem dX9_isPopped_9 : decode cX9_isPopped 9 = .ok (.aload_n 0, 1) := by decide +kernel
theorem dX9_isPopped_10 : decode cX9_isPopped 10 = .ok (.iload_n 1, 1) := by decide +kernel
theorem dX9_isPopped_11 : decode cX9_isPopped 11 = .ok (.invokevirtual 207, 3) := by decide +kernel
theorem dX9_isPopped_14 : decode cX9_isPopped 14 = .ok (.ifCond .ne 17, 3) := by decide +kernel
theorem dX9_isPopped_17 : decode cX9_isPopped 17 = .ok (.iload_n 2, 1) := by decide +kernel
theorem dX9_isPopped_18 : decode cX9_isPopped 18 = .ok (.iconst 1, 1) := by decide +kernel
theorem dX9_isPopped_19 : decode cX9_isPopped 19 = .ok (.if_icmp .eq 12, 3) := by decide +kernel
theorem dX9_isPopped_22 : decode cX9_isPopped 22 = .ok (.iload_n 2, 1) := by decide +kernel
theorem dX9_isPopped_23 : decode cX9_isPopped 23 = .ok (.invokestatic 242, 3) := by decide +kernel
theorem dX9_isPopped_26 : decode cX9_isPopped 26 = .ok (.ifCond .ne 5, 3) := by decide +kernel
theorem dX9_isPopped_29 : decode cX9_isPopped 29 = .ok (.iconst 0, 1) := by decide +kernel
theorem dX9_isPopped_30 : decode cX9_isPopped 30 = .ok (.ireturn, 1) := by decide +kernel
theorem dX9_isPopped_31 : decode cX9_isPopped 31 = .ok (.aload_n 0, 1) := by decide +kernel
theorem dX9_isPopped_32 : decode cX9_isPopped 32 = .ok (.getfield 14, 3) := by decide +kernel
theorem dX9_isPopped_35 : decode cX9_isPopped 35 = .ok (.iload_n 1, 1) := by decide +kernel
theorem dX9_isPopped_36 : decode cX9_isPopped 36 = .ok (.iconst 1, 1) := by decide +kernel
theorem dX9_isPopped_37 : decode cX9_isPopped 37 = .ok (.iadd, 1) := by decide +kernel
theorem dX9_isPopped_38 : decode cX9_isPopped 38 = .ok (.invokevirtual 71, 3) := by decide +kernel
theorem dX9_isPopped_41 : decode cX9_isPopped 41 = .ok (.iload_n 2, 1) := by decide +kernel
theorem dX9_isPopped_42 : decode cX9_isPopped 42 = .ok (.invokestatic 216, 3) := by decide +kernel
theorem dX9_isPopped_45 : decode cX9_isPopped 45 = .ok (.iconst 2, 1) := by decide +kernel
theorem dX9_isPopped_46 : decode cX9_isPopped 46 = .ok (.if_icmp .ne 8, 3) := by decide +kernel
theorem dX9_isPopped_49 : decode cX9_isPopped 49 = .ok (.bipush 88, 2) := by decide +kernel
theorem dX9_isPopped_51 : decode cX9_isPopped 51 = .ok (.goto 5, 3) := by decide +kernel
theorem dX9_isPopped_54 : decode cX9_isPopped 54 = .ok (.bipush 87, 2) := by decide +kernel
theorem dX9_isPopped_56 : decode cX9_isPopped 56 = .ok (.if_icmp .ne 7, 3) := by decide +kernel
theorem dX9_isPopped_59 : decode cX9_isPopped 59 = .ok (.iconst 1, 1) := by decide +kernel
theorem dX9_isPopped_60 : decode cX9_isPopped 60 = .ok (.goto 4, 3) := by decide +kernel
theorem dX9_isPopped_63 : decode cX9_isPopped 63 = .ok (.iconst 0, 1) := by decide +kernel
theorem dX9_isPopped_64 : decode cX9_isPopped 64 = .ok (.ireturn, 1) := by decide +kernel
theorem dX9_isRedirected_0 : decode cX9_isRedirected 0 = .ok (.aload_n 0, 1) := by decide +kernel
theorem dX9_isRedirected_1 : decode cX9_isRedirected 1 = .ok (.getfield 14, 3) := by decide +kernel
theorem dX9_isRedirected_4 : decode cX9_isRedirected 4 = .ok (.iload_n 1, 1) := by decide +kernel
theorem dX9_isRedirected_5 : decode cX9_isRedirected 5 = .ok (.invokevirtual 94, 3) := by decide +kernel
theorem dX9_isRedirected_8 : decode cX9_isRedirected 8 = .ok (.istore_n 2, 1) := by decide +kernel
theorem dX9_isRedirected_9 : decode cX9_isRedirected 9 = .ok (.iconst 0, 1) := by decide +kernel
theorem dX9_isRedirected_10 : decode cX9_isRedirected 10 = .ok (.istore_n 3, 1) := by decide +kernel
theorem dX9_isRedirected_11 : decode cX9_isRedirected 11 = .ok (.iload_n 3, 1) := by decide +kernel
theorem dX9_isRedirected_12 : decode cX9_isRedirected 12 = .ok (.iload_n 2, 1) := by decide +kernel
theorem dX9_isRedirected_13 : decode cX9_isRedirected 13 = .ok (.if_icmp .ge 110, 3) := by decide +kernel
theorem dX9_isRedirected_16 : decode cX9_isRedirected 16 = .ok (.aload_n 0, 1) := by decide +kernel
theorem dX9_isRedirected_17 : decode cX9_isRedirected 17 = .ok (.getfield 14, 3) := by decide +kernel
theorem dX9_isRedirected_20 : decode cX9_isRedirected 20 = .ok (.iload_n 1, 1) := by decide +kernel
theorem dX9_isRedirected_21 : decode cX9_isRedirected 21 = .ok (.iload_n 3, 1) := by decide +kernel
theorem dX9_isRedirected_22 : decode cX9_isRedirected 22 = .ok (.invokevirtual 97, 3) := by decide +kernel
theorem dX9_isRedirected_25 : decode cX9_isRedirected 25 = .ok (.istore 4, 2) := by decide +kernel
theorem dX9_isRedirected_27 : decode cX9_isRedirected 27 = .ok (.iconst 0, 1) := by decide +kernel
theorem dX9_isRedirected_28 : decode cX9_isRedirected 28 = .ok (.istore 5, 2) := by decide +kernel
theorem dX9_isRedirected_30 : decode cX9_isRedirected 30 = .ok (.aload_n 0, 1) := by decide +kernel
theorem dX9_isRedirected_31 : decode cX9_isRedirected 31 = .ok (.getfield 14, 3) := by decide +kernel
theorem dX9_isRedirected_34 : decode cX9_isRedirected 34 = .ok (.iload 4, 2) := by decide +kernel
theorem dX9_isRedirected_36 : decode cX9_isRedirected 36 = .ok (.invokevirtual 71, 3) := by decide +kernel
theorem dX9_isRedirected_39 : decode cX9_isRedirected 39 = .ok (.sipush 167, 3) := by decide +kernel
theorem dX9_isRedirected_42 : decode cX9_isRedirected 42 = .ok (.if_icmp .ne 33, 3) := by decide +kernel
theorem dX9_isRedirected_45 : decode cX9_isRedirected 45 = .ok (.iload 5, 2) := by decide +kernel
theorem dX9_isRedirected_47 : decode cX9_isRedirected 47 = .ok (.aload_n 0, 1) := by decide +kernel
theorem dX9_isRedirected_48 : decode cX9_isRedirected 48 = .ok (.getfield 14, 3) := by decide +kernel
theorem dX9_isRedirected_51 : decode cX9_isRedirected 51 = .ok (.getfield 54, 3) := by decide +kernel
theorem dX9_isRedirected_54 : decode cX9_isRedirected 54 = .ok (.if_icmp .gt 21, 3) := by decide +kernel
theorem dX9_isRedirected_57 : decode cX9_isRedirected 57 = .ok (.aload_n 0, 1) := by decide +kernel
theorem dX9_isRedirected_58 : decode cX9_isRedirected 58 = .ok (.getfield 14, 3) := by decide +kernel
theorem dX9_isRedirected_61 : decode cX9_isRedirected 61 = .ok (.iload 4, 2) := by decide +kernel
theorem dX9_isRedirected_63 : decode cX9_isRedirected 63 = .ok (.iconst 0, 1) := by decide +kernel
theorem dX9_isRedirected_64 : decode cX9_isRedirected 64 = .ok (.invokevirtual 97, 3) := by decide +kernel
theorem dX9_isRedirected_67 : decode cX9_isRedirected 67 = .ok (.istore 4, 2) := by decide +kernel
theorem dX9_isRedirected_69 : decode cX9_isRedirected 69 = .ok (.iinc 5 1, 3) := by decide +kernel
theorem dX9_isRedirected_72 : decode cX9_isRedirected 72 = .ok (.goto (-42), 3) := by decide +kernel
theorem dX9_isRedirected_75 : decode cX9_isRedirected 75 = .ok (.iload 4, 2) := by decide +kernel
theorem dX9_isRedirected_77 : decode cX9_isRedirected 77 = .ok (.aload_n 0, 1) := by decide +kernel
theorem dX9_isRedirected_78 : decode cX9_isRedirected 78 = .ok (.getfield 14, 3) := by decide +kernel
theorem dX9_isRedirected_81 : decode cX9_isRedirected 81 = .ok (.iload_n 1, 1) := by decide +kernel
theorem dX9_isRedirected_82 : decode cX9_isRedirected 82 = .ok (.iload_n 3, 1) := by decide +kernel
theorem dX9_isRedirected_83 : decode cX9_isRedirected 83 = .ok (.invokevirtual 97, 3) := by decide +kernel
theorem dX9_isRedirected_86 : decode cX9_isRedirected 86 = .ok (.if_icmp .eq 31, 3) := by decide +kernel
theorem dX9_isRedirected_89 : decode cX9_isRedirected 89 = .ok (.aload_n 0, 1) := by decide +kernel
theorem dX9_isRedirected_90 : decode cX9_isRedirected 90 = .ok (.getfield 14, 3) := by decide +kernel
theorem dX9_isRedirected_93 : decode cX9_isRedirected 93 = .ok (.iload 4, 2) := by decide +kernel
theorem dX9_isRedirected_95 : decode cX9_isRedirected 95 = .ok (.invokevirtual 71, 3) := by decide +kernel
theorem dX9_isRedirected_98 : decode cX9_isRedirected 98 = .ok (.sipush 167, 3) := by decide +kernel
theorem dX9_isRedirected_101 : decode cX9_isRedirected 101 = .ok (.if_icmp .eq 16, 3) := by decide +kernel
theorem dX9_isRedirected_104 : decode cX9_isRedirected 104 = .ok (.aload_n 0, 1) := by decide +kernel
theorem dX9_isRedirected_105 : decode cX9_isRedirected 105 = .ok (.getfield 14, 3) := by decide +kernel
theorem dX9_isRedirected_108 : decode cX9_isRedirected 108 = .ok (.iload_n 1, 1) := by decide +kernel
theorem dX9_isRedirected_109 : decode cX9_isRedirected 109 = .ok (.iload_n 3, 1) := by decide +kernel
theorem dX9_isRedirected_110 : decode cX9_isRedirected 110 = .ok (.iload 4, 2) := by decide +kernel
theorem dX9_isRedirected_112 : decode cX9_isRedirected 112 = .ok (.invokevirtual 103, 3) := by decide +kernel
theorem dX9_isRedirected_115 : decode cX9_isRedirected 115 = .ok (.iconst 1, 1) := by decide +kernel
theorem dX9_isRedirected_116 : decode cX9_isRedirected 116 = .ok (.ireturn, 1) := by decide +kernel
theorem dX9_isRedirected_117 : decode cX9_isRedirected 117 = .ok (.iinc 3 1, 3) := by decide +kernel
theorem dX9_isRedirected_120 : decode cX9_isRedirected 120 = .ok (.goto (-109), 3) := by decide +kernel
theorem dX9_isRedirected_123 : decode cX9_isRedirected 123 = .ok (.iconst 0, 1) := by decide +kernel
theorem dX9_isRedirected_124 : decode cX9_isRedirected 124 = .ok (.ireturn, 1) := by decide +kernel
theorem dX9_isUnaryFolded_0 : decode cX9_isUnaryFolded 0 = .ok (.aload_n 0, 1) := by decide +kernel
theorem dX9_isUnaryFolded_1 : decode cX9_isUnaryFolded 1 = .ok (.getfield 14, 3) := by decide +kernel
theorem dX9_isUnaryFolded_4 : decode cX9_isUnaryFolded 4 = .ok (.iload_n 1, 1) := by decide +kernel
theorem dX9_isUnaryFolded_5 : decode cX9_isUnaryFolded 5 = .ok (.iconst 1, 1) := by decide +kernel
theorem dX9_isUnaryFolded_6 : decode cX9_isUnaryFolded 6 = .ok (.iadd, 1) := by decide +kernel
theorem dX9_isUnaryFolded_7 : decode cX9_isUnaryFolded 7 = .ok (.invokevirtual 71, 3) := by decide +kernel
theorem dX9_isUnaryFolded_10 : decode cX9_isUnaryFolded 10 = .ok (.istore_n 2, 1) := by decide +kernel
theorem dX9_isUnaryFolded_11 : decode cX9_isUnaryFolded 11 = .ok (.iload_n 2, 1) := by decide +kernel
theorem dX9_isUnaryFolded_12 : decode cX9_isUnaryFolded 12 = .ok (.invokestatic 226, 3) := by decide +kernel
theorem dX9_isUnaryFolded_15 : decode cX9_isUnaryFolded 15 = .ok (.ifCond .eq 24, 3) := by decide +kernel
theorem dX9_isUnaryFolded_18 : decode cX9_isUnaryFolded 18 = .ok (.aload_n 0, 1) := by decide +kernel
theorem dX9_isUnaryFolded_19 : decode cX9_isUnaryFolded 19 = .ok (.iload_n 1, 1) := by decide +kernel
theorem dX9_isUnaryFolded_20 : decode cX9_isUnaryFolded 20 = .ok (.invokevirtual 207, 3) := by decide +kernel
theorem dX9_isUnaryFolded_23 : decode cX9_isUnaryFolded 23 = .ok (.iload_n 2, 1) := by decide +kernel
theorem dX9_isUnaryFolded_24 : decode cX9_isUnaryFolded 24 = .ok (.invokestatic 210, 3) := by decide +kernel
theorem dX9_isUnaryFolded_27 : decode cX9_isUnaryFolded 27 = .ok (.if_icmp .ne 12, 3) := by decide +kernel
theorem dX9_isUnaryFolded_30 : decode cX9_isUnaryFolded 30 = .ok (.aload_n 0, 1) := by decide +kernel
theorem dX9_isUnaryFolded_31 : decode cX9_isUnaryFolded 31 = .ok (.iload_n 1, 1) := by decide +kernel
theorem dX9_isUnaryFolded_32 : decode cX9_isUnaryFolded 32 = .ok (.iconst 2, 1) := by decide +kernel
theorem dX9_isUnaryFolded_33 : decode cX9_isUnaryFolded 33 = .ok (.invokevirtual 161, 3) := by decide +kernel
theorem dX9_isUnaryFolded_36 : decode cX9_isUnaryFolded 36 = .ok (.ifCond .ne 5, 3) := by decide +kernel
theorem dX9_isUnaryFolded_39 : decode cX9_isUnaryFolded 39 = .ok (.iconst 0, 1) := by decide +kernel
theorem dX9_isUnaryFolded_40 : decode cX9_isUnaryFolded 40 = .ok (.ireturn, 1) := by decide +kernel
theorem dX9_isUnaryFolded_41 : decode cX9_isUnaryFolded 41 = .ok (.aload_n 0, 1) := by decide +kernel
theorem dX9_isUnaryFolded_42 : decode cX9_isUnaryFolded 42 = .ok (.iload_n 1, 1) := by decide +kernel
theorem dX9_isUnaryFolded_43 : decode cX9_isUnaryFolded 43 = .ok (.iload_n 2, 1) := by decide +kernel
theorem dX9_isUnaryFolded_44 : decode cX9_isUnaryFolded 44 = .ok (.invokestatic 216, 3) := by decide +kernel
theorem dX9_isUnaryFolded_47 : decode cX9_isUnaryFolded 47 = .ok (.iload_n 2, 1) := by decide +kernel
theorem dX9_isUnaryFolded_48 : decode cX9_isUnaryFolded 48 = .ok (.aload_n 0, 1) := by decide +kernel
theorem dX9_isUnaryFolded_49 : decode cX9_isUnaryFolded 49 = .ok (.getfield 14, 3) := by decide +kernel
theorem dX9_isUnaryFolded_52 : decode cX9_isUnaryFolded 52 = .ok (.iload_n 1, 1) := by decide +kernel
theorem dX9_isUnaryFolded_53 : decode cX9_isUnaryFolded 53 = .ok (.invokevirtual 74, 3) := by decide +kernel
theorem dX9_isUnaryFolded_56 : decode cX9_isUnaryFolded 56 = .ok (.invokestatic 229, 3) := by decide +kernel
theorem dX9_isUnaryFolded_59 : decode cX9_isUnaryFolded 59 = .ok (.invokevirtual 223, 3) := by decide +kernel
theorem dX9_isUnaryFolded_62 : decode cX9_isUnaryFolded 62 = .ok (.aload_n 0, 1) := by decide +kernel
theorem dX9_isUnaryFolded_63 : decode cX9_isUnaryFolded 63 = .ok (.getfield 14, 3) := by decide +kernel
theorem dX9_isUnaryFolded_66 : decode cX9_isUnaryFolded 66 = .ok (.iload_n 1, 1) := by decide +kernel
theorem dX9_isUnaryFolded_67 : decode cX9_isUnaryFolded 67 = .ok (.iconst 1, 1) := by decide +kernel
theorem dX9_isUnaryFolded_68 : decode cX9_isUnaryFolded 68 = .ok (.iadd, 1) := by decide +kernel
theorem dX9_isUnaryFolded_69 : decode cX9_isUnaryFolded 69 = .ok (.iconst 1, 1) := by decide +kernel
theorem dX9_isUnaryFolded_70 : decode cX9_isUnaryFolded 70 = .ok (.invokevirtual 176, 3) := by decide +kernel
theorem dX9_isUnaryFolded_73 : decode cX9_isUnaryFolded 73 = .ok (.iconst 1, 1) := by decide +kernel
theorem dX9_isUnaryFolded_74 : decode cX9_isUnaryFolded 74 = .ok (.ireturn, 1) := by decide +kernel
theorem dX9_isWindow_0 : decode cX9_isWindow 0 = .ok (.iload_n 1, 1) := by decide +kernel
theorem dX9_isWindow_1 : decode cX9_isWindow 1 = .ok (.ifCond .lt 16, 3) := by decide +kernel
theorem dX9_isWindow_4 : decode cX9_isWindow 4 = .ok (.iload_n 1, 1) := by decide +kernel
theorem dX9_isWindow_5 : decode cX9_isWindow 5 = .ok (.iload_n 2, 1) := by decide +kernel
theorem dX9_isWindow_6 : decode cX9_isWindow 6 = .ok (.iadd, 1) := by decide +kernel
theorem dX9_isWindow_7 : decode cX9_isWindow 7 = .ok (.aload_n 0, 1) := by decide +kernel
theorem dX9_isWindow_8 : decode cX9_isWindow 8 = .ok (.getfield 14, 3) := by decide +kernel
theorem dX9_isWindow_11 : decode cX9_isWindow 11 = .ok (.getfield 54, 3) := by decide +kernel
theorem dX9_isWindow_14 : decode cX9_isWindow 14 = .ok (.if_icmp .lt 5, 3) := by decide +kernel
theorem dX9_isWindow_17 : decode cX9_isWindow 17 = .ok (.iconst 0, 1) := by decide +kernel
theorem dX9_isWindow_18 : decode cX9_isWindow 18 = .ok (.ireturn, 1) := by decide +kernel
theorem dX9_isWindow_19 : decode cX9_isWindow 19 = .ok (.aload_n 0, 1) := by decide +kernel
theorem dX9_isWindow_20 : decode cX9_isWindow 20 = .ok (.getfield 24, 3) := by decide +kernel
theorem dX9_isWindow_23 : decode cX9_isWindow 23 = .ok (.iload_n 1, 1) := by decide +kernel
theorem dX9_isWindow_24 : decode cX9_isWindow 24 = .ok (.iconst 1, 1) := by decide +kernel
theorem dX9_isWindow_25 : decode cX9_isWindow 25 = .ok (.iadd, 1) := by decide +kernel
theorem dX9_isWindow_26 : decode cX9_isWindow 26 = .ok (.baload, 1) := by decide +kernel
theorem dX9_isWindow_27 : decode cX9_isWindow 27 = .ok (.ifCond .ne 23, 3) := by decide +kernel
theorem dX9_isWindow_30 : decode cX9_isWindow 30 = .ok (.iload_n 2, 1) := by decide +kernel
theorem dX9_isWindow_31 : decode cX9_isWindow 31 = .ok (.iconst 3, 1) := by decide +kernel
theorem dX9_isWindow_32 : decode cX9_isWindow 32 = .ok (.if_icmp .lt 14, 3) := by decide +kernel
theorem dX9_isWindow_35 : decode cX9_isWindow 35 = .ok (.aload_n 0, 1) := by decide +kernel
theorem dX9_isWindow_36 : decode cX9_isWindow 36 = .ok (.getfield 24, 3) := by decide +kernel
theorem dX9_isWindow_39 : decode cX9_isWindow 39 = .ok (.iload_n 1, 1) := by decide +kernel
theorem dX9_isWindow_40 : decode cX9_isWindow 40 = .ok (.iconst 2, 1) := by decide +kernel
theorem dX9_isWindow_41 : decode cX9_isWindow 41 = .ok (.iadd, 1) := by decide +kernel
theorem dX9_isWindow_42 : decode cX9_isWindow 42 = .ok (.baload, 1) := by decide +kernel
theorem dX9_isWindow_43 : decode cX9_isWindow 43 = .ok (.ifCond .ne 7, 3) := by decide +kernel
theorem dX9_isWindow_46 : decode cX9_isWindow 46 = .ok (.iconst 1, 1) := by decide +kernel
theorem dX9_isWindow_47 : decode cX9_isWindow 47 = .ok (.goto 4, 3) := by decide +kernel
theorem dX9_isWindow_50 : decode cX9_isWindow 50 = .ok (.iconst 0, 1) := by decide +kernel
theorem dX9_isWindow_51 : decode cX9_isWindow 51 = .ok (.ireturn, 1) := by decide +kernel
theorem dX9_liveAt_0 : decode cX9_liveAt 0 = .ok (.iload_n 1, 1) := by decide +kernel
theorem dX9_liveAt_1 : decode cX9_liveAt 1 = .ok (.ifCond .lt 14, 3) := by decide +kernel
theorem dX9_liveAt_4 : decode cX9_liveAt 4 = .ok (.iload_n 1, 1) := by decide +kernel
theorem dX9_liveAt_5 : decode cX9_liveAt 5 = .ok (.aload_n 0, 1) := by decide +kernel
theorem dX9_liveAt_6 : decode cX9_liveAt 6 = .ok (.getfield 14, 3) := by decide +kernel
theorem dX9_liveAt_9 : decode cX9_liveAt 9 = .ok (.getfield 54, 3) := by decide +kernel
theorem dX9_liveAt_12 : decode cX9_liveAt 12 = .ok (.if_icmp .lt 7, 3) := by decide +kernel
theorem dX9_liveAt_15 : decode cX9_liveAt 15 = .ok (.iconst 0, 1) := by decide +kernel
theorem dX9_liveAt_16 : decode cX9_liveAt 16 = .ok (.goto 9, 3) := by decide +kernel
theorem dX9_liveAt_19 : decode cX9_liveAt 19 = .ok (.aload_n 0, 1) := by decide +kernel
theorem dX9_liveAt_20 : decode cX9_liveAt 20 = .ok (.getfield 31, 3) := by decide +kernel
theorem dX9_liveAt_23 : decode cX9_liveAt 23 = .ok (.iload_n 1, 1) := by decide +kernel
theorem dX9_liveAt_24 : decode cX9_liveAt 24 = .ok (.iaload, 1) := by decide +kernel
theorem dX9_liveAt_25 : decode cX9_liveAt 25 = .ok (.ireturn, 1) := by decide +kernel
theorem dX9_liveBefore_0 : decode cX9_liveBefore 0 = .ok (.aload_n 0, 1) := by decide +kernel
theorem dX9_liveBefore_1 : decode cX9_liveBefore 1 = .ok (.getfield 14, 3) := by decide +kernel
theorem dX9_liveBefore_4 : decode cX9_liveBefore 4 = .ok (.iload_n 1, 1) := by decide +kernel
theorem dX9_liveBefore_5 : decode cX9_liveBefore 5 = .ok (.invokevirtual 71, 3) := by decide +kernel
theorem dX9_liveBefore_8 : decode cX9_liveBefore 8 = .ok (.istore_n 2, 1) := by decide +kernel
theorem dX9_liveBefore_9 : decode cX9_liveBefore 9 = .ok (.aload_n 0, 1) := by decide +kernel
theorem dX9_liveBefore_10 : decode cX9_liveBefore 10 = .ok (.iload_n 1, 1) := by decide +kernel
theorem dX9_liveBefore_11 : decode cX9_liveBefore 11 = .ok (.invokevirtual 251, 3) := by decide +kernel
theorem dX9_liveBefore_14 : decode cX9_liveBefore 14 = .ok (.istore_n 3, 1) := by decide +kernel
theorem dX9_liveBefore_15 : decode cX9_liveBefore 15 = .ok (.iload_n 2, 1) := by decide +kernel
theorem dX9_liveBefore_16 : decode cX9_liveBefore 16 = .ok (.invokestatic 257, 3) := by decide +kernel
theorem dX9_liveBefore_19 : decode cX9_liveBefore 19 = .ok (.ifCond .eq 16, 3) := by decide +kernel
theorem dX9_liveBefore_22 : decode cX9_liveBefore 22 = .ok (.iload_n 3, 1) := by decide +kernel
theorem dX9_liveBefore_23 : decode cX9_liveBefore 23 = .ok (.aload_n 0, 1) := by decide +kernel
theorem dX9_liveBefore_24 : decode cX9_liveBefore 24 = .ok (.iload_n 1, 1) := by decide +kernel
theorem dX9_liveBefore_25 : decode cX9_liveBefore 25 = .ok (.invokevirtual 254, 3) := by decide +kernel
theorem dX9_liveBefore_28 : decode cX9_liveBefore 28 = .ok (.iconst (-1), 1) := by decide +kernel
theorem dX9_liveBefore_29 : decode cX9_liveBefore 29 = .ok (.ixor, 1) := by decide +kernel
theorem dX9_liveBefore_30 : decode cX9_liveBefore 30 = .ok (.iand, 1) := by decide +kernel
theorem dX9_liveBefore_31 : decode cX9_liveBefore 31 = .ok (.istore_n 3, 1) := by decide +kernel
theorem dX9_liveBefore_32 : decode cX9_liveBefore 32 = .ok (.goto 18, 3) := by decide +kernel
theorem dX9_liveBefore_35 : decode cX9_liveBefore 35 = .ok (.iload_n 2, 1) := by decide +kernel
theorem dX9_liveBefore_36 : decode cX9_liveBefore 36 = .ok (.invokestatic 263, 3) := by decide +kernel
theorem dX9_liveBefore_39 : decode cX9_liveBefore 39 = .ok (.ifCond .eq 11, 3) := by decide +kernel
theorem dX9_liveBefore_42 : decode cX9_liveBefore 42 = .ok (.iload_n 3, 1) := by decide +kernel
theorem dX9_liveBefore_43 : decode cX9_liveBefore 43 = .ok (.aload_n 0, 1) := by decide +kernel
theorem dX9_liveBefore_44 : decode cX9_liveBefore 44 = .ok (.iload_n 1, 1) := by decide +kernel
theorem dX9_liveBefore_45 : decode cX9_liveBefore 45 = .ok (.invokevirtual 254, 3) := by decide +kernel
theorem dX9_liveBefore_48 : decode cX9_liveBefore 48 = .ok (.ior, 1) := by decide +kernel
theorem dX9_liveBefore_49 : decode cX9_liveBefore 49 = .ok (.istore_n 3, 1) := by decide +kernel
theorem dX9_liveBefore_50 : decode cX9_liveBefore 50 = .ok (.iconst 0, 1) := by decide +kernel
theorem dX9_liveBefore_51 : decode cX9_liveBefore 51 = .ok (.istore 4, 2) := by decide +kernel
theorem dX9_liveBefore_53 : decode cX9_liveBefore 53 = .ok (.iload 4, 2) := by decide +kernel
theorem dX9_liveBefore_55 : decode cX9_liveBefore 55 = .ok (.aload_n 0, 1) := by decide +kernel
theorem dX9_liveBefore_56 : decode cX9_liveBefore 56 = .ok (.getfield 14, 3) := by decide +kernel
theorem dX9_liveBefore_59 : decode cX9_liveBefore 59 = .ok (.getfield 106, 3) := by decide +kernel
theorem dX9_liveBefore_62 : decode cX9_liveBefore 62 = .ok (.if_icmp .ge 39, 3) := by decide +kernel
theorem dX9_liveBefore_65 : decode cX9_liveBefore 65 = .ok (.aload_n 0, 1) := by decide +kernel
theorem dX9_liveBefore_66 : decode cX9_liveBefore 66 = .ok (.getfield 14, 3) := by decide +kernel
theorem dX9_liveBefore_69 : decode cX9_liveBefore 69 = .ok (.iload 4, 2) := by decide +kernel
theorem dX9_liveBefore_71 : decode cX9_liveBefore 71 = .ok (.iload_n 1, 1) := by decide +kernel
theorem dX9_liveBefore_72 : decode cX9_liveBefore 72 = .ok (.invokevirtual 194, 3) := by decide +kernel
theorem dX9_liveBefore_75 : decode cX9_liveBefore 75 = .ok (.ifCond .eq 20, 3) := by decide +kernel
theorem dX9_liveBefore_78 : decode cX9_liveBefore 78 = .ok (.iload_n 3, 1) := by decide +kernel
theorem dX9_liveBefore_79 : decode cX9_liveBefore 79 = .ok (.aload_n 0, 1) := by decide +kernel
theorem dX9_liveBefore_80 : decode cX9_liveBefore 80 = .ok (.aload_n 0, 1) := by decide +kernel
theorem dX9_liveBefore_81 : decode cX9_liveBefore 81 = .ok (.getfield 14, 3) := by decide +kernel
theorem dX9_liveBefore_84 : decode cX9_liveBefore 84 = .ok (.getfield 115, 3) := by decide +kernel
theorem dX9_liveBefore_87 : decode cX9_liveBefore 87 = .ok (.iload 4, 2) := by decide +kernel
theorem dX9_liveBefore_89 : decode cX9_liveBefore 89 = .ok (.iaload, 1) := by decide +kernel
theorem dX9_liveBefore_90 : decode cX9_liveBefore 90 = .ok (.invokevirtual 266, 3) := by decide +kernel
theorem dX9_liveBefore_93 : decode cX9_liveBefore 93 = .ok (.ior, 1) := by decide +kernel
theorem dX9_liveBefore_94 : decode cX9_liveBefore 94 = .ok (.istore_n 3, 1) := by decide +kernel
theorem dX9_liveBefore_95 : decode cX9_liveBefore 95 = .ok (.iinc 4 1, 3) := by decide +kernel
theorem dX9_liveBefore_98 : decode cX9_liveBefore 98 = .ok (.goto (-45), 3) := by decide +kernel
theorem dX9_liveBefore_101 : decode cX9_liveBefore 101 = .ok (.iload_n 3, 1) := by decide +kernel
theorem dX9_liveBefore_102 : decode cX9_liveBefore 102 = .ok (.ireturn, 1) := by decide +kernel
theorem dX9_liveBehind_0 : decode cX9_liveBehind 0 = .ok (.aload_n 0, 1) := by decide +kernel
theorem dX9_liveBehind_1 : decode cX9_liveBehind 1 = .ok (.getfield 14, 3) := by decide +kernel
theorem dX9_liveBehind_4 : decode cX9_liveBehind 4 = .ok (.iload_n 1, 1) := by decide +kernel
theorem dX9_liveBehind_5 : decode cX9_liveBehind 5 = .ok (.invokevirtual 71, 3) := by decide +kernel
theorem dX9_liveBehind_8 : decode cX9_liveBehind 8 = .ok (.invokestatic 186, 3) := by decide +kernel
theorem dX9_liveBehind_11 : decode cX9_liveBehind 11 = .ok (.ifCond .eq 13, 3) := by decide +kernel
theorem dX9_liveBehind_14 : decode cX9_liveBehind 14 = .ok (.aload_n 0, 1) := by decide +kernel
theorem dX9_liveBehind_15 : decode cX9_liveBehind 15 = .ok (.iload_n 1, 1) := by decide +kernel
theorem dX9_liveBehind_16 : decode cX9_liveBehind 16 = .ok (.iconst 1, 1) := by decide +kernel
theorem dX9_liveBehind_17 : decode cX9_liveBehind 17 = .ok (.iadd, 1) := by decide +kernel
theorem dX9_liveBehind_18 : decode cX9_liveBehind 18 = .ok (.invokevirtual 266, 3) := by decide +kernel
theorem dX9_liveBehind_21 : decode cX9_liveBehind 21 = .ok (.goto 4, 3) := by decide +kernel
theorem dX9_liveBehind_24 : decode cX9_liveBehind 24 = .ok (.iconst 0, 1) := by decide +kernel
theorem dX9_liveBehind_25 : decode cX9_liveBehind 25 = .ok (.istore_n 2, 1) := by decide +kernel
theorem dX9_liveBehind_26 : decode cX9_liveBehind 26 = .ok (.aload_n 0, 1) := by decide +kernel
theorem dX9_liveBehind_27 : decode cX9_liveBehind 27 = .ok (.getfield 14, 3) := by decide +kernel
theorem dX9_liveBehind_30 : decode cX9_liveBehind 30 = .ok (.iload_n 1, 1) := by decide +kernel
theorem dX9_liveBehind_31 : decode cX9_liveBehind 31 = .ok (.invokevirtual 94, 3) := by decide +kernel
theorem dX9_liveBehind_34 : decode cX9_liveBehind 34 = .ok (.istore_n 3, 1) := by decide +kernel
theorem dX9_liveBehind_35 : decode cX9_liveBehind 35 = .ok (.iconst 0, 1) := by decide +kernel
theorem dX9_liveBehind_36 : decode cX9_liveBehind 36 = .ok (.istore 4, 2) := by decide +kernel
theorem dX9_liveBehind_38 : decode cX9_liveBehind 38 = .ok (.iload 4, 2) := by decide +kernel
theorem dX9_liveBehind_40 : decode cX9_liveBehind 40 = .ok (.iload_n 3, 1) := by decide +kernel
theorem dX9_liveBehind_41 : decode cX9_liveBehind 41 = .ok (.if_icmp .ge 26, 3) := by decide +kernel
theorem dX9_liveBehind_44 : decode cX9_liveBehind 44 = .ok (.iload_n 2, 1) := by decide +kernel
theorem dX9_liveBehind_45 : decode cX9_liveBehind 45 = .ok (.aload_n 0, 1) := by decide +kernel
theorem dX9_liveBehind_46 : decode cX9_liveBehind 46 = .ok (.aload_n 0, 1) := by decide +kernel
theorem dX9_liveBehind_47 : decode cX9_liveBehind 47 = .ok (.getfield 14, 3) := by decide +kernel
theorem dX9_liveBehind_50 : decode cX9_liveBehind 50 = .ok (.iload_n 1, 1) := by decide +kernel
theorem dX9_liveBehind_51 : decode cX9_liveBehind 51 = .ok (.iload 4, 2) := by decide +kernel
theorem dX9_liveBehind_53 : decode cX9_liveBehind 53 = .ok (.invokevirtual 97, 3) := by decide +kernel
theorem dX9_liveBehind_56 : decode cX9_liveBehind 56 = .ok (.invokevirtual 266, 3) := by decide +kernel
theorem dX9_liveBehind_59 : decode cX9_liveBehind 59 = .ok (.ior, 1) := by decide +kernel
theorem dX9_liveBehind_60 : decode cX9_liveBehind 60 = .ok (.istore_n 2, 1) := by decide +kernel
theorem dX9_liveBehind_61 : decode cX9_liveBehind 61 = .ok (.iinc 4 1, 3) := by decide +kernel
theorem dX9_liveBehind_64 : decode cX9_liveBehind 64 = .ok (.goto (-26), 3) := by decide +kernel
theorem dX9_liveBehind_67 : decode cX9_liveBehind 67 = .ok (.iload_n 2, 1) := by decide +kernel
theorem dX9_liveBehind_68 : decode cX9_liveBehind 68 = .ok (.ireturn, 1) := by decide +kernel
theorem dX9_localBits_0 : decode cX9_localBits 0 = .ok (.aload_n 0, 1) := by decide +kernel
theorem dX9_localBits_1 : decode cX9_localBits 1 = .ok (.getfield 14, 3) := by decide +kernel
theorem dX9_localBits_4 : decode cX9_localBits 4 = .ok (.iload_n 1, 1) := by decide +kernel
theorem dX9_localBits_5 : decode cX9_localBits 5 = .ok (.invokevirtual 71, 3) := by decide +kernel
theorem dX9_localBits_8 : decode cX9_localBits 8 = .ok (.invokestatic 245, 3) := by decide +kernel
theorem dX9_localBits_11 : decode cX9_localBits 11 = .ok (.iconst 2, 1) := by decide +kernel
theorem dX9_localBits_12 : decode cX9_localBits 12 = .ok (.if_icmp .ne 7, 3) := by decide +kernel
theorem dX9_localBits_15 : decode cX9_localBits 15 = .ok (.iconst 3, 1) := by decide +kernel
theorem dX9_localBits_16 : decode cX9_localBits 16 = .ok (.goto 4, 3) := by decide +kernel
theorem dX9_localBits_19 : decode cX9_localBits 19 = .ok (.iconst 1, 1) := by decide +kernel
theorem dX9_localBits_20 : decode cX9_localBits 20 = .ok (.aload_n 0, 1) := by decide +kernel
theorem dX9_localBits_21 : decode cX9_localBits 21 = .ok (.getfield 14, 3) := by decide +kernel
theorem dX9_localBits_24 : decode cX9_localBits 24 = .ok (.iload_n 1, 1) := by decide +kernel
theorem dX9_localBits_25 : decode cX9_localBits 25 = .ok (.invokevirtual 248, 3) := by decide +kernel
theorem dX9_localBits_28 : decode cX9_localBits 28 = .ok (.ishl, 1) := by decide +kernel
theorem dX9_localBits_29 : decode cX9_localBits 29 = .ok (.ireturn, 1) := by decide +kernel
theorem dX9_makeBetter_0 : decode cX9_makeBetter 0 = .ok (.aload_n 0, 1) := by decide +kernel
theorem dX9_makeBetter_1 : decode cX9_makeBetter 1 = .ok (.aload_n 1, 1) := by decide +kernel
theorem dX9_makeBetter_2 : decode cX9_makeBetter 2 = .ok (.invokevirtual 50, 3) := by decide +kernel
theorem dX9_makeBetter_5 : decode cX9_makeBetter 5 = .ok (.aload_n 0, 1) := by decide +kernel
theorem dX9_makeBetter_6 : decode cX9_makeBetter 6 = .ok (.getfield 14, 3) := by decide +kernel
theorem dX9_makeBetter_9 : decode cX9_makeBetter 9 = .ok (.aload_n 1, 1) := by decide +kernel
theorem dX9_makeBetter_10 : decode cX9_makeBetter 10 = .ok (.invokevirtual 125, 3) := by decide +kernel
theorem dX9_makeBetter_13 : decode cX9_makeBetter 13 = .ok (.iconst 1, 1) := by decide +kernel
theorem dX9_makeBetter_14 : decode cX9_makeBetter 14 = .ok (.istore_n 3, 1) := by decide +kernel
theorem dX9_makeBetter_15 : decode cX9_makeBetter 15 = .ok (.iconst 0, 1) := by decide +kernel
theorem dX9_makeBetter_16 : decode cX9_makeBetter 16 = .ok (.istore 4, 2) := by decide +kernel
theorem dX9_makeBetter_18 : decode cX9_makeBetter 18 = .ok (.iload_n 3, 1) := by decide +kernel
theorem dX9_makeBetter_19 : decode cX9_makeBetter 19 = .ok (.ifCond .eq 67, 3) := by decide +kernel
theorem dX9_makeBetter_22 : decode cX9_makeBetter 22 = .ok (.iload 4, 2) := by decide +kernel
theorem dX9_makeBetter_24 : decode cX9_makeBetter 24 = .ok (.bipush 50, 2) := by decide +kernel
theorem dX9_makeBetter_26 : decode cX9_makeBetter 26 = .ok (.if_icmp .ge 60, 3) := by decide +kernel
theorem dX9_makeBetter_29 : decode cX9_makeBetter 29 = .ok (.iconst 0, 1) := by decide +kernel
theorem dX9_makeBetter_30 : decode cX9_makeBetter 30 = .ok (.istore_n 3, 1) := by decide +kernel
theorem dX9_makeBetter_31 : decode cX9_makeBetter 31 = .ok (.iconst 1, 1) := by decide +kernel
theorem dX9_makeBetter_32 : decode cX9_makeBetter 32 = .ok (.istore 5, 2) := by decide +kernel
theorem dX9_makeBetter_34 : decode cX9_makeBetter 34 = .ok (.iload 5, 2) := by decide +kernel
theorem dX9_makeBetter_36 : decode cX9_makeBetter 36 = .ok (.bipush 11, 2) := by decide +kernel
theorem dX9_makeBetter_38 : decode cX9_makeBetter 38 = .ok (.if_icmp .gt 42, 3) := by decide +kernel
theorem dX9_makeBetter_41 : decode cX9_makeBetter 41 = .ok (.iload_n 2, 1) := by decide +kernel
theorem dX9_makeBetter_42 : decode cX9_makeBetter 42 = .ok (.iload 5, 2) := by decide +kernel
theorem dX9_makeBetter_44 : decode cX9_makeBetter 44 = .ok (.iconst 1, 1) := by decide +kernel
theorem dX9_makeBetter_45 : decode cX9_makeBetter 45 = .ok (.isub, 1) := by decide +kernel
theorem dX9_makeBetter_46 : decode cX9_makeBetter 46 = .ok (.ishr, 1) := by decide +kernel
theorem dX9_makeBetter_47 : decode cX9_makeBetter 47 = .ok (.iconst 1, 1) := by decide +kernel
theorem dX9_makeBetter_48 : decode cX9_makeBetter 48 = .ok (.iand, 1) := by decide +kernel
theorem dX9_makeBetter_49 : decode cX9_makeBetter 49 = .ok (.ifCond .eq 25, 3) := by decide +kernel
theorem dX9_makeBetter_52 : decode cX9_makeBetter 52 = .ok (.iload_n 3, 1) := by decide +kernel
theorem dX9_makeBetter_53 : decode cX9_makeBetter 53 = .ok (.iload 5, 2) := by decide +kernel
theorem dX9_makeBetter_55 : decode cX9_makeBetter 55 = .ok (.iconst 1, 1) := by decide +kernel
theorem dX9_makeBetter_56 : decode cX9_makeBetter 56 = .ok (.if_icmp .ne 10, 3) := by decide +kernel
theorem dX9_makeBetter_59 : decode cX9_makeBetter 59 = .ok (.aload_n 0, 1) := by decide +kernel
theorem dX9_makeBetter_60 : decode cX9_makeBetter 60 = .ok (.invokevirtual 128, 3) := by decide +kernel
theorem dX9_makeBetter_63 : decode cX9_makeBetter 63 = .ok (.goto 9, 3) := by decide +kernel
theorem dX9_makeBetter_66 : decode cX9_makeBetter 66 = .ok (.aload_n 0, 1) := by decide +kernel
theorem dX9_makeBetter_67 : decode cX9_makeBetter 67 = .ok (.iload 5, 2) := by decide +kernel
theorem dX9_makeBetter_69 : decode cX9_makeBetter 69 = .ok (.invokevirtual 132, 3) := by decide +kernel
theorem dX9_makeBetter_72 : decode cX9_makeBetter 72 = .ok (.ior, 1) := by decide +kernel
theorem dX9_makeBetter_73 : decode cX9_makeBetter 73 = .ok (.istore_n 3, 1) := by decide +kernel
theorem dX9_makeBetter_74 : decode cX9_makeBetter 74 = .ok (.iinc 5 1, 3) := by decide +kernel
theorem dX9_makeBetter_77 : decode cX9_makeBetter 77 = .ok (.goto (-43), 3) := by decide +kernel
theorem dX9_makeBetter_80 : decode cX9_makeBetter 80 = .ok (.iinc 4 1, 3) := by decide +kernel
theorem dX9_makeBetter_83 : decode cX9_makeBetter 83 = .ok (.goto (-65), 3) := by decide +kernel
theorem dX9_makeBetter_86 : decode cX9_makeBetter 86 = .ok (.return_, 1) := by decide +kernel
theorem dX9_makeRoom_0 : decode cX9_makeRoom 0 = .ok (.aload_n 0, 1) := by decide +kernel
theorem dX9_makeRoom_1 : decode cX9_makeRoom 1 = .ok (.getfield 14, 3) := by decide +kernel
theorem dX9_makeRoom_4 : decode cX9_makeRoom 4 = .ok (.getfield 43, 3) := by decide +kernel
theorem dX9_makeRoom_7 : decode cX9_makeRoom 7 = .ok (.arraylength, 1) := by decide +kernel
theorem dX9_makeRoom_8 : decode cX9_makeRoom 8 = .ok (.sipush 1296, 3) := by decide +kernel
theorem dX9_makeRoom_11 : decode cX9_makeRoom 11 = .ok (.if_icmp .ge 58, 3) := by decide +kernel
theorem dX9_makeRoom_14 : decode cX9_makeRoom 14 = .ok (.aload_n 0, 1) := by decide +kernel
theorem dX9_makeRoom_15 : decode cX9_makeRoom 15 = .ok (.new 9, 3) := by decide +kernel
theorem dX9_makeRoom_18 : decode cX9_makeRoom 18 = .ok (.dup, 1) := by decide +kernel
theorem dX9_makeRoom_19 : decode cX9_makeRoom 19 = .ok (.sipush 1296, 3) := by decide +kernel
theorem dX9_makeRoom_22 : decode cX9_makeRoom 22 = .ok (.sipush 1200, 3) := by decide +kernel
theorem dX9_makeRoom_25 : decode cX9_makeRoom 25 = .ok (.bipush 16, 2) := by decide +kernel
theorem dX9_makeRoom_27 : decode cX9_makeRoom 27 = .ok (.invokespecial 11, 3) := by decide +kernel
theorem dX9_makeRoom_30 : decode cX9_makeRoom 30 = .ok (.putfield 14, 3) := by decide +kernel
theorem dX9_makeRoom_33 : decode cX9_makeRoom 33 = .ok (.aload_n 0, 1) := by decide +kernel
theorem dX9_makeRoom_34 : decode cX9_makeRoom 34 = .ok (.sipush 1297, 3) := by decide +kernel
theorem dX9_makeRoom_37 : decode cX9_makeRoom 37 = .ok (.newarray .boolean, 2) := by decide +kernel
theorem dX9_makeRoom_39 : decode cX9_makeRoom 39 = .ok (.putfield 24, 3) := by decide +kernel
theorem dX9_makeRoom_42 : decode cX9_makeRoom 42 = .ok (.aload_n 0, 1) := by decide +kernel
theorem dX9_makeRoom_43 : decode cX9_makeRoom 43 = .ok (.sipush 1297, 3) := by decide +kernel
theorem dX9_makeRoom_46 : decode cX9_makeRoom 46 = .ok (.newarray .boolean, 2) := by decide +kernel
theorem dX9_makeRoom_48 : decode cX9_makeRoom 48 = .ok (.putfield 28, 3) := by decide +kernel
theorem dX9_makeRoom_51 : decode cX9_makeRoom 51 = .ok (.aload_n 0, 1) := by decide +kernel
theorem dX9_makeRoom_52 : decode cX9_makeRoom 52 = .ok (.sipush 1297, 3) := by decide +kernel
theorem dX9_makeRoom_55 : decode cX9_makeRoom 55 = .ok (.newarray .int, 2) := by decide +kernel
theorem dX9_makeRoom_57 : decode cX9_makeRoom 57 = .ok (.putfield 31, 3) := by decide +kernel
theorem dX9_makeRoom_60 : decode cX9_makeRoom 60 = .ok (.aload_n 0, 1) := by decide +kernel
theorem dX9_makeRoom_61 : decode cX9_makeRoom 61 = .ok (.sipush 1297, 3) := by decide +kernel
theorem dX9_makeRoom_64 : decode cX9_makeRoom 64 = .ok (.newarray .int, 2) := by decide +kernel
theorem dX9_makeRoom_66 : decode cX9_makeRoom 66 = .ok (.putfield 34, 3) := by decide +kernel
theorem dX9_makeRoom_69 : decode cX9_makeRoom 69 = .ok (.aload_n 0, 1) := by decide +kernel
theorem dX9_makeRoom_70 : decode cX9_makeRoom 70 = .ok (.getfield 14, 3) := by decide +kernel
theorem dX9_makeRoom_73 : decode cX9_makeRoom 73 = .ok (.aload_n 1, 1) := by decide +kernel
theorem dX9_makeRoom_74 : decode cX9_makeRoom 74 = .ok (.getfield 46, 3) := by decide +kernel
theorem dX9_makeRoom_77 : decode cX9_makeRoom 77 = .ok (.putfield 46, 3) := by decide +kernel
theorem dX9_makeRoom_80 : decode cX9_makeRoom 80 = .ok (.return_, 1) := by decide +kernel
theorem dX9_mark_0 : decode cX9_mark 0 = .ok (.iload_n 1, 1) := by decide +kernel
theorem dX9_mark_1 : decode cX9_mark 1 = .ok (.ifCond .lt 19, 3) := by decide +kernel
theorem dX9_mark_4 : decode cX9_mark 4 = .ok (.iload_n 1, 1) := by decide +kernel
theorem dX9_mark_5 : decode cX9_mark 5 = .ok (.aload_n 0, 1) := by decide +kernel
theorem dX9_mark_6 : decode cX9_mark 6 = .ok (.getfield 24, 3) := by decide +kernel
theorem dX9_mark_9 : decode cX9_mark 9 = .ok (.arraylength, 1) := by decide +kernel
theorem dX9_mark_10 : decode cX9_mark 10 = .ok (.if_icmp .ge 10, 3) := by decide +kernel
theorem dX9_mark_13 : decode cX9_mark 13 = .ok (.aload_n 0, 1) := by decide +kernel
theorem dX9_mark_14 : decode cX9_mark 14 = .ok (.getfield 24, 3) := by decide +kernel
theorem dX9_mark_17 : decode cX9_mark 17 = .ok (.iload_n 1, 1) := by decide +kernel
theorem dX9_mark_18 : decode cX9_mark 18 = .ok (.iconst 1, 1) := by decide +kernel
theorem dX9_mark_19 : decode cX9_mark 19 = .ok (.bastore, 1) := by decide +kernel
theorem dX9_mark_20 : decode cX9_mark 20 = .ok (.return_, 1) := by decide +kernel
theorem dX9_placeOf_0 : decode cX9_placeOf 0 = .ok (.iload_n 1, 1) := by decide +kernel
theorem dX9_placeOf_1 : decode cX9_placeOf 1 = .ok (.ifCond .lt 12, 3) := by decide +kernel
theorem dX9_placeOf_4 : decode cX9_placeOf 4 = .ok (.iload_n 1, 1) := by decide +kernel
theorem dX9_placeOf_5 : decode cX9_placeOf 5 = .ok (.aload_n 0, 1) := by decide +kernel
theorem dX9_placeOf_6 : decode cX9_placeOf 6 = .ok (.getfield 34, 3) := by decide +kernel
theorem dX9_placeOf_9 : decode cX9_placeOf 9 = .ok (.arraylength, 1) := by decide +kernel
theorem dX9_placeOf_10 : decode cX9_placeOf 10 = .ok (.if_icmp .lt 7, 3) := by decide +kernel
theorem dX9_placeOf_13 : decode cX9_placeOf 13 = .ok (.iconst 0, 1) := by decide +kernel
theorem dX9_placeOf_14 : decode cX9_placeOf 14 = .ok (.goto 9, 3) := by decide +kernel
theorem dX9_placeOf_17 : decode cX9_placeOf 17 = .ok (.aload_n 0, 1) := by decide +kernel
theorem dX9_placeOf_18 : decode cX9_placeOf 18 = .ok (.getfield 34, 3) := by decide +kernel
theorem dX9_placeOf_21 : decode cX9_placeOf 21 = .ok (.iload_n 1, 1) := by decide +kernel
theorem dX9_placeOf_22 : decode cX9_placeOf 22 = .ok (.iaload, 1) := by decide +kernel
theorem dX9_placeOf_23 : decode cX9_placeOf 23 = .ok (.ireturn, 1) := by decide +kernel
theorem dX9_pushKind_0 : decode cX9_pushKind 0 = .ok (.aload_n 0, 1) := by decide +kernel
theorem dX9_pushKind_1 : decode cX9_pushKind 1 = .ok (.getfield 14, 3) := by decide +kernel
theorem dX9_pushKind_4 : decode cX9_pushKind 4 = .ok (.iload_n 1, 1) := by decide +kernel
theorem dX9_pushKind_5 : decode cX9_pushKind 5 = .ok (.invokevirtual 71, 3) := by decide +kernel
theorem dX9_pushKind_8 : decode cX9_pushKind 8 = .ok (.istore_n 2, 1) := by decide +kernel
theorem dX9_pushKind_9 : decode cX9_pushKind 9 = .ok (.iload_n 2, 1) := by decide +kernel
theorem dX9_pushKind_10 : decode cX9_pushKind 10 = .ok (.bipush 17, 2) := by decide +kernel
theorem dX9_pushKind_12 : decode cX9_pushKind 12 = .ok (.if_icmp .ne 7, 3) := by decide +kernel
theorem dX9_pushKind_15 : decode cX9_pushKind 15 = .ok (.iconst 1, 1) := by decide +kernel
theorem dX9_pushKind_16 : decode cX9_pushKind 16 = .ok (.goto 14, 3) := by decide +kernel
theorem dX9_pushKind_19 : decode cX9_pushKind 19 = .ok (.iload_n 2, 1) := by decide +kernel
theorem dX9_pushKind_20 : decode cX9_pushKind 20 = .ok (.bipush 20, 2) := by decide +kernel
theorem dX9_pushKind_22 : decode cX9_pushKind 22 = .ok (.if_icmp .ne 7, 3) := by decide +kernel
theorem dX9_pushKind_25 : decode cX9_pushKind 25 = .ok (.iconst 2, 1) := by decide +kernel
theorem dX9_pushKind_26 : decode cX9_pushKind 26 = .ok (.goto 4, 3) := by decide +kernel
theorem dX9_pushKind_29 : decode cX9_pushKind 29 = .ok (.iconst 0, 1) := by decide +kernel
theorem dX9_pushKind_30 : decode cX9_pushKind 30 = .ok (.ireturn, 1) := by decide +kernel
theorem dX9_putCounters_0 : decode cX9_putCounters 0 = .ok (.aload_n 0, 1) := by decide +kernel
theorem dX9_putCounters_1 : decode cX9_putCounters 1 = .ok (.aload_n 1, 1) := by decide +kernel
theorem dX9_putCounters_2 : decode cX9_putCounters 2 = .ok (.invokevirtual 50, 3) := by decide +kernel
theorem dX9_putCounters_5 : decode cX9_putCounters 5 = .ok (.aload_n 0, 1) := by decide +kernel
theorem dX9_putCounters_6 : decode cX9_putCounters 6 = .ok (.getfield 14, 3) := by decide +kernel
theorem dX9_putCounters_9 : decode cX9_putCounters 9 = .ok (.iconst 0, 1) := by decide +kernel
theorem dX9_putCounters_10 : decode cX9_putCounters 10 = .ok (.putfield 54, 3) := by decide +kernel
theorem dX9_putCounters_13 : decode cX9_putCounters 13 = .ok (.iload_n 3, 1) := by decide +kernel
theorem dX9_putCounters_14 : decode cX9_putCounters 14 = .ok (.istore 4, 2) := by decide +kernel
theorem dX9_putCounters_16 : decode cX9_putCounters 16 = .ok (.iconst 0, 1) := by decide +kernel
theorem dX9_putCounters_17 : decode cX9_putCounters 17 = .ok (.istore 5, 2) := by decide +kernel
theorem dX9_putCounters_19 : decode cX9_putCounters 19 = .ok (.iload 5, 2) := by decide +kernel
theorem dX9_putCounters_21 : decode cX9_putCounters 21 = .ok (.aload_n 1, 1) := by decide +kernel
theorem dX9_putCounters_22 : decode cX9_putCounters 22 = .ok (.getfield 54, 3) := by decide +kernel
theorem dX9_putCounters_25 : decode cX9_putCounters 25 = .ok (.if_icmp .ge 114, 3) := by decide +kernel
theorem dX9_putCounters_28 : decode cX9_putCounters 28 = .ok (.iload 5, 2) := by decide +kernel
theorem dX9_putCounters_30 : decode cX9_putCounters 30 = .ok (.aload_n 0, 1) := by decide +kernel
theorem dX9_putCounters_31 : decode cX9_putCounters 31 = .ok (.getfield 34, 3) := by decide +kernel
theorem dX9_putCounters_34 : decode cX9_putCounters 34 = .ok (.arraylength, 1) := by decide +kernel
theorem dX9_putCounters_35 : decode cX9_putCounters 35 = .ok (.if_icmp .ge 104, 3) := by decide +kernel
theorem dX9_putCounters_38 : decode cX9_putCounters 38 = .ok (.aload_n 0, 1) := by decide +kernel
theorem dX9_putCounters_39 : decode cX9_putCounters 39 = .ok (.getfield 34, 3) := by decide +kernel
theorem dX9_putCounters_42 : decode cX9_putCounters 42 = .ok (.iload 5, 2) := by decide +kernel
theorem dX9_putCounters_44 : decode cX9_putCounters 44 = .ok (.aload_n 0, 1) := by decide +kernel
theorem dX9_putCounters_45 : decode cX9_putCounters 45 = .ok (.getfield 14, 3) := by decide +kernel
theorem dX9_putCounters_48 : decode cX9_putCounters 48 = .ok (.getfield 54, 3) := by decide +kernel
theorem dX9_putCounters_51 : decode cX9_putCounters 51 = .ok (.iastore, 1) := by decide +kernel
theorem dX9_putCounters_52 : decode cX9_putCounters 52 = .ok (.aload_n 2, 1) := by decide +kernel
theorem dX9_putCounters_53 : decode cX9_putCounters 53 = .ok (.aload_n 2, 1) := by decide +kernel
theorem dX9_putCounters_54 : decode cX9_putCounters 54 = .ok (.iload 5, 2) := by decide +kernel
theorem dX9_putCounters_56 : decode cX9_putCounters 56 = .ok (.invokevirtual 57, 3) := by decide +kernel
theorem dX9_putCounters_59 : decode cX9_putCounters 59 = .ok (.invokevirtual 63, 3) := by decide +kernel
theorem dX9_putCounters_62 : decode cX9_putCounters 62 = .ok (.ifCond .eq 52, 3) := by decide +kernel
theorem dX9_putCounters_65 : decode cX9_putCounters 65 = .ok (.aload_n 0, 1) := by decide +kernel
theorem dX9_putCounters_66 : decode cX9_putCounters 66 = .ok (.getfield 14, 3) := by decide +kernel
theorem dX9_putCounters_69 : decode cX9_putCounters 69 = .ok (.sipush 178, 3) := by decide +kernel
theorem dX9_putCounters_72 : decode cX9_putCounters 72 = .ok (.iload 4, 2) := by decide +kernel
theorem dX9_putCounters_74 : decode cX9_putCounters 74 = .ok (.i2l, 1) := by decide +kernel
theorem dX9_putCounters_75 : decode cX9_putCounters 75 = .ok (.invokevirtual 67, 3) := by decide +kernel
theorem dX9_putCounters_78 : decode cX9_putCounters 78 = .ok (.aload_n 0, 1) := by decide +kernel
theorem dX9_putCounters_79 : decode cX9_putCounters 79 = .ok (.getfield 14, 3) := by decide +kernel
theorem dX9_putCounters_82 : decode cX9_putCounters 82 = .ok (.bipush 20, 2) := by decide +kernel
theorem dX9_putCounters_84 : decode cX9_putCounters 84 = .ok (.lconst 1, 1) := by decide +kernel
theorem dX9_putCounters_85 : decode cX9_putCounters 85 = .ok (.invokevirtual 67, 3) := by decide +kernel
theorem dX9_putCounters_88 : decode cX9_putCounters 88 = .ok (.aload_n 0, 1) := by decide +kernel
theorem dX9_putCounters_89 : decode cX9_putCounters 89 = .ok (.getfield 14, 3) := by decide +kernel
theorem dX9_putCounters_92 : decode cX9_putCounters 92 = .ok (.bipush 97, 2) := by decide +kernel
theorem dX9_putCounters_94 : decode cX9_putCounters 94 = .ok (.lconst 0, 1) := by decide +kernel
theorem dX9_putCounters_95 : decode cX9_putCounters 95 = .ok (.invokevirtual 67, 3) := by decide +kernel
theorem dX9_putCounters_98 : decode cX9_putCounters 98 = .ok (.aload_n 0, 1) := by decide +kernel
theorem dX9_putCounters_99 : decode cX9_putCounters 99 = .ok (.getfield 14, 3) := by decide +kernel
theorem dX9_putCounters_102 : decode cX9_putCounters 102 = .ok (.sipush 179, 3) := by decide +kernel
theorem dX9_putCounters_105 : decode cX9_putCounters 105 = .ok (.iload 4, 2) := by decide +kernel
theorem dX9_putCounters_107 : decode cX9_putCounters 107 = .ok (.i2l, 1) := by decide +kernel
theorem dX9_putCounters_108 : decode cX9_putCounters 108 = .ok (.invokevirtual 67, 3) := by decide +kernel
theorem dX9_putCounters_111 : decode cX9_putCounters 111 = .ok (.iinc 4 1, 3) := by decide +kernel
theorem dX9_putCounters_114 : decode cX9_putCounters 114 = .ok (.aload_n 0, 1) := by decide +kernel
theorem dX9_putCounters_115 : decode cX9_putCounters 115 = .ok (.getfield 14, 3) := by decide +kernel
theorem dX9_putCounters_118 : decode cX9_putCounters 118 = .ok (.aload_n 1, 1) := by decide +kernel
theorem dX9_putCounters_119 : decode cX9_putCounters 119 = .ok (.iload 5, 2) := by decide +kernel
theorem dX9_putCounters_121 : decode cX9_putCounters 121 = .ok (.invokevirtual 71, 3) := by decide +kernel
theorem dX9_putCounters_124 : decode cX9_putCounters 124 = .ok (.aload_n 1, 1) := by decide +kernel
theorem dX9_putCounters_125 : decode cX9_putCounters 125 = .ok (.iload 5, 2) := by decide +kernel
theorem dX9_putCounters_127 : decode cX9_putCounters 127 = .ok (.invokevirtual 74, 3) := by decide +kernel
theorem dX9_putCounters_130 : decode cX9_putCounters 130 = .ok (.invokevirtual 67, 3) := by decide +kernel
theorem dX9_putCounters_133 : decode cX9_putCounters 133 = .ok (.iinc 5 1, 3) := by decide +kernel
theorem dX9_putCounters_136 : decode cX9_putCounters 136 = .ok (.goto (-117), 3) := by decide +kernel
theorem dX9_putCounters_139 : decode cX9_putCounters 139 = .ok (.aload_n 0, 1) := by decide +kernel
theorem dX9_putCounters_140 : decode cX9_putCounters 140 = .ok (.getfield 34, 3) := by decide +kernel
theorem dX9_putCounters_143 : decode cX9_putCounters 143 = .ok (.aload_n 1, 1) := by decide +kernel
theorem dX9_putCounters_144 : decode cX9_putCounters 144 = .ok (.getfield 54, 3) := by decide +kernel
theorem dX9_putCounters_147 : decode cX9_putCounters 147 = .ok (.aload_n 0, 1) := by decide +kernel
theorem dX9_putCounters_148 : decode cX9_putCounters 148 = .ok (.getfield 34, 3) := by decide +kernel
theorem dX9_putCounters_151 : decode cX9_putCounters 151 = .ok (.arraylength, 1) := by decide +kernel
theorem dX9_putCounters_152 : decode cX9_putCounters 152 = .ok (.iconst 1, 1) := by decide +kernel
theorem dX9_putCounters_153 : decode cX9_putCounters 153 = .ok (.isub, 1) := by decide +kernel
theorem dX9_putCounters_154 : decode cX9_putCounters 154 = .ok (.invokestatic 78, 3) := by decide +kernel
theorem dX9_putCounters_157 : decode cX9_putCounters 157 = .ok (.aload_n 0, 1) := by decide +kernel
theorem dX9_putCounters_158 : decode cX9_putCounters 158 = .ok (.getfield 14, 3) := by decide +kernel
theorem dX9_putCounters_161 : decode cX9_putCounters 161 = .ok (.getfield 54, 3) := by decide +kernel
theorem dX9_putCounters_164 : decode cX9_putCounters 164 = .ok (.iastore, 1) := by decide +kernel
theorem dX9_putCounters_165 : decode cX9_putCounters 165 = .ok (.aload_n 0, 1) := by decide +kernel
theorem dX9_putCounters_166 : decode cX9_putCounters 166 = .ok (.getfield 14, 3) := by decide +kernel
theorem dX9_putCounters_169 : decode cX9_putCounters 169 = .ok (.iconst 0, 1) := by decide +kernel
theorem dX9_putCounters_170 : decode cX9_putCounters 170 = .ok (.putfield 84, 3) := by decide +kernel
theorem dX9_putCounters_173 : decode cX9_putCounters 173 = .ok (.iconst 0, 1) := by decide +kernel
theorem dX9_putCounters_174 : decode cX9_putCounters 174 = .ok (.istore 5, 2) := by decide +kernel
theorem dX9_putCounters_176 : decode cX9_putCounters 176 = .ok (.iload 5, 2) := by decide +kernel
theorem dX9_putCounters_178 : decode cX9_putCounters 178 = .ok (.aload_n 1, 1) := by decide +kernel
theorem dX9_putCounters_179 : decode cX9_putCounters 179 = .ok (.getfield 84, 3) := by decide +kernel
theorem dX9_putCounters_182 : decode cX9_putCounters 182 = .ok (.if_icmp .ge 23, 3) := by decide +kernel
theorem dX9_putCounters_185 : decode cX9_putCounters 185 = .ok (.aload_n 0, 1) := by decide +kernel
theorem dX9_putCounters_186 : decode cX9_putCounters 186 = .ok (.getfield 14, 3) := by decide +kernel
theorem dX9_putCounters_189 : decode cX9_putCounters 189 = .ok (.aload_n 1, 1) := by decide +kernel
theorem dX9_putCounters_190 : decode cX9_putCounters 190 = .ok (.getfield 87, 3) := by decide +kernel
theorem dX9_putCounters_193 : decode cX9_putCounters 193 = .ok (.iload 5, 2) := by decide +kernel
theorem dX9_putCounters_195 : decode cX9_putCounters 195 = .ok (.iaload, 1) := by decide +kernel
theorem dX9_putCounters_196 : decode cX9_putCounters 196 = .ok (.invokevirtual 90, 3) := by decide +kernel
theorem dX9_putCounters_199 : decode cX9_putCounters 199 = .ok (.iinc 5 1, 3) := by decide +kernel
theorem dX9_putCounters_202 : decode cX9_putCounters 202 = .ok (.goto (-26), 3) := by decide +kernel
theorem dX9_putCounters_205 : decode cX9_putCounters 205 = .ok (.iconst 0, 1) := by decide +kernel
theorem dX9_putCounters_206 : decode cX9_putCounters 206 = .ok (.istore 5, 2) := by decide +kernel
theorem dX9_putCounters_208 : decode cX9_putCounters 208 = .ok (.iload 5, 2) := by decide +kernel
theorem dX9_putCounters_210 : decode cX9_putCounters 210 = .ok (.aload_n 0, 1) := by decide +kernel
theorem dX9_putCounters_211 : decode cX9_putCounters 211 = .ok (.getfield 14, 3) := by decide +kernel
theorem dX9_putCounters_214 : decode cX9_putCounters 214 = .ok (.getfield 54, 3) := by decide +kernel
theorem dX9_putCounters_217 : decode cX9_putCounters 217 = .ok (.if_icmp .ge 62, 3) := by decide +kernel
theorem dX9_putCounters_220 : decode cX9_putCounters 220 = .ok (.aload_n 0, 1) := by decide +kernel
theorem dX9_putCounters_221 : decode cX9_putCounters 221 = .ok (.getfield 14, 3) := by decide +kernel
theorem dX9_putCounters_224 : decode cX9_putCounters 224 = .ok (.iload 5, 2) := by decide +kernel
theorem dX9_putCounters_226 : decode cX9_putCounters 226 = .ok (.invokevirtual 94, 3) := by decide +kernel
theorem dX9_putCounters_229 : decode cX9_putCounters 229 = .ok (.istore 6, 2) := by decide +kernel
theorem dX9_putCounters_231 : decode cX9_putCounters 231 = .ok (.iconst 0, 1) := by decide +kernel
theorem dX9_putCounters_232 : decode cX9_putCounters 232 = .ok (.istore 7, 2) := by decide +kernel
theorem dX9_putCounters_234 : decode cX9_putCounters 234 = .ok (.iload 7, 2) := by decide +kernel
theorem dX9_putCounters_236 : decode cX9_putCounters 236 = .ok (.iload 6, 2) := by decide +kernel
theorem dX9_putCounters_238 : decode cX9_putCounters 238 = .ok (.if_icmp .ge 35, 3) := by decide +kernel
theorem dX9_putCounters_241 : decode cX9_putCounters 241 = .ok (.aload_n 0, 1) := by decide +kernel
theorem dX9_putCounters_242 : decode cX9_putCounters 242 = .ok (.getfield 14, 3) := by decide +kernel
theorem dX9_putCounters_245 : decode cX9_putCounters 245 = .ok (.iload 5, 2) := by decide +kernel
theorem dX9_putCounters_247 : decode cX9_putCounters 247 = .ok (.iload 7, 2) := by decide +kernel
theorem dX9_putCounters_249 : decode cX9_putCounters 249 = .ok (.aload_n 0, 1) := by decide +kernel
theorem dX9_putCounters_250 : decode cX9_putCounters 250 = .ok (.aload_n 0, 1) := by decide +kernel
theorem dX9_putCounters_251 : decode cX9_putCounters 251 = .ok (.getfield 14, 3) := by decide +kernel
theorem dX9_putCounters_254 : decode cX9_putCounters 254 = .ok (.iload 5, 2) := by decide +kernel
theorem dX9_putCounters_256 : decode cX9_putCounters 256 = .ok (.iload 7, 2) := by decide +kernel
theorem dX9_putCounters_258 : decode cX9_putCounters 258 = .ok (.invokevirtual 97, 3) := by decide +kernel
theorem dX9_putCounters_261 : decode cX9_putCounters 261 = .ok (.invokevirtual 100, 3) := by decide +kernel
theorem dX9_putCounters_264 : decode cX9_putCounters 264 = .ok (.invokevirtual 103, 3) := by decide +kernel
theorem dX9_putCounters_267 : decode cX9_putCounters 267 = .ok (.iinc 7 1, 3) := by decide +kernel
theorem dX9_putCounters_270 : decode cX9_putCounters 270 = .ok (.goto (-36), 3) := by decide +kernel
theorem dX9_putCounters_273 : decode cX9_putCounters 273 = .ok (.iinc 5 1, 3) := by decide +kernel
theorem dX9_putCounters_276 : decode cX9_putCounters 276 = .ok (.goto (-68), 3) := by decide +kernel
theorem dX9_putCounters_279 : decode cX9_putCounters 279 = .ok (.aload_n 0, 1) := by decide +kernel
theorem dX9_putCounters_280 : decode cX9_putCounters 280 = .ok (.getfield 14, 3) := by decide +kernel
theorem dX9_putCounters_283 : decode cX9_putCounters 283 = .ok (.iconst 0, 1) := by decide +kernel
theorem dX9_putCounters_284 : decode cX9_putCounters 284 = .ok (.putfield 106, 3) := by decide +kernel
theorem dX9_putCounters_287 : decode cX9_putCounters 287 = .ok (.iconst 0, 1) := by decide +kernel
theorem dX9_putCounters_288 : decode cX9_putCounters 288 = .ok (.istore 5, 2) := by decide +kernel
theorem dX9_putCounters_290 : decode cX9_putCounters 290 = .ok (.iload 5, 2) := by decide +kernel
theorem dX9_putCounters_292 : decode cX9_putCounters 292 = .ok (.aload_n 1, 1) := by decide +kernel
theorem dX9_putCounters_293 : decode cX9_putCounters 293 = .ok (.getfield 106, 3) := by decide +kernel
theorem dX9_putCounters_296 : decode cX9_putCounters 296 = .ok (.if_icmp .ge 56, 3) := by decide +kernel
theorem dX9_putCounters_299 : decode cX9_putCounters 299 = .ok (.aload_n 0, 1) := by decide +kernel
theorem dX9_putCounters_300 : decode cX9_putCounters 300 = .ok (.getfield 14, 3) := by decide +kernel
theorem dX9_putCounters_303 : decode cX9_putCounters 303 = .ok (.aload_n 0, 1) := by decide +kernel
theorem dX9_putCounters_304 : decode cX9_putCounters 304 = .ok (.aload_n 1, 1) := by decide +kernel
theorem dX9_putCounters_305 : decode cX9_putCounters 305 = .ok (.getfield 109, 3) := by decide +kernel
theorem dX9_putCounters_308 : decode cX9_putCounters 308 = .ok (.iload 5, 2) := by decide +kernel
theorem dX9_putCounters_310 : decode cX9_putCounters 310 = .ok (.iaload, 1) := by decide +kernel
theorem dX9_putCounters_311 : decode cX9_putCounters 311 = .ok (.invokevirtual 100, 3) := by decide +kernel
theorem dX9_putCounters_314 : decode cX9_putCounters 314 = .ok (.aload_n 0, 1) := by decide +kernel
theorem dX9_putCounters_315 : decode cX9_putCounters 315 = .ok (.aload_n 1, 1) := by decide +kernel
theorem dX9_putCounters_316 : decode cX9_putCounters 316 = .ok (.getfield 112, 3) := by decide +kernel
theorem dX9_putCounters_319 : decode cX9_putCounters 319 = .ok (.iload 5, 2) := by decide +kernel
theorem dX9_putCounters_321 : decode cX9_putCounters 321 = .ok (.iaload, 1) := by decide +kernel
theorem dX9_putCounters_322 : decode cX9_putCounters 322 = .ok (.invokevirtual 100, 3) := by decide +kernel
theorem dX9_putCounters_325 : decode cX9_putCounters 325 = .ok (.aload_n 0, 1) := by decide +kernel
theorem dX9_putCounters_326 : decode cX9_putCounters 326 = .ok (.aload_n 1, 1) := by decide +kernel
theorem dX9_putCounters_327 : decode cX9_putCounters 327 = .ok (.getfield 115, 3) := by decide +kernel
theorem dX9_putCounters_330 : decode cX9_putCounters 330 = .ok (.iload 5, 2) := by decide +kernel
theorem dX9_putCounters_332 : decode cX9_putCounters 332 = .ok (.iaload, 1) := by decide +kernel
theorem dX9_putCounters_333 : decode cX9_putCounters 333 = .ok (.invokevirtual 100, 3) := by decide +kernel
theorem dX9_putCounters_336 : decode cX9_putCounters 336 = .ok (.aload_n 1, 1) := by decide +kernel
theorem dX9_putCounters_337 : decode cX9_putCounters 337 = .ok (.getfield 118, 3) := by decide +kernel
theorem dX9_putCounters_340 : decode cX9_putCounters 340 = .ok (.iload 5, 2) := by decide +kernel
theorem dX9_putCounters_342 : decode cX9_putCounters 342 = .ok (.iaload, 1) := by decide +kernel
theorem dX9_putCounters_343 : decode cX9_putCounters 343 = .ok (.invokevirtual 121, 3) := by decide +kernel
theorem dX9_putCounters_346 : decode cX9_putCounters 346 = .ok (.iinc 5 1, 3) := by decide +kernel
theorem dX9_putCounters_349 : decode cX9_putCounters 349 = .ok (.goto (-59), 3) := by decide +kernel
theorem dX9_putCounters_352 : decode cX9_putCounters 352 = .ok (.return_, 1) := by decide +kernel
theorem dX9_putPush_0 : decode cX9_putPush 0 = .ok (.aload_n 0, 1) := by decide +kernel
theorem dX9_putPush_1 : decode cX9_putPush 1 = .ok (.getfield 14, 3) := by decide +kernel
theorem dX9_putPush_4 : decode cX9_putPush 4 = .ok (.iload_n 1, 1) := by decide +kernel
theorem dX9_putPush_5 : decode cX9_putPush 5 = .ok (.iload_n 2, 1) := by decide +kernel
theorem dX9_putPush_6 : decode cX9_putPush 6 = .ok (.iconst 2, 1) := by decide +kernel
theorem dX9_putPush_7 : decode cX9_putPush 7 = .ok (.if_icmp .ne 8, 3) := by decide +kernel
theorem dX9_putPush_10 : decode cX9_putPush 10 = .ok (.bipush 20, 2) := by decide +kernel
theorem dX9_putPush_12 : decode cX9_putPush 12 = .ok (.goto 5, 3) := by decide +kernel
theorem dX9_putPush_15 : decode cX9_putPush 15 = .ok (.bipush 17, 2) := by decide +kernel
theorem dX9_putPush_17 : decode cX9_putPush 17 = .ok (.lload_n 3, 1) := by decide +kernel
theorem dX9_putPush_18 : decode cX9_putPush 18 = .ok (.invokevirtual 200, 3) := by decide +kernel
theorem dX9_putPush_21 : decode cX9_putPush 21 = .ok (.return_, 1) := by decide +kernel
theorem dX9_reachFrom_0 : decode cX9_reachFrom 0 = .ok (.aload_n 0, 1) := by decide +kernel
theorem dX9_reachFrom_1 : decode cX9_reachFrom 1 = .ok (.getfield 14, 3) := by decide +kernel
theorem dX9_reachFrom_4 : decode cX9_reachFrom 4 = .ok (.iload_n 1, 1) := by decide +kernel
theorem dX9_reachFrom_5 : decode cX9_reachFrom 5 = .ok (.invokevirtual 71, 3) := by decide +kernel
theorem dX9_reachFrom_8 : decode cX9_reachFrom 8 = .ok (.invokestatic 186, 3) := by decide +kernel
theorem dX9_reachFrom_11 : decode cX9_reachFrom 11 = .ok (.ifCond .eq 17, 3) := by decide +kernel
theorem dX9_reachFrom_14 : decode cX9_reachFrom 14 = .ok (.aload_n 0, 1) := by decide +kernel
theorem dX9_reachFrom_15 : decode cX9_reachFrom 15 = .ok (.iload_n 1, 1) := by decide +kernel
theorem dX9_reachFrom_16 : decode cX9_reachFrom 16 = .ok (.iconst 1, 1) := by decide +kernel
theorem dX9_reachFrom_17 : decode cX9_reachFrom 17 = .ok (.iadd, 1) := by decide +kernel
theorem dX9_reachFrom_18 : decode cX9_reachFrom 18 = .ok (.invokevirtual 191, 3) := by decide +kernel
theorem dX9_reachFrom_21 : decode cX9_reachFrom 21 = .ok (.ifCond .eq 7, 3) := by decide +kernel
theorem dX9_reachFrom_24 : decode cX9_reachFrom 24 = .ok (.iconst 1, 1) := by decide +kernel
theorem dX9_reachFrom_25 : decode cX9_reachFrom 25 = .ok (.goto 4, 3) := by decide +kernel
theorem dX9_reachFrom_28 : decode cX9_reachFrom 28 = .ok (.iconst 0, 1) := by decide +kernel
theorem dX9_reachFrom_29 : decode cX9_reachFrom 29 = .ok (.istore_n 2, 1) := by decide +kernel
theorem dX9_reachFrom_30 : decode cX9_reachFrom 30 = .ok (.aload_n 0, 1) := by decide +kernel
theorem dX9_reachFrom_31 : decode cX9_reachFrom 31 = .ok (.getfield 14, 3) := by decide +kernel
theorem dX9_reachFrom_34 : decode cX9_reachFrom 34 = .ok (.iload_n 1, 1) := by decide +kernel
theorem dX9_reachFrom_35 : decode cX9_reachFrom 35 = .ok (.invokevirtual 94, 3) := by decide +kernel
theorem dX9_reachFrom_38 : decode cX9_reachFrom 38 = .ok (.istore_n 3, 1) := by decide +kernel
theorem dX9_reachFrom_39 : decode cX9_reachFrom 39 = .ok (.iconst 0, 1) := by decide +kernel
theorem dX9_reachFrom_40 : decode cX9_reachFrom 40 = .ok (.istore 4, 2) := by decide +kernel
theorem dX9_reachFrom_42 : decode cX9_reachFrom 42 = .ok (.iload 4, 2) := by decide +kernel
theorem dX9_reachFrom_44 : decode cX9_reachFrom 44 = .ok (.iload_n 3, 1) := by decide +kernel
theorem dX9_reachFrom_45 : decode cX9_reachFrom 45 = .ok (.if_icmp .ge 26, 3) := by decide +kernel
theorem dX9_reachFrom_48 : decode cX9_reachFrom 48 = .ok (.iload_n 2, 1) := by decide +kernel
theorem dX9_reachFrom_49 : decode cX9_reachFrom 49 = .ok (.aload_n 0, 1) := by decide +kernel
theorem dX9_reachFrom_50 : decode cX9_reachFrom 50 = .ok (.aload_n 0, 1) := by decide +kernel
theorem dX9_reachFrom_51 : decode cX9_reachFrom 51 = .ok (.getfield 14, 3) := by decide +kernel
theorem dX9_reachFrom_54 : decode cX9_reachFrom 54 = .ok (.iload_n 1, 1) := by decide +kernel
theorem dX9_reachFrom_55 : decode cX9_reachFrom 55 = .ok (.iload 4, 2) := by decide +kernel
theorem dX9_reachFrom_57 : decode cX9_reachFrom 57 = .ok (.invokevirtual 97, 3) := by decide +kernel
theorem dX9_reachFrom_60 : decode cX9_reachFrom 60 = .ok (.invokevirtual 191, 3) := by decide +kernel
theorem dX9_reachFrom_63 : decode cX9_reachFrom 63 = .ok (.ior, 1) := by decide +kernel
theorem dX9_reachFrom_64 : decode cX9_reachFrom 64 = .ok (.istore_n 2, 1) := by decide +kernel
theorem dX9_reachFrom_65 : decode cX9_reachFrom 65 = .ok (.iinc 4 1, 3) := by decide +kernel
theorem dX9_reachFrom_68 : decode cX9_reachFrom 68 = .ok (.goto (-26), 3) := by decide +kernel
theorem dX9_reachFrom_71 : decode cX9_reachFrom 71 = .ok (.iconst 0, 1) := by decide +kernel
theorem dX9_reachFrom_72 : decode cX9_reachFrom 72 = .ok (.istore 4, 2) := by decide +kernel
theorem dX9_reachFrom_74 : decode cX9_reachFrom 74 = .ok (.iload 4, 2) := by decide +kernel
theorem dX9_reachFrom_76 : decode cX9_reachFrom 76 = .ok (.aload_n 0, 1) := by decide +kernel
theorem dX9_reachFrom_77 : decode cX9_reachFrom 77 = .ok (.getfield 14, 3) := by decide +kernel
theorem dX9_reachFrom_80 : decode cX9_reachFrom 80 = .ok (.getfield 106, 3) := by decide +kernel
theorem dX9_reachFrom_83 : decode cX9_reachFrom 83 = .ok (.if_icmp .ge 47, 3) := by decide +kernel
theorem dX9_reachFrom_86 : decode cX9_reachFrom 86 = .ok (.iload_n 2, 1) := by decide +kernel
theorem dX9_reachFrom_87 : decode cX9_reachFrom 87 = .ok (.aload_n 0, 1) := by decide +kernel
theorem dX9_reachFrom_88 : decode cX9_reachFrom 88 = .ok (.getfield 14, 3) := by decide +kernel
theorem dX9_reachFrom_91 : decode cX9_reachFrom 91 = .ok (.iload 4, 2) := by decide +kernel
theorem dX9_reachFrom_93 : decode cX9_reachFrom 93 = .ok (.iload_n 1, 1) := by decide +kernel
theorem dX9_reachFrom_94 : decode cX9_reachFrom 94 = .ok (.invokevirtual 194, 3) := by decide +kernel
theorem dX9_reachFrom_97 : decode cX9_reachFrom 97 = .ok (.ifCond .eq 24, 3) := by decide +kernel
theorem dX9_reachFrom_100 : decode cX9_reachFrom 100 = .ok (.aload_n 0, 1) := by decide +kernel
theorem dX9_reachFrom_101 : decode cX9_reachFrom 101 = .ok (.aload_n 0, 1) := by decide +kernel
theorem dX9_reachFrom_102 : decode cX9_reachFrom 102 = .ok (.getfield 14, 3) := by decide +kernel
theorem dX9_reachFrom_105 : decode cX9_reachFrom 105 = .ok (.getfield 115, 3) := by decide +kernel
theorem dX9_reachFrom_108 : decode cX9_reachFrom 108 = .ok (.iload 4, 2) := by decide +kernel
theorem dX9_reachFrom_110 : decode cX9_reachFrom 110 = .ok (.iaload, 1) := by decide +kernel
theorem dX9_reachFrom_111 : decode cX9_reachFrom 111 = .ok (.invokevirtual 191, 3) := by decide +kernel
theorem dX9_reachFrom_114 : decode cX9_reachFrom 114 = .ok (.ifCond .eq 7, 3) := by decide +kernel
theorem dX9_reachFrom_117 : decode cX9_reachFrom 117 = .ok (.iconst 1, 1) := by decide +kernel
theorem dX9_reachFrom_118 : decode cX9_reachFrom 118 = .ok (.goto 4, 3) := by decide +kernel
theorem dX9_reachFrom_121 : decode cX9_reachFrom 121 = .ok (.iconst 0, 1) := by decide +kernel
theorem dX9_reachFrom_122 : decode cX9_reachFrom 122 = .ok (.ior, 1) := by decide +kernel
theorem dX9_reachFrom_123 : decode cX9_reachFrom 123 = .ok (.istore_n 2, 1) := by decide +kernel
theorem dX9_reachFrom_124 : decode cX9_reachFrom 124 = .ok (.iinc 4 1, 3) := by decide +kernel
theorem dX9_reachFrom_127 : decode cX9_reachFrom 127 = .ok (.goto (-53), 3) := by decide +kernel
theorem dX9_reachFrom_130 : decode cX9_reachFrom 130 = .ok (.iload_n 2, 1) := by decide +kernel
theorem dX9_reachFrom_131 : decode cX9_reachFrom 131 = .ok (.ireturn, 1) := by decide +kernel

theorem dX9_isPassedOn_81 : decode cX9_isPassedOn 81 = .ok (.iconst 1, 1) := by decide +kernel
theorem dX9_isPassedOn_82 : decode cX9_isPassedOn 82 = .ok (.iadd, 1) := by decide +kernel
theorem dX9_isPassedOn_83 : decode cX9_isPassedOn 83 = .ok (.invokevirtual 248, 3) := by decide +kernel
theorem dX9_isPassedOn_86 : decode cX9_isPassedOn 86 = .ok (.if_icmp .ne 23, 3) := by decide +kernel
theorem dX9_isPassedOn_89 : decode cX9_isPassedOn 89 = .ok (.aload_n 0, 1) := by decide +kernel
theorem dX9_isPassedOn_90 : decode cX9_isPassedOn 90 = .ok (.iload_n 1, 1) := by decide +kernel
theorem dX9_isPassedOn_91 : decode cX9_isPassedOn 91 = .ok (.iconst 1, 1) := by decide +kernel
theorem dX9_isPassedOn_92 : decode cX9_isPassedOn 92 = .ok (.iadd, 1) := by decide +kernel
theorem dX9_isPassedOn_93 : decode cX9_isPassedOn 93 = .ok (.invokevirtual 251, 3) := by decide +kernel
theorem dX9_isPassedOn_96 : decode cX9_isPassedOn 96 = .ok (.aload_n 0, 1) := by decide +kernel
theorem dX9_isPassedOn_97 : decode cX9_isPassedOn 97 = .ok (.iload_n 1, 1) := by decide +kernel
theorem dX9_isPassedOn_98 : decode cX9_isPassedOn 98 = .ok (.invokevirtual 254, 3) := by decide +kernel
theorem dX9_isPassedOn_101 : decode cX9_isPassedOn 101 = .ok (.iand, 1) := by decide +kernel
theorem dX9_isPassedOn_102 : decode cX9_isPassedOn 102 = .ok (.ifCond .ne 7, 3) := by decide +kernel
theorem dX9_isPassedOn_105 : decode cX9_isPassedOn 105 = .ok (.iconst 1, 1) := by decide +kernel
theorem dX9_isPassedOn_106 : decode cX9_isPassedOn 106 = .ok (.goto 4, 3) := by decide +kernel
theorem dX9_isPassedOn_109 : decode cX9_isPassedOn 109 = .ok (.iconst 0, 1) := by decide +kernel
theorem dX9_isPassedOn_110 : decode cX9_isPassedOn 110 = .ok (.ireturn, 1) := by decide +kernel
theorem dX9_isPopped_0 : decode cX9_isPopped 0 = .ok (.aload_n 0, 1) := by decide +kernel
theorem dX9_isPopped_1 : decode cX9_isPopped 1 = .ok (.getfield 14, 3) := by decide +kernel
theorem dX9_isPopped_4 : decode cX9_isPopped 4 = .ok (.iload_n 1, 1) := by decide +kernel
theorem dX9_isPopped_5 : decode cX9_isPopped 5 = .ok (.invokevirtual 71, 3) := by decide +kernel
theorem dX9_isPopped_8 : decode cX9_isPopped 8 = .ok (.istore_n 2, 1) := by decide +kernel
theorem dX9_isPopped_9 : decode cX9_isPopped 9 = .ok (.aload_n 0, 1) := by decide +kernel
theorem dX9_isPopped_10 : decode cX9_isPopped 10 = .ok (.iload_n 1, 1) := by decide +kernel
theorem dX9_isPopped_11 : decode cX9_isPopped 11 = .ok (.invokevirtual 207, 3) := by decide +kernel
theorem dX9_isPopped_14 : decode cX9_isPopped 14 = .ok (.ifCond .ne 17, 3) := by decide +kernel
theorem dX9_isPopped_17 : decode cX9_isPopped 17 = .ok (.iload_n 2, 1) := by decide +kernel
theorem dX9_isPopped_18 : decode cX9_isPopped 18 = .ok (.iconst 1, 1) := by decide +kernel
theorem dX9_isPopped_19 : decode cX9_isPopped 19 = .ok (.if_icmp .eq 12, 3) := by decide +kernel
theorem dX9_isPopped_22 : decode cX9_isPopped 22 = .ok (.iload_n 2, 1) := by decide +kernel
theorem dX9_isPopped_23 : decode cX9_isPopped 23 = .ok (.invokestatic 242, 3) := by decide +kernel
theorem dX9_isPopped_26 : decode cX9_isPopped 26 = .ok (.ifCond .ne 5, 3) := by decide +kernel
theorem dX9_isPopped_29 : decode cX9_isPopped 29 = .ok (.iconst 0, 1) := by decide +kernel
theorem dX9_isPopped_30 : decode cX9_isPopped 30 = .ok (.ireturn, 1) := by decide +kernel
theorem dX9_isPopped_31 : decode cX9_isPopped 31 = .ok (.aload_n 0, 1) := by decide +kernel
theorem dX9_isPopped_32 : decode cX9_isPopped 32 = .ok (.getfield 14, 3) := by decide +kernel
theorem dX9_isPopped_35 : decode cX9_isPopped 35 = .ok (.iload_n 1, 1) := by decide +kernel
theorem dX9_isPopped_36 : decode cX9_isPopped 36 = .ok (.iconst 1, 1) := by decide +kernel
theorem dX9_isPopped_37 : decode cX9_isPopped 37 = .ok (.iadd, 1) := by decide +kernel
theorem dX9_isPopped_38 : decode cX9_isPopped 38 = .ok (.invokevirtual 71, 3) := by decide +kernel
theorem dX9_isPopped_41 : decode cX9_isPopped 41 = .ok (.iload_n 2, 1) := by decide +kernel
theorem dX9_isPopped_42 : decode cX9_isPopped 42 = .ok (.invokestatic 216, 3) := by decide +kernel
theorem dX9_isPopped_45 : decode cX9_isPopped 45 = .ok (.iconst 2, 1) := by decide +kernel
theorem dX9_isPopped_46 : decode cX9_isPopped 46 = .ok (.if_icmp .ne 8, 3) := by decide +kernel
theorem dX9_isPopped_49 : decode cX9_isPopped 49 = .ok (.bipush 88, 2) := by decide +kernel
theorem dX9_isPopped_51 : decode cX9_isPopped 51 = .ok (.goto 5, 3) := by decide +kernel
theorem dX9_isPopped_54 : decode cX9_isPopped 54 = .ok (.bipush 87, 2) := by decide +kernel
theorem dX9_isPopped_56 : decode cX9_isPopped 56 = .ok (.if_icmp .ne 7, 3) := by decide +kernel
theorem dX9_isPopped_59 : decode cX9_isPopped 59 = .ok (.iconst 1, 1) := by decide +kernel
theorem dX9_isPopped_60 : decode cX9_isPopped 60 = .ok (.goto 4, 3) := by decide +kernel
theorem dX9_isPopped_63 : decode cX9_isPopped 63 = .ok (.iconst 0, 1) := by decide +kernel
theorem dX9_isPopped_64 : decode cX9_isPopped 64 = .ok (.ireturn, 1) := by decide +kernel
theorem dX9_isRedirected_0 : decode cX9_isRedirected 0 = .ok (.aload_n 0, 1) := by decide +kernel
theorem dX9_isRedirected_1 : decode cX9_isRedirected 1 = .ok (.getfield 14, 3) := by decide +kernel
theorem dX9_isRedirected_4 : decode cX9_isRedirected 4 = .ok (.iload_n 1, 1) := by decide +kernel
theorem dX9_isRedirected_5 : decode cX9_isRedirected 5 = .ok (.invokevirtual 94, 3) := by decide +kernel
theorem dX9_isRedirected_8 : decode cX9_isRedirected 8 = .ok (.istore_n 2, 1) := by decide +kernel
theorem dX9_isRedirected_9 : decode cX9_isRedirected 9 = .ok (.iconst 0, 1) := by decide +kernel
theorem dX9_isRedirected_10 : decode cX9_isRedirected 10 = .ok (.istore_n 3, 1) := by decide +kernel
theorem dX9_isRedirected_11 : decode cX9_isRedirected 11 = .ok (.iload_n 3, 1) := by decide +kernel
theorem dX9_isRedirected_12 : decode cX9_isRedirected 12 = .ok (.iload_n 2, 1) := by decide +kernel
theorem dX9_isRedirected_13 : decode cX9_isRedirected 13 = .ok (.if_icmp .ge 110, 3) := by decide +kernel
theorem dX9_isRedirected_16 : decode cX9_isRedirected 16 = .ok (.aload_n 0, 1) := by decide +kernel
theorem dX9_isRedirected_17 : decode cX9_isRedirected 17 = .ok (.getfield 14, 3) := by decide +kernel
theorem dX9_isRedirected_20 : decode cX9_isRedirected 20 = .ok (.iload_n 1, 1) := by decide +kernel
theorem dX9_isRedirected_21 : decode cX9_isRedirected 21 = .ok (.iload_n 3, 1) := by decide +kernel
theorem dX9_isRedirected_22 : decode cX9_isRedirected 22 = .ok (.invokevirtual 97, 3) := by decide +kernel
theorem dX9_isRedirected_25 : decode cX9_isRedirected 25 = .ok (.istore 4, 2) := by decide +kernel
theorem dX9_isRedirected_27 : decode cX9_isRedirected 27 = .ok (.iconst 0, 1) := by decide +kernel
theorem dX9_isRedirected_28 : decode cX9_isRedirected 28 = .ok (.istore 5, 2) := by decide +kernel
theorem dX9_isRedirected_30 : decode cX9_isRedirected 30 = .ok (.aload_n 0, 1) := by decide +kernel
theorem dX9_isRedirected_31 : decode cX9_isRedirected 31 = .ok (.getfield 14, 3) := by decide +kernel
theorem dX9_isRedirected_34 : decode cX9_isRedirected 34 = .ok (.iload 4, 2) := by decide +kernel
theorem dX9_isRedirected_36 : decode cX9_isRedirected 36 = .ok (.invokevirtual 71, 3) := by decide +kernel
theorem dX9_isRedirected_39 : decode cX9_isRedirected 39 = .ok (.sipush 167, 3) := by decide +kernel
theorem dX9_isRedirected_42 : decode cX9_isRedirected 42 = .ok (.if_icmp .ne 33, 3) := by decide +kernel
theorem dX9_isRedirected_45 : decode cX9_isRedirected 45 = .ok (.iload 5, 2) := by decide +kernel
theorem dX9_isRedirected_47 : decode cX9_isRedirected 47 = .ok (.aload_n 0, 1) := by decide +kernel
theorem dX9_isRedirected_48 : decode cX9_isRedirected 48 = .ok (.getfield 14, 3) := by decide +kernel
theorem dX9_isRedirected_51 : decode cX9_isRedirected 51 = .ok (.getfield 54, 3) := by decide +kernel
theorem dX9_isRedirected_54 : decode cX9_isRedirected 54 = .ok (.if_icmp .gt 21, 3) := by decide +kernel
theorem dX9_isRedirected_57 : decode cX9_isRedirected 57 = .ok (.aload_n 0, 1) := by decide +kernel
theorem dX9_isRedirected_58 : decode cX9_isRedirected 58 = .ok (.getfield 14, 3) := by decide +kernel
theorem dX9_isRedirected_61 : decode cX9_isRedirected 61 = .ok (.iload 4, 2) := by decide +kernel
theorem dX9_isRedirected_63 : decode cX9_isRedirected 63 = .ok (.iconst 0, 1) := by decide +kernel
theorem dX9_isRedirected_64 : decode cX9_isRedirected 64 = .ok (.invokevirtual 97, 3) := by decide +kernel
theorem dX9_isRedirected_67 : decode cX9_isRedirected 67 = .ok (.istore 4, 2) := by decide +kernel
theorem dX9_isRedirected_69 : decode cX9_isRedirected 69 = .ok (.iinc 5 1, 3) := by decide +kernel
theorem dX9_isRedirected_72 : decode cX9_isRedirected 72 = .ok (.goto (-42), 3) := by decide +kernel
theorem dX9_isRedirected_75 : decode cX9_isRedirected 75 = .ok (.iload 4, 2) := by decide +kernel
theorem dX9_isRedirected_77 : decode cX9_isRedirected 77 = .ok (.aload_n 0, 1) := by decide +kernel
theorem dX9_isRedirected_78 : decode cX9_isRedirected 78 = .ok (.getfield 14, 3) := by decide +kernel
theorem dX9_isRedirected_81 : decode cX9_isRedirected 81 = .ok (.iload_n 1, 1) := by decide +kernel
theorem dX9_isRedirected_82 : decode cX9_isRedirected 82 = .ok (.iload_n 3, 1) := by decide +kernel
theorem dX9_isRedirected_83 : decode cX9_isRedirected 83 = .ok (.invokevirtual 97, 3) := by decide +kernel
theorem dX9_isRedirected_86 : decode cX9_isRedirected 86 = .ok (.if_icmp .eq 31, 3) := by decide +kernel
theorem dX9_isRedirected_89 : decode cX9_isRedirected 89 = .ok (.aload_n 0, 1) := by decide +kernel
theorem dX9_isRedirected_90 : decode cX9_isRedirected 90 = .ok (.getfield 14, 3) := by decide +kernel
theorem dX9_isRedirected_93 : decode cX9_isRedirected 93 = .ok (.iload 4, 2) := by decide +kernel
theorem dX9_isRedirected_95 : decode cX9_isRedirected 95 = .ok (.invokevirtual 71, 3) := by decide +kernel
theorem dX9_isRedirected_98 : decode cX9_isRedirected 98 = .ok (.sipush 167, 3) := by decide +kernel
theorem dX9_isRedirected_101 : decode cX9_isRedirected 101 = .ok (.if_icmp .eq 16, 3) := by decide +kernel
theorem dX9_isRedirected_104 : decode cX9_isRedirected 104 = .ok (.aload_n 0, 1) := by decide +kernel
theorem dX9_isRedirected_105 : decode cX9_isRedirected 105 = .ok (.getfield 14, 3) := by decide +kernel
theorem dX9_isRedirected_108 : decode cX9_isRedirected 108 = .ok (.iload_n 1, 1) := by decide +kernel
theorem dX9_isRedirected_109 : decode cX9_isRedirected 109 = .ok (.iload_n 3, 1) := by decide +kernel
theorem dX9_isRedirected_110 : decode cX9_isRedirected 110 = .ok (.iload 4, 2) := by decide +kernel
theorem dX9_isRedirected_112 : decode cX9_isRedirected 112 = .ok (.invokevirtual 103, 3) := by decide +kernel
theorem dX9_isRedirected_115 : decode cX9_isRedirected 115 = .ok (.iconst 1, 1) := by decide +kernel
theorem dX9_isRedirected_116 : decode cX9_isRedirected 116 = .ok (.ireturn, 1) := by decide +kernel
theorem dX9_isRedirected_117 : decode cX9_isRedirected 117 = .ok (.iinc 3 1, 3) := by decide +kernel
theorem dX9_isRedirected_120 : decode cX9_isRedirected 120 = .ok (.goto (-109), 3) := by decide +kernel
theorem dX9_isRedirected_123 : decode cX9_isRedirected 123 = .ok (.iconst 0, 1) := by decide +kernel
theorem dX9_isRedirected_124 : decode cX9_isRedirected 124 = .ok (.ireturn, 1) := by decide +kernel
theorem dX9_isUnaryFolded_0 : decode cX9_isUnaryFolded 0 = .ok (.aload_n 0, 1) := by decide +kernel
theorem dX9_isUnaryFolded_1 : decode cX9_isUnaryFolded 1 = .ok (.getfield 14, 3) := by decide +kernel
theorem dX9_isUnaryFolded_4 : decode cX9_isUnaryFolded 4 = .ok (.iload_n 1, 1) := by decide +kernel
theorem dX9_isUnaryFolded_5 : decode cX9_isUnaryFolded 5 = .ok (.iconst 1, 1) := by decide +kernel
theorem dX9_isUnaryFolded_6 : decode cX9_isUnaryFolded 6 = .ok (.iadd, 1) := by decide +kernel
theorem dX9_isUnaryFolded_7 : decode cX9_isUnaryFolded 7 = .ok (.invokevirtual 71, 3) := by decide +kernel
theorem dX9_isUnaryFolded_10 : decode cX9_isUnaryFolded 10 = .ok (.istore_n 2, 1) := by decide +kernel
theorem dX9_isUnaryFolded_11 : decode cX9_isUnaryFolded 11 = .ok (.iload_n 2, 1) := by decide +kernel
theorem dX9_isUnaryFolded_12 : decode cX9_isUnaryFolded 12 = .ok (.invokestatic 226, 3) := by decide +kernel
theorem dX9_isUnaryFolded_15 : decode cX9_isUnaryFolded 15 = .ok (.ifCond .eq 24, 3) := by decide +kernel
theorem dX9_isUnaryFolded_18 : decode cX9_isUnaryFolded 18 = .ok (.aload_n 0, 1) := by decide +kernel
theorem dX9_isUnaryFolded_19 : decode cX9_isUnaryFolded 19 = .ok (.iload_n 1, 1) := by decide +kernel
theorem dX9_isUnaryFolded_20 : decode cX9_isUnaryFolded 20 = .ok (.invokevirtual 207, 3) := by decide +kernel
theorem dX9_isUnaryFolded_23 : decode cX9_isUnaryFolded 23 = .ok (.iload_n 2, 1) := by decide +kernel
theorem dX9_isUnaryFolded_24 : decode cX9_isUnaryFolded 24 = .ok (.invokestatic 210, 3) := by decide +kernel
theorem dX9_isUnaryFolded_27 : decode cX9_isUnaryFolded 27 = .ok (.if_icmp .ne 12, 3) := by decide +kernel
theorem dX9_isUnaryFolded_30 : decode cX9_isUnaryFolded 30 = .ok (.aload_n 0, 1) := by decide +kernel
theorem dX9_isUnaryFolded_31 : decode cX9_isUnaryFolded 31 = .ok (.iload_n 1, 1) := by decide +kernel
theorem dX9_isUnaryFolded_32 : decode cX9_isUnaryFolded 32 = .ok (.iconst 2, 1) := by decide +kernel
theorem dX9_isUnaryFolded_33 : decode cX9_isUnaryFolded 33 = .ok (.invokevirtual 161, 3) := by decide +kernel
theorem dX9_isUnaryFolded_36 : decode cX9_isUnaryFolded 36 = .ok (.ifCond .ne 5, 3) := by decide +kernel
theorem dX9_isUnaryFolded_39 : decode cX9_isUnaryFolded 39 = .ok (.iconst 0, 1) := by decide +kernel
theorem dX9_isUnaryFolded_40 : decode cX9_isUnaryFolded 40 = .ok (.ireturn, 1) := by decide +kernel
theorem dX9_isUnaryFolded_41 : decode cX9_isUnaryFolded 41 = .ok (.aload_n 0, 1) := by decide +kernel
theorem dX9_isUnaryFolded_42 : decode cX9_isUnaryFolded 42 = .ok (.iload_n 1, 1) := by decide +kernel
theorem dX9_isUnaryFolded_43 : decode cX9_isUnaryFolded 43 = .ok (.iload_n 2, 1) := by decide +kernel
theorem dX9_isUnaryFolded_44 : decode cX9_isUnaryFolded 44 = .ok (.invokestatic 216, 3) := by decide +kernel
theorem dX9_isUnaryFolded_47 : decode cX9_isUnaryFolded 47 = .ok (.iload_n 2, 1) := by decide +kernel
theorem dX9_isUnaryFolded_48 : decode cX9_isUnaryFolded 48 = .ok (.aload_n 0, 1) := by decide +kernel
theorem dX9_isUnaryFolded_49 : decode cX9_isUnaryFolded 49 = .ok (.getfield 14, 3) := by decide +kernel
theorem dX9_isUnaryFolded_52 : decode cX9_isUnaryFolded 52 = .ok (.iload_n 1, 1) := by decide +kernel
theorem dX9_isUnaryFolded_53 : decode cX9_isUnaryFolded 53 = .ok (.invokevirtual 74, 3) := by decide +kernel
theorem dX9_isUnaryFolded_56 : decode cX9_isUnaryFolded 56 = .ok (.invokestatic 229, 3) := by decide +kernel
theorem dX9_isUnaryFolded_59 : decode cX9_isUnaryFolded 59 = .ok (.invokevirtual 223, 3) := by decide +kernel
theorem dX9_isUnaryFolded_62 : decode cX9_isUnaryFolded 62 = .ok (.aload_n 0, 1) := by decide +kernel

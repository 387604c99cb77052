theorem dX3_narrow_81 : decode cX3_narrow 81 = .ok (.imul, 1) := by decide +kernel
theorem dX3_narrow_82 : decode cX3_narrow 82 = .ok (.iload 4, 2) := by decide +kernel
theorem dX3_narrow_84 : decode cX3_narrow 84 = .ok (.iadd, 1) := by decide +kernel
theorem dX3_narrow_85 : decode cX3_narrow 85 = .ok (.laload, 1) := by decide +kernel
theorem dX3_narrow_86 : decode cX3_narrow 86 = .ok (.lcmp, 1) := by decide +kernel
theorem dX3_narrow_87 : decode cX3_narrow 87 = .ok (.ifCond .eq 7, 3) := by decide +kernel
theorem dX3_narrow_90 : decode cX3_narrow 90 = .ok (.iconst 1, 1) := by decide +kernel
theorem dX3_narrow_91 : decode cX3_narrow 91 = .ok (.goto 4, 3) := by decide +kernel
theorem dX3_narrow_94 : decode cX3_narrow 94 = .ok (.iconst 0, 1) := by decide +kernel
theorem dX3_narrow_95 : decode cX3_narrow 95 = .ok (.ior, 1) := by decide +kernel
theorem dX3_narrow_96 : decode cX3_narrow 96 = .ok (.istore_n 3, 1) := by decide +kernel
theorem dX3_narrow_97 : decode cX3_narrow 97 = .ok (.aload_n 0, 1) := by decide +kernel
theorem dX3_narrow_98 : decode cX3_narrow 98 = .ok (.getfield 34, 3) := by decide +kernel
theorem dX3_narrow_101 : decode cX3_narrow 101 = .ok (.iload_n 1, 1) := by decide +kernel
theorem dX3_narrow_102 : decode cX3_narrow 102 = .ok (.aload_n 0, 1) := by decide +kernel
theorem dX3_narrow_103 : decode cX3_narrow 103 = .ok (.getfield 124, 3) := by decide +kernel
theorem dX3_narrow_106 : decode cX3_narrow 106 = .ok (.imul, 1) := by decide +kernel
theorem dX3_narrow_107 : decode cX3_narrow 107 = .ok (.iload 4, 2) := by decide +kernel
theorem dX3_narrow_109 : decode cX3_narrow 109 = .ok (.iadd, 1) := by decide +kernel
theorem dX3_narrow_110 : decode cX3_narrow 110 = .ok (.lload 7, 2) := by decide +kernel
theorem dX3_narrow_112 : decode cX3_narrow 112 = .ok (.lastore, 1) := by decide +kernel
theorem dX3_narrow_113 : decode cX3_narrow 113 = .ok (.iinc 4 1, 3) := by decide +kernel
theorem dX3_narrow_116 : decode cX3_narrow 116 = .ok (.goto (-111), 3) := by decide +kernel
theorem dX3_narrow_119 : decode cX3_narrow 119 = .ok (.iload_n 3, 1) := by decide +kernel
theorem dX3_narrow_120 : decode cX3_narrow 120 = .ok (.ireturn, 1) := by decide +kernel
theorem dX3_nearestDominator_0 : decode cX3_nearestDominator 0 = .ok (.aload_n 0, 1) := by decide +kernel
theorem dX3_nearestDominator_1 : decode cX3_nearestDominator 1 = .ok (.iload_n 1, 1) := by decide +kernel
theorem dX3_nearestDominator_2 : decode cX3_nearestDominator 2 = .ok (.invokevirtual 166, 3) := by decide +kernel
theorem dX3_nearestDominator_5 : decode cX3_nearestDominator 5 = .ok (.iconst 1, 1) := by decide +kernel
theorem dX3_nearestDominator_6 : decode cX3_nearestDominator 6 = .ok (.isub, 1) := by decide +kernel
theorem dX3_nearestDominator_7 : decode cX3_nearestDominator 7 = .ok (.istore_n 2, 1) := by decide +kernel
theorem dX3_nearestDominator_8 : decode cX3_nearestDominator 8 = .ok (.iconst 0, 1) := by decide +kernel
theorem dX3_nearestDominator_9 : decode cX3_nearestDominator 9 = .ok (.istore_n 3, 1) := by decide +kernel
theorem dX3_nearestDominator_10 : decode cX3_nearestDominator 10 = .ok (.iload_n 3, 1) := by decide +kernel
theorem dX3_nearestDominator_11 : decode cX3_nearestDominator 11 = .ok (.aload_n 0, 1) := by decide +kernel
theorem dX3_nearestDominator_12 : decode cX3_nearestDominator 12 = .ok (.getfield 78, 3) := by decide +kernel
theorem dX3_nearestDominator_15 : decode cX3_nearestDominator 15 = .ok (.if_icmp .ge 34, 3) := by decide +kernel
theorem dX3_nearestDominator_18 : decode cX3_nearestDominator 18 = .ok (.iload_n 3, 1) := by decide +kernel
theorem dX3_nearestDominator_19 : decode cX3_nearestDominator 19 = .ok (.iload_n 1, 1) := by decide +kernel
theorem dX3_nearestDominator_20 : decode cX3_nearestDominator 20 = .ok (.if_icmp .eq 23, 3) := by decide +kernel
theorem dX3_nearestDominator_23 : decode cX3_nearestDominator 23 = .ok (.aload_n 0, 1) := by decide +kernel
theorem dX3_nearestDominator_24 : decode cX3_nearestDominator 24 = .ok (.iload_n 3, 1) := by decide +kernel
theorem dX3_nearestDominator_25 : decode cX3_nearestDominator 25 = .ok (.iload_n 1, 1) := by decide +kernel
theorem dX3_nearestDominator_26 : decode cX3_nearestDominator 26 = .ok (.invokevirtual 169, 3) := by decide +kernel
theorem dX3_nearestDominator_29 : decode cX3_nearestDominator 29 = .ok (.ifCond .eq 14, 3) := by decide +kernel
theorem dX3_nearestDominator_32 : decode cX3_nearestDominator 32 = .ok (.aload_n 0, 1) := by decide +kernel
theorem dX3_nearestDominator_33 : decode cX3_nearestDominator 33 = .ok (.iload_n 3, 1) := by decide +kernel
theorem dX3_nearestDominator_34 : decode cX3_nearestDominator 34 = .ok (.invokevirtual 166, 3) := by decide +kernel
theorem dX3_nearestDominator_37 : decode cX3_nearestDominator 37 = .ok (.iload_n 2, 1) := by decide +kernel
theorem dX3_nearestDominator_38 : decode cX3_nearestDominator 38 = .ok (.if_icmp .ne 5, 3) := by decide +kernel
theorem dX3_nearestDominator_41 : decode cX3_nearestDominator 41 = .ok (.iload_n 3, 1) := by decide +kernel
theorem dX3_nearestDominator_42 : decode cX3_nearestDominator 42 = .ok (.ireturn, 1) := by decide +kernel
theorem dX3_nearestDominator_43 : decode cX3_nearestDominator 43 = .ok (.iinc 3 1, 3) := by decide +kernel
theorem dX3_nearestDominator_46 : decode cX3_nearestDominator 46 = .ok (.goto (-36), 3) := by decide +kernel
theorem dX3_nearestDominator_49 : decode cX3_nearestDominator 49 = .ok (.iconst (-1), 1) := by decide +kernel
theorem dX3_nearestDominator_50 : decode cX3_nearestDominator 50 = .ok (.ireturn, 1) := by decide +kernel
theorem dX3_reachedCount_0 : decode cX3_reachedCount 0 = .ok (.iconst 0, 1) := by decide +kernel
theorem dX3_reachedCount_1 : decode cX3_reachedCount 1 = .ok (.istore_n 1, 1) := by decide +kernel
theorem dX3_reachedCount_2 : decode cX3_reachedCount 2 = .ok (.iconst 0, 1) := by decide +kernel
theorem dX3_reachedCount_3 : decode cX3_reachedCount 3 = .ok (.istore_n 2, 1) := by decide +kernel
theorem dX3_reachedCount_4 : decode cX3_reachedCount 4 = .ok (.iload_n 2, 1) := by decide +kernel
theorem dX3_reachedCount_5 : decode cX3_reachedCount 5 = .ok (.aload_n 0, 1) := by decide +kernel
theorem dX3_reachedCount_6 : decode cX3_reachedCount 6 = .ok (.getfield 78, 3) := by decide +kernel
theorem dX3_reachedCount_9 : decode cX3_reachedCount 9 = .ok (.if_icmp .ge 26, 3) := by decide +kernel
theorem dX3_reachedCount_12 : decode cX3_reachedCount 12 = .ok (.iload_n 1, 1) := by decide +kernel
theorem dX3_reachedCount_13 : decode cX3_reachedCount 13 = .ok (.aload_n 0, 1) := by decide +kernel
theorem dX3_reachedCount_14 : decode cX3_reachedCount 14 = .ok (.getfield 30, 3) := by decide +kernel
theorem dX3_reachedCount_17 : decode cX3_reachedCount 17 = .ok (.iload_n 2, 1) := by decide +kernel
theorem dX3_reachedCount_18 : decode cX3_reachedCount 18 = .ok (.baload, 1) := by decide +kernel
theorem dX3_reachedCount_19 : decode cX3_reachedCount 19 = .ok (.ifCond .eq 7, 3) := by decide +kernel
theorem dX3_reachedCount_22 : decode cX3_reachedCount 22 = .ok (.iconst 1, 1) := by decide +kernel
theorem dX3_reachedCount_23 : decode cX3_reachedCount 23 = .ok (.goto 4, 3) := by decide +kernel
theorem dX3_reachedCount_26 : decode cX3_reachedCount 26 = .ok (.iconst 0, 1) := by decide +kernel
theorem dX3_reachedCount_27 : decode cX3_reachedCount 27 = .ok (.iadd, 1) := by decide +kernel
theorem dX3_reachedCount_28 : decode cX3_reachedCount 28 = .ok (.istore_n 1, 1) := by decide +kernel
theorem dX3_reachedCount_29 : decode cX3_reachedCount 29 = .ok (.iinc 2 1, 3) := by decide +kernel
theorem dX3_reachedCount_32 : decode cX3_reachedCount 32 = .ok (.goto (-28), 3) := by decide +kernel
theorem dX3_reachedCount_35 : decode cX3_reachedCount 35 = .ok (.iload_n 1, 1) := by decide +kernel
theorem dX3_reachedCount_36 : decode cX3_reachedCount 36 = .ok (.ireturn, 1) := by decide +kernel
theorem dX3_tell_0 : decode cX3_tell 0 = .ok (.iload_n 1, 1) := by decide +kernel
theorem dX3_tell_1 : decode cX3_tell 1 = .ok (.ifCond .lt 11, 3) := by decide +kernel
theorem dX3_tell_4 : decode cX3_tell 4 = .ok (.iload_n 1, 1) := by decide +kernel
theorem dX3_tell_5 : decode cX3_tell 5 = .ok (.aload_n 0, 1) := by decide +kernel
theorem dX3_tell_6 : decode cX3_tell 6 = .ok (.getfield 78, 3) := by decide +kernel
theorem dX3_tell_9 : decode cX3_tell 9 = .ok (.if_icmp .lt 5, 3) := by decide +kernel
theorem dX3_tell_12 : decode cX3_tell 12 = .ok (.iconst (-1), 1) := by decide +kernel
theorem dX3_tell_13 : decode cX3_tell 13 = .ok (.ireturn, 1) := by decide +kernel
theorem dX3_tell_14 : decode cX3_tell 14 = .ok (.iload_n 2, 1) := by decide +kernel
theorem dX3_tell_15 : decode cX3_tell 15 = .ok (.tableswitch 104 0 5 #[37, 44, 59, 66, 81, 88], 37) := by decide +kernel
theorem dX3_tell_52 : decode cX3_tell 52 = .ok (.aload_n 0, 1) := by decide +kernel
theorem dX3_tell_53 : decode cX3_tell 53 = .ok (.getfield 9, 3) := by decide +kernel
theorem dX3_tell_56 : decode cX3_tell 56 = .ok (.iload_n 1, 1) := by decide +kernel
theorem dX3_tell_57 : decode cX3_tell 57 = .ok (.iaload, 1) := by decide +kernel
theorem dX3_tell_58 : decode cX3_tell 58 = .ok (.ireturn, 1) := by decide +kernel
theorem dX3_tell_59 : decode cX3_tell 59 = .ok (.aload_n 0, 1) := by decide +kernel
theorem dX3_tell_60 : decode cX3_tell 60 = .ok (.getfield 30, 3) := by decide +kernel
theorem dX3_tell_63 : decode cX3_tell 63 = .ok (.iload_n 1, 1) := by decide +kernel
theorem dX3_tell_64 : decode cX3_tell 64 = .ok (.baload, 1) := by decide +kernel
theorem dX3_tell_65 : decode cX3_tell 65 = .ok (.ifCond .eq 7, 3) := by decide +kernel
theorem dX3_tell_68 : decode cX3_tell 68 = .ok (.iconst 1, 1) := by decide +kernel
theorem dX3_tell_69 : decode cX3_tell 69 = .ok (.goto 4, 3) := by decide +kernel
theorem dX3_tell_72 : decode cX3_tell 72 = .ok (.iconst 0, 1) := by decide +kernel
theorem dX3_tell_73 : decode cX3_tell 73 = .ok (.ireturn, 1) := by decide +kernel
theorem dX3_tell_74 : decode cX3_tell 74 = .ok (.aload_n 0, 1) := by decide +kernel
theorem dX3_tell_75 : decode cX3_tell 75 = .ok (.getfield 38, 3) := by decide +kernel
theorem dX3_tell_78 : decode cX3_tell 78 = .ok (.iload_n 1, 1) := by decide +kernel
theorem dX3_tell_79 : decode cX3_tell 79 = .ok (.iaload, 1) := by decide +kernel
theorem dX3_tell_80 : decode cX3_tell 80 = .ok (.ireturn, 1) := by decide +kernel
theorem dX3_tell_81 : decode cX3_tell 81 = .ok (.aload_n 0, 1) := by decide +kernel
theorem dX3_tell_82 : decode cX3_tell 82 = .ok (.getfield 41, 3) := by decide +kernel
theorem dX3_tell_85 : decode cX3_tell 85 = .ok (.iload_n 1, 1) := by decide +kernel
theorem dX3_tell_86 : decode cX3_tell 86 = .ok (.iaload, 1) := by decide +kernel
theorem dX3_tell_87 : decode cX3_tell 87 = .ok (.ifCond .le 7, 3) := by decide +kernel
theorem dX3_tell_90 : decode cX3_tell 90 = .ok (.iconst 1, 1) := by decide +kernel
theorem dX3_tell_91 : decode cX3_tell 91 = .ok (.goto 4, 3) := by decide +kernel
theorem dX3_tell_94 : decode cX3_tell 94 = .ok (.iconst 0, 1) := by decide +kernel
theorem dX3_tell_95 : decode cX3_tell 95 = .ok (.ireturn, 1) := by decide +kernel
theorem dX3_tell_96 : decode cX3_tell 96 = .ok (.aload_n 0, 1) := by decide +kernel
theorem dX3_tell_97 : decode cX3_tell 97 = .ok (.getfield 44, 3) := by decide +kernel
theorem dX3_tell_100 : decode cX3_tell 100 = .ok (.iload_n 1, 1) := by decide +kernel
theorem dX3_tell_101 : decode cX3_tell 101 = .ok (.iaload, 1) := by decide +kernel
theorem dX3_tell_102 : decode cX3_tell 102 = .ok (.ireturn, 1) := by decide +kernel
theorem dX3_tell_103 : decode cX3_tell 103 = .ok (.aload_n 0, 1) := by decide +kernel
theorem dX3_tell_104 : decode cX3_tell 104 = .ok (.getfield 18, 3) := by decide +kernel
theorem dX3_tell_107 : decode cX3_tell 107 = .ok (.iload_n 1, 1) := by decide +kernel
theorem dX3_tell_108 : decode cX3_tell 108 = .ok (.iconst 1, 1) := by decide +kernel
theorem dX3_tell_109 : decode cX3_tell 109 = .ok (.iadd, 1) := by decide +kernel
theorem dX3_tell_110 : decode cX3_tell 110 = .ok (.iaload, 1) := by decide +kernel
theorem dX3_tell_111 : decode cX3_tell 111 = .ok (.aload_n 0, 1) := by decide +kernel
theorem dX3_tell_112 : decode cX3_tell 112 = .ok (.getfield 18, 3) := by decide +kernel
theorem dX3_tell_115 : decode cX3_tell 115 = .ok (.iload_n 1, 1) := by decide +kernel
theorem dX3_tell_116 : decode cX3_tell 116 = .ok (.iaload, 1) := by decide +kernel
theorem dX3_tell_117 : decode cX3_tell 117 = .ok (.isub, 1) := by decide +kernel
theorem dX3_tell_118 : decode cX3_tell 118 = .ok (.ireturn, 1) := by decide +kernel
theorem dX3_tell_119 : decode cX3_tell 119 = .ok (.iconst (-1), 1) := by decide +kernel
theorem dX3_tell_120 : decode cX3_tell 120 = .ok (.ireturn, 1) := by decide +kernel
theorem dX4_comeTo_0 : decode cX4_comeTo 0 = .ok (.iload_n 1, 1) := by decide +kernel
theorem dX4_comeTo_1 : decode cX4_comeTo 1 = .ok (.ifCond .lt 46, 3) := by decide +kernel
theorem dX4_comeTo_4 : decode cX4_comeTo 4 = .ok (.iload_n 1, 1) := by decide +kernel
theorem dX4_comeTo_5 : decode cX4_comeTo 5 = .ok (.aload_n 0, 1) := by decide +kernel
theorem dX4_comeTo_6 : decode cX4_comeTo 6 = .ok (.getfield 26, 3) := by decide +kernel
theorem dX4_comeTo_9 : decode cX4_comeTo 9 = .ok (.getfield 37, 3) := by decide +kernel
theorem dX4_comeTo_12 : decode cX4_comeTo 12 = .ok (.if_icmp .ge 35, 3) := by decide +kernel
theorem dX4_comeTo_15 : decode cX4_comeTo 15 = .ok (.iload_n 1, 1) := by decide +kernel
theorem dX4_comeTo_16 : decode cX4_comeTo 16 = .ok (.aload_n 0, 1) := by decide +kernel
theorem dX4_comeTo_17 : decode cX4_comeTo 17 = .ok (.getfield 9, 3) := by decide +kernel
theorem dX4_comeTo_20 : decode cX4_comeTo 20 = .ok (.arraylength, 1) := by decide +kernel
theorem dX4_comeTo_21 : decode cX4_comeTo 21 = .ok (.if_icmp .ge 26, 3) := by decide +kernel
theorem dX4_comeTo_24 : decode cX4_comeTo 24 = .ok (.iload_n 2, 1) := by decide +kernel
theorem dX4_comeTo_25 : decode cX4_comeTo 25 = .ok (.ifCond .lt 22, 3) := by decide +kernel

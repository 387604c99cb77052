theorem dX7_noTwins_46 : decode cX7_noTwins 46 = .ok (.iload_n 1, 1) := by decide +kernel
theorem dX7_noTwins_47 : decode cX7_noTwins 47 = .ok (.invokevirtual 212, 3) := by decide +kernel
theorem dX7_noTwins_50 : decode cX7_noTwins 50 = .ok (.invokevirtual 215, 3) := by decide +kernel
theorem dX7_noTwins_53 : decode cX7_noTwins 53 = .ok (.ifCond .eq 17, 3) := by decide +kernel
theorem dX7_noTwins_56 : decode cX7_noTwins 56 = .ok (.aload_n 0, 1) := by decide +kernel
theorem dX7_noTwins_57 : decode cX7_noTwins 57 = .ok (.bipush 11, 2) := by decide +kernel
theorem dX7_noTwins_59 : decode cX7_noTwins 59 = .ok (.aload_n 0, 1) := by decide +kernel
theorem dX7_noTwins_60 : decode cX7_noTwins 60 = .ok (.iload_n 1, 1) := by decide +kernel
theorem dX7_noTwins_61 : decode cX7_noTwins 61 = .ok (.invokevirtual 165, 3) := by decide +kernel
theorem dX7_noTwins_64 : decode cX7_noTwins 64 = .ok (.iconst 2, 1) := by decide +kernel
theorem dX7_noTwins_65 : decode cX7_noTwins 65 = .ok (.iadd, 1) := by decide +kernel
theorem dX7_noTwins_66 : decode cX7_noTwins 66 = .ok (.invokevirtual 87, 3) := by decide +kernel
theorem dX7_noTwins_69 : decode cX7_noTwins 69 = .ok (.ireturn, 1) := by decide +kernel
theorem dX7_noTwins_70 : decode cX7_noTwins 70 = .ok (.iinc 3 1, 3) := by decide +kernel
theorem dX7_noTwins_73 : decode cX7_noTwins 73 = .ok (.goto (-39), 3) := by decide +kernel
theorem dX7_noTwins_76 : decode cX7_noTwins 76 = .ok (.iinc 1 1, 3) := by decide +kernel
theorem dX7_noTwins_79 : decode cX7_noTwins 79 = .ok (.goto (-77), 3) := by decide +kernel
theorem dX7_noTwins_82 : decode cX7_noTwins 82 = .ok (.iconst 1, 1) := by decide +kernel
theorem dX7_noTwins_83 : decode cX7_noTwins 83 = .ok (.ireturn, 1) := by decide +kernel
theorem dX7_poolFits_0 : decode cX7_poolFits 0 = .ok (.aload_n 0, 1) := by decide +kernel
theorem dX7_poolFits_1 : decode cX7_poolFits 1 = .ok (.iconst 2, 1) := by decide +kernel
theorem dX7_poolFits_2 : decode cX7_poolFits 2 = .ok (.invokevirtual 103, 3) := by decide +kernel
theorem dX7_poolFits_5 : decode cX7_poolFits 5 = .ok (.ifCond .ne 5, 3) := by decide +kernel
theorem dX7_poolFits_8 : decode cX7_poolFits 8 = .ok (.iconst 0, 1) := by decide +kernel
theorem dX7_poolFits_9 : decode cX7_poolFits 9 = .ok (.ireturn, 1) := by decide +kernel
theorem dX7_poolFits_10 : decode cX7_poolFits 10 = .ok (.aload_n 0, 1) := by decide +kernel
theorem dX7_poolFits_11 : decode cX7_poolFits 11 = .ok (.aload_n 0, 1) := by decide +kernel
theorem dX7_poolFits_12 : decode cX7_poolFits 12 = .ok (.aload_n 0, 1) := by decide +kernel
theorem dX7_poolFits_13 : decode cX7_poolFits 13 = .ok (.getfield 44, 3) := by decide +kernel
theorem dX7_poolFits_16 : decode cX7_poolFits 16 = .ok (.invokevirtual 107, 3) := by decide +kernel
theorem dX7_poolFits_19 : decode cX7_poolFits 19 = .ok (.putfield 110, 3) := by decide +kernel
theorem dX7_poolFits_22 : decode cX7_poolFits 22 = .ok (.aload_n 0, 1) := by decide +kernel
theorem dX7_poolFits_23 : decode cX7_poolFits 23 = .ok (.getfield 110, 3) := by decide +kernel
theorem dX7_poolFits_26 : decode cX7_poolFits 26 = .ok (.iconst 1, 1) := by decide +kernel
theorem dX7_poolFits_27 : decode cX7_poolFits 27 = .ok (.if_icmp .lt 13, 3) := by decide +kernel
theorem dX7_poolFits_30 : decode cX7_poolFits 30 = .ok (.aload_n 0, 1) := by decide +kernel
theorem dX7_poolFits_31 : decode cX7_poolFits 31 = .ok (.getfield 110, 3) := by decide +kernel
theorem dX7_poolFits_34 : decode cX7_poolFits 34 = .ok (.sipush 500, 3) := by decide +kernel
theorem dX7_poolFits_37 : decode cX7_poolFits 37 = .ok (.if_icmp .le 13, 3) := by decide +kernel
theorem dX7_poolFits_40 : decode cX7_poolFits 40 = .ok (.aload_n 0, 1) := by decide +kernel
theorem dX7_poolFits_41 : decode cX7_poolFits 41 = .ok (.iconst 5, 1) := by decide +kernel
theorem dX7_poolFits_42 : decode cX7_poolFits 42 = .ok (.aload_n 0, 1) := by decide +kernel
theorem dX7_poolFits_43 : decode cX7_poolFits 43 = .ok (.getfield 44, 3) := by decide +kernel
theorem dX7_poolFits_46 : decode cX7_poolFits 46 = .ok (.invokevirtual 87, 3) := by decide +kernel
theorem dX7_poolFits_49 : decode cX7_poolFits 49 = .ok (.ireturn, 1) := by decide +kernel
theorem dX7_poolFits_50 : decode cX7_poolFits 50 = .ok (.aload_n 0, 1) := by decide +kernel
theorem dX7_poolFits_51 : decode cX7_poolFits 51 = .ok (.dup, 1) := by decide +kernel
theorem dX7_poolFits_52 : decode cX7_poolFits 52 = .ok (.getfield 44, 3) := by decide +kernel
theorem dX7_poolFits_55 : decode cX7_poolFits 55 = .ok (.iconst 2, 1) := by decide +kernel
theorem dX7_poolFits_56 : decode cX7_poolFits 56 = .ok (.iadd, 1) := by decide +kernel
theorem dX7_poolFits_57 : decode cX7_poolFits 57 = .ok (.putfield 44, 3) := by decide +kernel
theorem dX7_poolFits_60 : decode cX7_poolFits 60 = .ok (.aload_n 0, 1) := by decide +kernel
theorem dX7_poolFits_61 : decode cX7_poolFits 61 = .ok (.getfield 19, 3) := by decide +kernel
theorem dX7_poolFits_64 : decode cX7_poolFits 64 = .ok (.iconst 0, 1) := by decide +kernel
theorem dX7_poolFits_65 : decode cX7_poolFits 65 = .ok (.invokestatic 113, 3) := by decide +kernel
theorem dX7_poolFits_68 : decode cX7_poolFits 68 = .ok (.iconst 1, 1) := by decide +kernel
theorem dX7_poolFits_69 : decode cX7_poolFits 69 = .ok (.istore_n 1, 1) := by decide +kernel
theorem dX7_poolFits_70 : decode cX7_poolFits 70 = .ok (.iload_n 1, 1) := by decide +kernel
theorem dX7_poolFits_71 : decode cX7_poolFits 71 = .ok (.aload_n 0, 1) := by decide +kernel
theorem dX7_poolFits_72 : decode cX7_poolFits 72 = .ok (.getfield 110, 3) := by decide +kernel
theorem dX7_poolFits_75 : decode cX7_poolFits 75 = .ok (.if_icmp .ge 78, 3) := by decide +kernel
theorem dX7_poolFits_78 : decode cX7_poolFits 78 = .ok (.iload_n 1, 1) := by decide +kernel
theorem dX7_poolFits_79 : decode cX7_poolFits 79 = .ok (.aload_n 0, 1) := by decide +kernel
theorem dX7_poolFits_80 : decode cX7_poolFits 80 = .ok (.getfield 19, 3) := by decide +kernel
theorem dX7_poolFits_83 : decode cX7_poolFits 83 = .ok (.arraylength, 1) := by decide +kernel
theorem dX7_poolFits_84 : decode cX7_poolFits 84 = .ok (.if_icmp .ge 69, 3) := by decide +kernel
theorem dX7_poolFits_87 : decode cX7_poolFits 87 = .ok (.aload_n 0, 1) := by decide +kernel
theorem dX7_poolFits_88 : decode cX7_poolFits 88 = .ok (.invokevirtual 119, 3) := by decide +kernel
theorem dX7_poolFits_91 : decode cX7_poolFits 91 = .ok (.ifCond .ne 5, 3) := by decide +kernel
theorem dX7_poolFits_94 : decode cX7_poolFits 94 = .ok (.iconst 0, 1) := by decide +kernel
theorem dX7_poolFits_95 : decode cX7_poolFits 95 = .ok (.ireturn, 1) := by decide +kernel
theorem dX7_poolFits_96 : decode cX7_poolFits 96 = .ok (.aload_n 0, 1) := by decide +kernel
theorem dX7_poolFits_97 : decode cX7_poolFits 97 = .ok (.getfield 19, 3) := by decide +kernel
theorem dX7_poolFits_100 : decode cX7_poolFits 100 = .ok (.iload_n 1, 1) := by decide +kernel
theorem dX7_poolFits_101 : decode cX7_poolFits 101 = .ok (.aload_n 0, 1) := by decide +kernel
theorem dX7_poolFits_102 : decode cX7_poolFits 102 = .ok (.getfield 44, 3) := by decide +kernel
theorem dX7_poolFits_105 : decode cX7_poolFits 105 = .ok (.iastore, 1) := by decide +kernel
theorem dX7_poolFits_106 : decode cX7_poolFits 106 = .ok (.iload_n 1, 1) := by decide +kernel
theorem dX7_poolFits_107 : decode cX7_poolFits 107 = .ok (.aload_n 0, 1) := by decide +kernel
theorem dX7_poolFits_108 : decode cX7_poolFits 108 = .ok (.aload_n 0, 1) := by decide +kernel
theorem dX7_poolFits_109 : decode cX7_poolFits 109 = .ok (.getfield 44, 3) := by decide +kernel
theorem dX7_poolFits_112 : decode cX7_poolFits 112 = .ok (.invokevirtual 100, 3) := by decide +kernel
theorem dX7_poolFits_115 : decode cX7_poolFits 115 = .ok (.iconst 5, 1) := by decide +kernel
theorem dX7_poolFits_116 : decode cX7_poolFits 116 = .ok (.if_icmp .ne 7, 3) := by decide +kernel
theorem dX7_poolFits_119 : decode cX7_poolFits 119 = .ok (.iconst 1, 1) := by decide +kernel
theorem dX7_poolFits_120 : decode cX7_poolFits 120 = .ok (.goto 4, 3) := by decide +kernel
theorem dX7_poolFits_123 : decode cX7_poolFits 123 = .ok (.iconst 0, 1) := by decide +kernel
theorem dX7_poolFits_124 : decode cX7_poolFits 124 = .ok (.iadd, 1) := by decide +kernel
theorem dX7_poolFits_125 : decode cX7_poolFits 125 = .ok (.istore_n 1, 1) := by decide +kernel
theorem dX7_poolFits_126 : decode cX7_poolFits 126 = .ok (.aload_n 0, 1) := by decide +kernel
theorem dX7_poolFits_127 : decode cX7_poolFits 127 = .ok (.dup, 1) := by decide +kernel
theorem dX7_poolFits_128 : decode cX7_poolFits 128 = .ok (.getfield 44, 3) := by decide +kernel
theorem dX7_poolFits_131 : decode cX7_poolFits 131 = .ok (.aload_n 0, 1) := by decide +kernel
theorem dX7_poolFits_132 : decode cX7_poolFits 132 = .ok (.aload_n 0, 1) := by decide +kernel
theorem dX7_poolFits_133 : decode cX7_poolFits 133 = .ok (.aload_n 0, 1) := by decide +kernel
theorem dX7_poolFits_134 : decode cX7_poolFits 134 = .ok (.getfield 44, 3) := by decide +kernel
theorem dX7_poolFits_137 : decode cX7_poolFits 137 = .ok (.invokevirtual 100, 3) := by decide +kernel
theorem dX7_poolFits_140 : decode cX7_poolFits 140 = .ok (.invokevirtual 122, 3) := by decide +kernel
theorem dX7_poolFits_143 : decode cX7_poolFits 143 = .ok (.iadd, 1) := by decide +kernel
theorem dX7_poolFits_144 : decode cX7_poolFits 144 = .ok (.putfield 44, 3) := by decide +kernel
theorem dX7_poolFits_147 : decode cX7_poolFits 147 = .ok (.iinc 1 1, 3) := by decide +kernel
theorem dX7_poolFits_150 : decode cX7_poolFits 150 = .ok (.goto (-80), 3) := by decide +kernel
theorem dX7_poolFits_153 : decode cX7_poolFits 153 = .ok (.iconst 1, 1) := by decide +kernel
theorem dX7_poolFits_154 : decode cX7_poolFits 154 = .ok (.ireturn, 1) := by decide +kernel
theorem dX7_s4_0 : decode cX7_s4 0 = .ok (.iload_n 1, 1) := by decide +kernel
theorem dX7_s4_1 : decode cX7_s4 1 = .ok (.ifCond .lt 25, 3) := by decide +kernel
theorem dX7_s4_4 : decode cX7_s4 4 = .ok (.iload_n 1, 1) := by decide +kernel
theorem dX7_s4_5 : decode cX7_s4 5 = .ok (.aload_n 0, 1) := by decide +kernel
theorem dX7_s4_6 : decode cX7_s4 6 = .ok (.getfield 38, 3) := by decide +kernel
theorem dX7_s4_9 : decode cX7_s4 9 = .ok (.iconst 4, 1) := by decide +kernel
theorem dX7_s4_10 : decode cX7_s4 10 = .ok (.isub, 1) := by decide +kernel
theorem dX7_s4_11 : decode cX7_s4 11 = .ok (.if_icmp .gt 15, 3) := by decide +kernel
theorem dX7_s4_14 : decode cX7_s4 14 = .ok (.aload_n 0, 1) := by decide +kernel
theorem dX7_s4_15 : decode cX7_s4 15 = .ok (.getfield 38, 3) := by decide +kernel
theorem dX7_s4_18 : decode cX7_s4 18 = .ok (.aload_n 0, 1) := by decide +kernel
theorem dX7_s4_19 : decode cX7_s4 19 = .ok (.getfield 9, 3) := by decide +kernel
theorem dX7_s4_22 : decode cX7_s4 22 = .ok (.arraylength, 1) := by decide +kernel
theorem dX7_s4_23 : decode cX7_s4 23 = .ok (.if_icmp .le 5, 3) := by decide +kernel
theorem dX7_s4_26 : decode cX7_s4 26 = .ok (.iconst 0, 1) := by decide +kernel
theorem dX7_s4_27 : decode cX7_s4 27 = .ok (.ireturn, 1) := by decide +kernel
theorem dX7_s4_28 : decode cX7_s4 28 = .ok (.aload_n 0, 1) := by decide +kernel
theorem dX7_s4_29 : decode cX7_s4 29 = .ok (.getfield 9, 3) := by decide +kernel
theorem dX7_s4_32 : decode cX7_s4 32 = .ok (.iload_n 1, 1) := by decide +kernel
theorem dX7_s4_33 : decode cX7_s4 33 = .ok (.baload, 1) := by decide +kernel
theorem dX7_s4_34 : decode cX7_s4 34 = .ok (.bipush 24, 2) := by decide +kernel
theorem dX7_s4_36 : decode cX7_s4 36 = .ok (.ishl, 1) := by decide +kernel
theorem dX7_s4_37 : decode cX7_s4 37 = .ok (.aload_n 0, 1) := by decide +kernel
theorem dX7_s4_38 : decode cX7_s4 38 = .ok (.getfield 9, 3) := by decide +kernel
theorem dX7_s4_41 : decode cX7_s4 41 = .ok (.iload_n 1, 1) := by decide +kernel
theorem dX7_s4_42 : decode cX7_s4 42 = .ok (.iconst 1, 1) := by decide +kernel
theorem dX7_s4_43 : decode cX7_s4 43 = .ok (.iadd, 1) := by decide +kernel
theorem dX7_s4_44 : decode cX7_s4 44 = .ok (.baload, 1) := by decide +kernel
theorem dX7_s4_45 : decode cX7_s4 45 = .ok (.sipush 255, 3) := by decide +kernel
theorem dX7_s4_48 : decode cX7_s4 48 = .ok (.iand, 1) := by decide +kernel
theorem dX7_s4_49 : decode cX7_s4 49 = .ok (.bipush 16, 2) := by decide +kernel
theorem dX7_s4_51 : decode cX7_s4 51 = .ok (.ishl, 1) := by decide +kernel
theorem dX7_s4_52 : decode cX7_s4 52 = .ok (.ior, 1) := by decide +kernel
theorem dX7_s4_53 : decode cX7_s4 53 = .ok (.aload_n 0, 1) := by decide +kernel
theorem dX7_s4_54 : decode cX7_s4 54 = .ok (.getfield 9, 3) := by decide +kernel
theorem dX7_s4_57 : decode cX7_s4 57 = .ok (.iload_n 1, 1) := by decide +kernel
theorem dX7_s4_58 : decode cX7_s4 58 = .ok (.iconst 2, 1) := by decide +kernel
theorem dX7_s4_59 : decode cX7_s4 59 = .ok (.iadd, 1) := by decide +kernel
theorem dX7_s4_60 : decode cX7_s4 60 = .ok (.baload, 1) := by decide +kernel
theorem dX7_s4_61 : decode cX7_s4 61 = .ok (.sipush 255, 3) := by decide +kernel
theorem dX7_s4_64 : decode cX7_s4 64 = .ok (.iand, 1) := by decide +kernel
theorem dX7_s4_65 : decode cX7_s4 65 = .ok (.bipush 8, 2) := by decide +kernel
theorem dX7_s4_67 : decode cX7_s4 67 = .ok (.ishl, 1) := by decide +kernel
theorem dX7_s4_68 : decode cX7_s4 68 = .ok (.ior, 1) := by decide +kernel
theorem dX7_s4_69 : decode cX7_s4 69 = .ok (.aload_n 0, 1) := by decide +kernel
theorem dX7_s4_70 : decode cX7_s4 70 = .ok (.getfield 9, 3) := by decide +kernel

theorem dX3_dominates_28 : decode cX3_dominates 28 = .ok (.iconst 1, 1) := by decide +kernel
theorem dX3_dominates_29 : decode cX3_dominates 29 = .ok (.goto 4, 3) := by decide +kernel
theorem dX3_dominates_32 : decode cX3_dominates 32 = .ok (.iconst 0, 1) := by decide +kernel
theorem dX3_dominates_33 : decode cX3_dominates 33 = .ok (.ireturn, 1) := by decide +kernel
theorem dX3_dominatorCount_0 : decode cX3_dominatorCount 0 = .ok (.iconst 0, 1) := by decide +kernel
theorem dX3_dominatorCount_1 : decode cX3_dominatorCount 1 = .ok (.istore_n 2, 1) := by decide +kernel
theorem dX3_dominatorCount_2 : decode cX3_dominatorCount 2 = .ok (.iconst 0, 1) := by decide +kernel
theorem dX3_dominatorCount_3 : decode cX3_dominatorCount 3 = .ok (.istore_n 3, 1) := by decide +kernel
theorem dX3_dominatorCount_4 : decode cX3_dominatorCount 4 = .ok (.iload_n 3, 1) := by decide +kernel
theorem dX3_dominatorCount_5 : decode cX3_dominatorCount 5 = .ok (.aload_n 0, 1) := by decide +kernel
theorem dX3_dominatorCount_6 : decode cX3_dominatorCount 6 = .ok (.getfield 124, 3) := by decide +kernel
theorem dX3_dominatorCount_9 : decode cX3_dominatorCount 9 = .ok (.if_icmp .ge 28, 3) := by decide +kernel
theorem dX3_dominatorCount_12 : decode cX3_dominatorCount 12 = .ok (.iload_n 2, 1) := by decide +kernel
theorem dX3_dominatorCount_13 : decode cX3_dominatorCount 13 = .ok (.aload_n 0, 1) := by decide +kernel
theorem dX3_dominatorCount_14 : decode cX3_dominatorCount 14 = .ok (.getfield 34, 3) := by decide +kernel
theorem dX3_dominatorCount_17 : decode cX3_dominatorCount 17 = .ok (.iload_n 1, 1) := by decide +kernel
theorem dX3_dominatorCount_18 : decode cX3_dominatorCount 18 = .ok (.aload_n 0, 1) := by decide +kernel
theorem dX3_dominatorCount_19 : decode cX3_dominatorCount 19 = .ok (.getfield 124, 3) := by decide +kernel
theorem dX3_dominatorCount_22 : decode cX3_dominatorCount 22 = .ok (.imul, 1) := by decide +kernel
theorem dX3_dominatorCount_23 : decode cX3_dominatorCount 23 = .ok (.iload_n 3, 1) := by decide +kernel
theorem dX3_dominatorCount_24 : decode cX3_dominatorCount 24 = .ok (.iadd, 1) := by decide +kernel
theorem dX3_dominatorCount_25 : decode cX3_dominatorCount 25 = .ok (.laload, 1) := by decide +kernel
theorem dX3_dominatorCount_26 : decode cX3_dominatorCount 26 = .ok (.invokestatic 160, 3) := by decide +kernel
theorem dX3_dominatorCount_29 : decode cX3_dominatorCount 29 = .ok (.iadd, 1) := by decide +kernel
theorem dX3_dominatorCount_30 : decode cX3_dominatorCount 30 = .ok (.istore_n 2, 1) := by decide +kernel
theorem dX3_dominatorCount_31 : decode cX3_dominatorCount 31 = .ok (.iinc 3 1, 3) := by decide +kernel
theorem dX3_dominatorCount_34 : decode cX3_dominatorCount 34 = .ok (.goto (-30), 3) := by decide +kernel
theorem dX3_dominatorCount_37 : decode cX3_dominatorCount 37 = .ok (.iload_n 2, 1) := by decide +kernel
theorem dX3_dominatorCount_38 : decode cX3_dominatorCount 38 = .ok (.ireturn, 1) := by decide +kernel
theorem dX3_draw_0 : decode cX3_draw 0 = .ok (.aload_n 1, 1) := by decide +kernel
theorem dX3_draw_1 : decode cX3_draw 1 = .ok (.ifnull 11, 3) := by decide +kernel
theorem dX3_draw_4 : decode cX3_draw 4 = .ok (.aload_n 1, 1) := by decide +kernel
theorem dX3_draw_5 : decode cX3_draw 5 = .ok (.aload_n 0, 1) := by decide +kernel
theorem dX3_draw_6 : decode cX3_draw 6 = .ok (.getfield 53, 3) := by decide +kernel
theorem dX3_draw_9 : decode cX3_draw 9 = .ok (.if_acmp .ne 4, 3) := by decide +kernel
theorem dX3_draw_12 : decode cX3_draw 12 = .ok (.return_, 1) := by decide +kernel
theorem dX3_draw_13 : decode cX3_draw 13 = .ok (.aload_n 0, 1) := by decide +kernel
theorem dX3_draw_14 : decode cX3_draw 14 = .ok (.aload_n 1, 1) := by decide +kernel
theorem dX3_draw_15 : decode cX3_draw 15 = .ok (.putfield 53, 3) := by decide +kernel
theorem dX3_draw_18 : decode cX3_draw 18 = .ok (.aload_n 0, 1) := by decide +kernel
theorem dX3_draw_19 : decode cX3_draw 19 = .ok (.invokevirtual 57, 3) := by decide +kernel
theorem dX3_draw_22 : decode cX3_draw 22 = .ok (.aload_n 0, 1) := by decide +kernel
theorem dX3_draw_23 : decode cX3_draw 23 = .ok (.invokevirtual 60, 3) := by decide +kernel
theorem dX3_draw_26 : decode cX3_draw 26 = .ok (.aload_n 0, 1) := by decide +kernel
theorem dX3_draw_27 : decode cX3_draw 27 = .ok (.invokevirtual 63, 3) := by decide +kernel
theorem dX3_draw_30 : decode cX3_draw 30 = .ok (.aload_n 0, 1) := by decide +kernel
theorem dX3_draw_31 : decode cX3_draw 31 = .ok (.invokevirtual 66, 3) := by decide +kernel
theorem dX3_draw_34 : decode cX3_draw 34 = .ok (.aload_n 0, 1) := by decide +kernel
theorem dX3_draw_35 : decode cX3_draw 35 = .ok (.invokevirtual 69, 3) := by decide +kernel
theorem dX3_draw_38 : decode cX3_draw 38 = .ok (.aload_n 0, 1) := by decide +kernel
theorem dX3_draw_39 : decode cX3_draw 39 = .ok (.invokevirtual 72, 3) := by decide +kernel
theorem dX3_draw_42 : decode cX3_draw 42 = .ok (.aload_n 0, 1) := by decide +kernel
theorem dX3_draw_43 : decode cX3_draw 43 = .ok (.invokevirtual 75, 3) := by decide +kernel
theorem dX3_draw_46 : decode cX3_draw 46 = .ok (.return_, 1) := by decide +kernel
theorem dX3_findBacks_0 : decode cX3_findBacks 0 = .ok (.aload_n 0, 1) := by decide +kernel
theorem dX3_findBacks_1 : decode cX3_findBacks 1 = .ok (.getfield 18, 3) := by decide +kernel
theorem dX3_findBacks_4 : decode cX3_findBacks 4 = .ok (.aload_n 0, 1) := by decide +kernel
theorem dX3_findBacks_5 : decode cX3_findBacks 5 = .ok (.getfield 78, 3) := by decide +kernel
theorem dX3_findBacks_8 : decode cX3_findBacks 8 = .ok (.iaload, 1) := by decide +kernel
theorem dX3_findBacks_9 : decode cX3_findBacks 9 = .ok (.istore_n 1, 1) := by decide +kernel
theorem dX3_findBacks_10 : decode cX3_findBacks 10 = .ok (.aload_n 0, 1) := by decide +kernel
theorem dX3_findBacks_11 : decode cX3_findBacks 11 = .ok (.getfield 27, 3) := by decide +kernel
theorem dX3_findBacks_14 : decode cX3_findBacks 14 = .ok (.arraylength, 1) := by decide +kernel
theorem dX3_findBacks_15 : decode cX3_findBacks 15 = .ok (.iload_n 1, 1) := by decide +kernel
theorem dX3_findBacks_16 : decode cX3_findBacks 16 = .ok (.if_icmp .ge 14, 3) := by decide +kernel
theorem dX3_findBacks_19 : decode cX3_findBacks 19 = .ok (.aload_n 0, 1) := by decide +kernel
theorem dX3_findBacks_20 : decode cX3_findBacks 20 = .ok (.aload_n 0, 1) := by decide +kernel
theorem dX3_findBacks_21 : decode cX3_findBacks 21 = .ok (.getfield 21, 3) := by decide +kernel
theorem dX3_findBacks_24 : decode cX3_findBacks 24 = .ok (.arraylength, 1) := by decide +kernel
theorem dX3_findBacks_25 : decode cX3_findBacks 25 = .ok (.newarray .int, 2) := by decide +kernel
theorem dX3_findBacks_27 : decode cX3_findBacks 27 = .ok (.putfield 27, 3) := by decide +kernel
theorem dX3_findBacks_30 : decode cX3_findBacks 30 = .ok (.aload_n 0, 1) := by decide +kernel
theorem dX3_findBacks_31 : decode cX3_findBacks 31 = .ok (.getfield 24, 3) := by decide +kernel
theorem dX3_findBacks_34 : decode cX3_findBacks 34 = .ok (.iconst 0, 1) := by decide +kernel
theorem dX3_findBacks_35 : decode cX3_findBacks 35 = .ok (.invokestatic 85, 3) := by decide +kernel
theorem dX3_findBacks_38 : decode cX3_findBacks 38 = .ok (.iconst 0, 1) := by decide +kernel
theorem dX3_findBacks_39 : decode cX3_findBacks 39 = .ok (.istore_n 2, 1) := by decide +kernel
theorem dX3_findBacks_40 : decode cX3_findBacks 40 = .ok (.iload_n 2, 1) := by decide +kernel
theorem dX3_findBacks_41 : decode cX3_findBacks 41 = .ok (.iload_n 1, 1) := by decide +kernel
theorem dX3_findBacks_42 : decode cX3_findBacks 42 = .ok (.if_icmp .ge 26, 3) := by decide +kernel
theorem dX3_findBacks_45 : decode cX3_findBacks 45 = .ok (.aload_n 0, 1) := by decide +kernel
theorem dX3_findBacks_46 : decode cX3_findBacks 46 = .ok (.getfield 24, 3) := by decide +kernel
theorem dX3_findBacks_49 : decode cX3_findBacks 49 = .ok (.aload_n 0, 1) := by decide +kernel
theorem dX3_findBacks_50 : decode cX3_findBacks 50 = .ok (.getfield 21, 3) := by decide +kernel
theorem dX3_findBacks_53 : decode cX3_findBacks 53 = .ok (.iload_n 2, 1) := by decide +kernel
theorem dX3_findBacks_54 : decode cX3_findBacks 54 = .ok (.iaload, 1) := by decide +kernel
theorem dX3_findBacks_55 : decode cX3_findBacks 55 = .ok (.iconst 1, 1) := by decide +kernel
theorem dX3_findBacks_56 : decode cX3_findBacks 56 = .ok (.iadd, 1) := by decide +kernel
theorem dX3_findBacks_57 : decode cX3_findBacks 57 = .ok (.dup2, 1) := by decide +kernel
theorem dX3_findBacks_58 : decode cX3_findBacks 58 = .ok (.iaload, 1) := by decide +kernel
theorem dX3_findBacks_59 : decode cX3_findBacks 59 = .ok (.iconst 1, 1) := by decide +kernel
theorem dX3_findBacks_60 : decode cX3_findBacks 60 = .ok (.iadd, 1) := by decide +kernel
theorem dX3_findBacks_61 : decode cX3_findBacks 61 = .ok (.iastore, 1) := by decide +kernel
theorem dX3_findBacks_62 : decode cX3_findBacks 62 = .ok (.iinc 2 1, 3) := by decide +kernel
theorem dX3_findBacks_65 : decode cX3_findBacks 65 = .ok (.goto (-25), 3) := by decide +kernel
theorem dX3_findBacks_68 : decode cX3_findBacks 68 = .ok (.iconst 0, 1) := by decide +kernel
theorem dX3_findBacks_69 : decode cX3_findBacks 69 = .ok (.istore_n 2, 1) := by decide +kernel
theorem dX3_findBacks_70 : decode cX3_findBacks 70 = .ok (.iload_n 2, 1) := by decide +kernel
theorem dX3_findBacks_71 : decode cX3_findBacks 71 = .ok (.aload_n 0, 1) := by decide +kernel
theorem dX3_findBacks_72 : decode cX3_findBacks 72 = .ok (.getfield 78, 3) := by decide +kernel
theorem dX3_findBacks_75 : decode cX3_findBacks 75 = .ok (.if_icmp .ge 26, 3) := by decide +kernel
theorem dX3_findBacks_78 : decode cX3_findBacks 78 = .ok (.aload_n 0, 1) := by decide +kernel
theorem dX3_findBacks_79 : decode cX3_findBacks 79 = .ok (.getfield 24, 3) := by decide +kernel
theorem dX3_findBacks_82 : decode cX3_findBacks 82 = .ok (.iload_n 2, 1) := by decide +kernel
theorem dX3_findBacks_83 : decode cX3_findBacks 83 = .ok (.iconst 1, 1) := by decide +kernel
theorem dX3_findBacks_84 : decode cX3_findBacks 84 = .ok (.iadd, 1) := by decide +kernel
theorem dX3_findBacks_85 : decode cX3_findBacks 85 = .ok (.dup2, 1) := by decide +kernel
theorem dX3_findBacks_86 : decode cX3_findBacks 86 = .ok (.iaload, 1) := by decide +kernel
theorem dX3_findBacks_87 : decode cX3_findBacks 87 = .ok (.aload_n 0, 1) := by decide +kernel
theorem dX3_findBacks_88 : decode cX3_findBacks 88 = .ok (.getfield 24, 3) := by decide +kernel
theorem dX3_findBacks_91 : decode cX3_findBacks 91 = .ok (.iload_n 2, 1) := by decide +kernel
theorem dX3_findBacks_92 : decode cX3_findBacks 92 = .ok (.iaload, 1) := by decide +kernel
theorem dX3_findBacks_93 : decode cX3_findBacks 93 = .ok (.iadd, 1) := by decide +kernel
theorem dX3_findBacks_94 : decode cX3_findBacks 94 = .ok (.iastore, 1) := by decide +kernel
theorem dX3_findBacks_95 : decode cX3_findBacks 95 = .ok (.iinc 2 1, 3) := by decide +kernel
theorem dX3_findBacks_98 : decode cX3_findBacks 98 = .ok (.goto (-28), 3) := by decide +kernel
theorem dX3_findBacks_101 : decode cX3_findBacks 101 = .ok (.aload_n 0, 1) := by decide +kernel
theorem dX3_findBacks_102 : decode cX3_findBacks 102 = .ok (.getfield 24, 3) := by decide +kernel
theorem dX3_findBacks_105 : decode cX3_findBacks 105 = .ok (.iconst 0, 1) := by decide +kernel
theorem dX3_findBacks_106 : decode cX3_findBacks 106 = .ok (.aload_n 0, 1) := by decide +kernel
theorem dX3_findBacks_107 : decode cX3_findBacks 107 = .ok (.getfield 47, 3) := by decide +kernel
theorem dX3_findBacks_110 : decode cX3_findBacks 110 = .ok (.iconst 0, 1) := by decide +kernel
theorem dX3_findBacks_111 : decode cX3_findBacks 111 = .ok (.aload_n 0, 1) := by decide +kernel
theorem dX3_findBacks_112 : decode cX3_findBacks 112 = .ok (.getfield 78, 3) := by decide +kernel
theorem dX3_findBacks_115 : decode cX3_findBacks 115 = .ok (.invokestatic 142, 3) := by decide +kernel
theorem dX3_findBacks_118 : decode cX3_findBacks 118 = .ok (.iconst 0, 1) := by decide +kernel
theorem dX3_findBacks_119 : decode cX3_findBacks 119 = .ok (.istore_n 2, 1) := by decide +kernel
theorem dX3_findBacks_120 : decode cX3_findBacks 120 = .ok (.iload_n 2, 1) := by decide +kernel
theorem dX3_findBacks_121 : decode cX3_findBacks 121 = .ok (.aload_n 0, 1) := by decide +kernel
theorem dX3_findBacks_122 : decode cX3_findBacks 122 = .ok (.getfield 78, 3) := by decide +kernel
theorem dX3_findBacks_125 : decode cX3_findBacks 125 = .ok (.if_icmp .ge 70, 3) := by decide +kernel
theorem dX3_findBacks_128 : decode cX3_findBacks 128 = .ok (.aload_n 0, 1) := by decide +kernel
theorem dX3_findBacks_129 : decode cX3_findBacks 129 = .ok (.getfield 18, 3) := by decide +kernel
theorem dX3_findBacks_132 : decode cX3_findBacks 132 = .ok (.iload_n 2, 1) := by decide +kernel
theorem dX3_findBacks_133 : decode cX3_findBacks 133 = .ok (.iaload, 1) := by decide +kernel
theorem dX3_findBacks_134 : decode cX3_findBacks 134 = .ok (.istore_n 3, 1) := by decide +kernel
theorem dX3_findBacks_135 : decode cX3_findBacks 135 = .ok (.iload_n 3, 1) := by decide +kernel
theorem dX3_findBacks_136 : decode cX3_findBacks 136 = .ok (.aload_n 0, 1) := by decide +kernel
theorem dX3_findBacks_137 : decode cX3_findBacks 137 = .ok (.getfield 18, 3) := by decide +kernel
theorem dX3_findBacks_140 : decode cX3_findBacks 140 = .ok (.iload_n 2, 1) := by decide +kernel
theorem dX3_findBacks_141 : decode cX3_findBacks 141 = .ok (.iconst 1, 1) := by decide +kernel
theorem dX3_findBacks_142 : decode cX3_findBacks 142 = .ok (.iadd, 1) := by decide +kernel
theorem dX3_findBacks_143 : decode cX3_findBacks 143 = .ok (.iaload, 1) := by decide +kernel
theorem dX3_findBacks_144 : decode cX3_findBacks 144 = .ok (.if_icmp .ge 45, 3) := by decide +kernel
theorem dX3_findBacks_147 : decode cX3_findBacks 147 = .ok (.aload_n 0, 1) := by decide +kernel
theorem dX3_findBacks_148 : decode cX3_findBacks 148 = .ok (.getfield 47, 3) := by decide +kernel
theorem dX3_findBacks_151 : decode cX3_findBacks 151 = .ok (.aload_n 0, 1) := by decide +kernel
theorem dX3_findBacks_152 : decode cX3_findBacks 152 = .ok (.getfield 21, 3) := by decide +kernel
theorem dX3_findBacks_155 : decode cX3_findBacks 155 = .ok (.iload_n 3, 1) := by decide +kernel
theorem dX3_findBacks_156 : decode cX3_findBacks 156 = .ok (.iaload, 1) := by decide +kernel

theorem dX3_findEdges_72 : decode cX3_findEdges 72 = .ok (.iload 4, 2) := by decide +kernel
theorem dX3_findEdges_74 : decode cX3_findEdges 74 = .ok (.if_icmp .ge 26, 3) := by decide +kernel
theorem dX3_findEdges_77 : decode cX3_findEdges 77 = .ok (.aload_n 0, 1) := by decide +kernel
theorem dX3_findEdges_78 : decode cX3_findEdges 78 = .ok (.iload_n 2, 1) := by decide +kernel
theorem dX3_findEdges_79 : decode cX3_findEdges 79 = .ok (.aload_n 0, 1) := by decide +kernel
theorem dX3_findEdges_80 : decode cX3_findEdges 80 = .ok (.getfield 53, 3) := by decide +kernel
theorem dX3_findEdges_83 : decode cX3_findEdges 83 = .ok (.iload_n 3, 1) := by decide +kernel
theorem dX3_findEdges_84 : decode cX3_findEdges 84 = .ok (.iload 5, 2) := by decide +kernel
theorem dX3_findEdges_86 : decode cX3_findEdges 86 = .ok (.invokevirtual 99, 3) := by decide +kernel
theorem dX3_findEdges_89 : decode cX3_findEdges 89 = .ok (.iload_n 1, 1) := by decide +kernel
theorem dX3_findEdges_90 : decode cX3_findEdges 90 = .ok (.invokevirtual 130, 3) := by decide +kernel
theorem dX3_findEdges_93 : decode cX3_findEdges 93 = .ok (.istore_n 1, 1) := by decide +kernel
theorem dX3_findEdges_94 : decode cX3_findEdges 94 = .ok (.iinc 5 1, 3) := by decide +kernel
theorem dX3_findEdges_97 : decode cX3_findEdges 97 = .ok (.goto (-27), 3) := by decide +kernel
theorem dX3_findEdges_100 : decode cX3_findEdges 100 = .ok (.iconst 0, 1) := by decide +kernel
theorem dX3_findEdges_101 : decode cX3_findEdges 101 = .ok (.istore 5, 2) := by decide +kernel
theorem dX3_findEdges_103 : decode cX3_findEdges 103 = .ok (.iload 5, 2) := by decide +kernel
theorem dX3_findEdges_105 : decode cX3_findEdges 105 = .ok (.aload_n 0, 1) := by decide +kernel
theorem dX3_findEdges_106 : decode cX3_findEdges 106 = .ok (.getfield 53, 3) := by decide +kernel
theorem dX3_findEdges_109 : decode cX3_findEdges 109 = .ok (.getfield 112, 3) := by decide +kernel
theorem dX3_findEdges_112 : decode cX3_findEdges 112 = .ok (.if_icmp .ge 39, 3) := by decide +kernel
theorem dX3_findEdges_115 : decode cX3_findEdges 115 = .ok (.aload_n 0, 1) := by decide +kernel
theorem dX3_findEdges_116 : decode cX3_findEdges 116 = .ok (.getfield 53, 3) := by decide +kernel
theorem dX3_findEdges_119 : decode cX3_findEdges 119 = .ok (.iload 5, 2) := by decide +kernel
theorem dX3_findEdges_121 : decode cX3_findEdges 121 = .ok (.iload_n 3, 1) := by decide +kernel
theorem dX3_findEdges_122 : decode cX3_findEdges 122 = .ok (.invokevirtual 134, 3) := by decide +kernel
theorem dX3_findEdges_125 : decode cX3_findEdges 125 = .ok (.ifCond .eq 20, 3) := by decide +kernel
theorem dX3_findEdges_128 : decode cX3_findEdges 128 = .ok (.aload_n 0, 1) := by decide +kernel
theorem dX3_findEdges_129 : decode cX3_findEdges 129 = .ok (.iload_n 2, 1) := by decide +kernel
theorem dX3_findEdges_130 : decode cX3_findEdges 130 = .ok (.aload_n 0, 1) := by decide +kernel
theorem dX3_findEdges_131 : decode cX3_findEdges 131 = .ok (.getfield 53, 3) := by decide +kernel
theorem dX3_findEdges_134 : decode cX3_findEdges 134 = .ok (.getfield 121, 3) := by decide +kernel
theorem dX3_findEdges_137 : decode cX3_findEdges 137 = .ok (.iload 5, 2) := by decide +kernel
theorem dX3_findEdges_139 : decode cX3_findEdges 139 = .ok (.iaload, 1) := by decide +kernel
theorem dX3_findEdges_140 : decode cX3_findEdges 140 = .ok (.iload_n 1, 1) := by decide +kernel
theorem dX3_findEdges_141 : decode cX3_findEdges 141 = .ok (.invokevirtual 130, 3) := by decide +kernel
theorem dX3_findEdges_144 : decode cX3_findEdges 144 = .ok (.istore_n 1, 1) := by decide +kernel
theorem dX3_findEdges_145 : decode cX3_findEdges 145 = .ok (.iinc 5 1, 3) := by decide +kernel
theorem dX3_findEdges_148 : decode cX3_findEdges 148 = .ok (.goto (-45), 3) := by decide +kernel
theorem dX3_findEdges_151 : decode cX3_findEdges 151 = .ok (.iinc 2 1, 3) := by decide +kernel
theorem dX3_findEdges_154 : decode cX3_findEdges 154 = .ok (.goto (-142), 3) := by decide +kernel
theorem dX3_findEdges_157 : decode cX3_findEdges 157 = .ok (.aload_n 0, 1) := by decide +kernel
theorem dX3_findEdges_158 : decode cX3_findEdges 158 = .ok (.getfield 18, 3) := by decide +kernel
theorem dX3_findEdges_161 : decode cX3_findEdges 161 = .ok (.aload_n 0, 1) := by decide +kernel
theorem dX3_findEdges_162 : decode cX3_findEdges 162 = .ok (.getfield 78, 3) := by decide +kernel
theorem dX3_findEdges_165 : decode cX3_findEdges 165 = .ok (.iload_n 1, 1) := by decide +kernel
theorem dX3_findEdges_166 : decode cX3_findEdges 166 = .ok (.iastore, 1) := by decide +kernel
theorem dX3_findEdges_167 : decode cX3_findEdges 167 = .ok (.return_, 1) := by decide +kernel
theorem dX3_findLoops_0 : decode cX3_findLoops 0 = .ok (.aload_n 0, 1) := by decide +kernel
theorem dX3_findLoops_1 : decode cX3_findLoops 1 = .ok (.getfield 44, 3) := by decide +kernel
theorem dX3_findLoops_4 : decode cX3_findLoops 4 = .ok (.iconst 0, 1) := by decide +kernel
theorem dX3_findLoops_5 : decode cX3_findLoops 5 = .ok (.invokestatic 85, 3) := by decide +kernel
theorem dX3_findLoops_8 : decode cX3_findLoops 8 = .ok (.aload_n 0, 1) := by decide +kernel
theorem dX3_findLoops_9 : decode cX3_findLoops 9 = .ok (.getfield 47, 3) := by decide +kernel
theorem dX3_findLoops_12 : decode cX3_findLoops 12 = .ok (.iconst (-1), 1) := by decide +kernel
theorem dX3_findLoops_13 : decode cX3_findLoops 13 = .ok (.invokestatic 85, 3) := by decide +kernel
theorem dX3_findLoops_16 : decode cX3_findLoops 16 = .ok (.iconst 0, 1) := by decide +kernel
theorem dX3_findLoops_17 : decode cX3_findLoops 17 = .ok (.istore_n 1, 1) := by decide +kernel
theorem dX3_findLoops_18 : decode cX3_findLoops 18 = .ok (.iload_n 1, 1) := by decide +kernel
theorem dX3_findLoops_19 : decode cX3_findLoops 19 = .ok (.aload_n 0, 1) := by decide +kernel
theorem dX3_findLoops_20 : decode cX3_findLoops 20 = .ok (.getfield 78, 3) := by decide +kernel
theorem dX3_findLoops_23 : decode cX3_findLoops 23 = .ok (.if_icmp .ge 102, 3) := by decide +kernel
theorem dX3_findLoops_26 : decode cX3_findLoops 26 = .ok (.aload_n 0, 1) := by decide +kernel
theorem dX3_findLoops_27 : decode cX3_findLoops 27 = .ok (.getfield 41, 3) := by decide +kernel
theorem dX3_findLoops_30 : decode cX3_findLoops 30 = .ok (.iload_n 1, 1) := by decide +kernel
theorem dX3_findLoops_31 : decode cX3_findLoops 31 = .ok (.iconst 0, 1) := by decide +kernel
theorem dX3_findLoops_32 : decode cX3_findLoops 32 = .ok (.iastore, 1) := by decide +kernel
theorem dX3_findLoops_33 : decode cX3_findLoops 33 = .ok (.aload_n 0, 1) := by decide +kernel
theorem dX3_findLoops_34 : decode cX3_findLoops 34 = .ok (.getfield 24, 3) := by decide +kernel
theorem dX3_findLoops_37 : decode cX3_findLoops 37 = .ok (.iload_n 1, 1) := by decide +kernel
theorem dX3_findLoops_38 : decode cX3_findLoops 38 = .ok (.iaload, 1) := by decide +kernel
theorem dX3_findLoops_39 : decode cX3_findLoops 39 = .ok (.istore_n 2, 1) := by decide +kernel
theorem dX3_findLoops_40 : decode cX3_findLoops 40 = .ok (.aload_n 0, 1) := by decide +kernel
theorem dX3_findLoops_41 : decode cX3_findLoops 41 = .ok (.getfield 30, 3) := by decide +kernel
theorem dX3_findLoops_44 : decode cX3_findLoops 44 = .ok (.iload_n 1, 1) := by decide +kernel
theorem dX3_findLoops_45 : decode cX3_findLoops 45 = .ok (.baload, 1) := by decide +kernel
theorem dX3_findLoops_46 : decode cX3_findLoops 46 = .ok (.ifCond .eq 59, 3) := by decide +kernel
theorem dX3_findLoops_49 : decode cX3_findLoops 49 = .ok (.iload_n 2, 1) := by decide +kernel
theorem dX3_findLoops_50 : decode cX3_findLoops 50 = .ok (.aload_n 0, 1) := by decide +kernel
theorem dX3_findLoops_51 : decode cX3_findLoops 51 = .ok (.getfield 24, 3) := by decide +kernel
theorem dX3_findLoops_54 : decode cX3_findLoops 54 = .ok (.iload_n 1, 1) := by decide +kernel
theorem dX3_findLoops_55 : decode cX3_findLoops 55 = .ok (.iconst 1, 1) := by decide +kernel
theorem dX3_findLoops_56 : decode cX3_findLoops 56 = .ok (.iadd, 1) := by decide +kernel
theorem dX3_findLoops_57 : decode cX3_findLoops 57 = .ok (.iaload, 1) := by decide +kernel
theorem dX3_findLoops_58 : decode cX3_findLoops 58 = .ok (.if_icmp .ge 47, 3) := by decide +kernel
theorem dX3_findLoops_61 : decode cX3_findLoops 61 = .ok (.aload_n 0, 1) := by decide +kernel
theorem dX3_findLoops_62 : decode cX3_findLoops 62 = .ok (.getfield 30, 3) := by decide +kernel
theorem dX3_findLoops_65 : decode cX3_findLoops 65 = .ok (.aload_n 0, 1) := by decide +kernel
theorem dX3_findLoops_66 : decode cX3_findLoops 66 = .ok (.getfield 27, 3) := by decide +kernel
theorem dX3_findLoops_69 : decode cX3_findLoops 69 = .ok (.iload_n 2, 1) := by decide +kernel
theorem dX3_findLoops_70 : decode cX3_findLoops 70 = .ok (.iaload, 1) := by decide +kernel
theorem dX3_findLoops_71 : decode cX3_findLoops 71 = .ok (.baload, 1) := by decide +kernel
theorem dX3_findLoops_72 : decode cX3_findLoops 72 = .ok (.ifCond .eq 27, 3) := by decide +kernel
theorem dX3_findLoops_75 : decode cX3_findLoops 75 = .ok (.aload_n 0, 1) := by decide +kernel
theorem dX3_findLoops_76 : decode cX3_findLoops 76 = .ok (.iload_n 1, 1) := by decide +kernel
theorem dX3_findLoops_77 : decode cX3_findLoops 77 = .ok (.aload_n 0, 1) := by decide +kernel
theorem dX3_findLoops_78 : decode cX3_findLoops 78 = .ok (.getfield 27, 3) := by decide +kernel
theorem dX3_findLoops_81 : decode cX3_findLoops 81 = .ok (.iload_n 2, 1) := by decide +kernel
theorem dX3_findLoops_82 : decode cX3_findLoops 82 = .ok (.iaload, 1) := by decide +kernel
theorem dX3_findLoops_83 : decode cX3_findLoops 83 = .ok (.invokevirtual 169, 3) := by decide +kernel
theorem dX3_findLoops_86 : decode cX3_findLoops 86 = .ok (.ifCond .eq 13, 3) := by decide +kernel
theorem dX3_findLoops_89 : decode cX3_findLoops 89 = .ok (.aload_n 0, 1) := by decide +kernel
theorem dX3_findLoops_90 : decode cX3_findLoops 90 = .ok (.getfield 41, 3) := by decide +kernel
theorem dX3_findLoops_93 : decode cX3_findLoops 93 = .ok (.iload_n 1, 1) := by decide +kernel
theorem dX3_findLoops_94 : decode cX3_findLoops 94 = .ok (.dup2, 1) := by decide +kernel
theorem dX3_findLoops_95 : decode cX3_findLoops 95 = .ok (.iaload, 1) := by decide +kernel
theorem dX3_findLoops_96 : decode cX3_findLoops 96 = .ok (.iconst 1, 1) := by decide +kernel
theorem dX3_findLoops_97 : decode cX3_findLoops 97 = .ok (.iadd, 1) := by decide +kernel
theorem dX3_findLoops_98 : decode cX3_findLoops 98 = .ok (.iastore, 1) := by decide +kernel
theorem dX3_findLoops_99 : decode cX3_findLoops 99 = .ok (.iinc 2 1, 3) := by decide +kernel
theorem dX3_findLoops_102 : decode cX3_findLoops 102 = .ok (.goto (-62), 3) := by decide +kernel
theorem dX3_findLoops_105 : decode cX3_findLoops 105 = .ok (.aload_n 0, 1) := by decide +kernel
theorem dX3_findLoops_106 : decode cX3_findLoops 106 = .ok (.getfield 41, 3) := by decide +kernel
theorem dX3_findLoops_109 : decode cX3_findLoops 109 = .ok (.iload_n 1, 1) := by decide +kernel
theorem dX3_findLoops_110 : decode cX3_findLoops 110 = .ok (.iaload, 1) := by decide +kernel
theorem dX3_findLoops_111 : decode cX3_findLoops 111 = .ok (.ifCond .le 8, 3) := by decide +kernel
theorem dX3_findLoops_114 : decode cX3_findLoops 114 = .ok (.aload_n 0, 1) := by decide +kernel
theorem dX3_findLoops_115 : decode cX3_findLoops 115 = .ok (.iload_n 1, 1) := by decide +kernel
theorem dX3_findLoops_116 : decode cX3_findLoops 116 = .ok (.invokevirtual 172, 3) := by decide +kernel
theorem dX3_findLoops_119 : decode cX3_findLoops 119 = .ok (.iinc 1 1, 3) := by decide +kernel
theorem dX3_findLoops_122 : decode cX3_findLoops 122 = .ok (.goto (-104), 3) := by decide +kernel
theorem dX3_findLoops_125 : decode cX3_findLoops 125 = .ok (.return_, 1) := by decide +kernel
theorem dX3_findReached_0 : decode cX3_findReached 0 = .ok (.iconst 0, 1) := by decide +kernel
theorem dX3_findReached_1 : decode cX3_findReached 1 = .ok (.istore_n 1, 1) := by decide +kernel
theorem dX3_findReached_2 : decode cX3_findReached 2 = .ok (.iload_n 1, 1) := by decide +kernel
theorem dX3_findReached_3 : decode cX3_findReached 3 = .ok (.aload_n 0, 1) := by decide +kernel
theorem dX3_findReached_4 : decode cX3_findReached 4 = .ok (.getfield 78, 3) := by decide +kernel
theorem dX3_findReached_7 : decode cX3_findReached 7 = .ok (.if_icmp .ge 24, 3) := by decide +kernel
theorem dX3_findReached_10 : decode cX3_findReached 10 = .ok (.aload_n 0, 1) := by decide +kernel
theorem dX3_findReached_11 : decode cX3_findReached 11 = .ok (.getfield 30, 3) := by decide +kernel
theorem dX3_findReached_14 : decode cX3_findReached 14 = .ok (.iload_n 1, 1) := by decide +kernel
theorem dX3_findReached_15 : decode cX3_findReached 15 = .ok (.iload_n 1, 1) := by decide +kernel
theorem dX3_findReached_16 : decode cX3_findReached 16 = .ok (.ifCond .ne 7, 3) := by decide +kernel
theorem dX3_findReached_19 : decode cX3_findReached 19 = .ok (.iconst 1, 1) := by decide +kernel
theorem dX3_findReached_20 : decode cX3_findReached 20 = .ok (.goto 4, 3) := by decide +kernel
theorem dX3_findReached_23 : decode cX3_findReached 23 = .ok (.iconst 0, 1) := by decide +kernel
theorem dX3_findReached_24 : decode cX3_findReached 24 = .ok (.bastore, 1) := by decide +kernel
theorem dX3_findReached_25 : decode cX3_findReached 25 = .ok (.iinc 1 1, 3) := by decide +kernel
theorem dX3_findReached_28 : decode cX3_findReached 28 = .ok (.goto (-26), 3) := by decide +kernel
theorem dX3_findReached_31 : decode cX3_findReached 31 = .ok (.aload_n 0, 1) := by decide +kernel
theorem dX3_findReached_32 : decode cX3_findReached 32 = .ok (.getfield 50, 3) := by decide +kernel
theorem dX3_findReached_35 : decode cX3_findReached 35 = .ok (.iconst 0, 1) := by decide +kernel
theorem dX3_findReached_36 : decode cX3_findReached 36 = .ok (.iconst 0, 1) := by decide +kernel
theorem dX3_findReached_37 : decode cX3_findReached 37 = .ok (.iastore, 1) := by decide +kernel
theorem dX3_findReached_38 : decode cX3_findReached 38 = .ok (.iconst 1, 1) := by decide +kernel
theorem dX3_findReached_39 : decode cX3_findReached 39 = .ok (.istore_n 1, 1) := by decide +kernel
theorem dX3_findReached_40 : decode cX3_findReached 40 = .ok (.iconst 0, 1) := by decide +kernel
theorem dX3_findReached_41 : decode cX3_findReached 41 = .ok (.istore_n 2, 1) := by decide +kernel
theorem dX3_findReached_42 : decode cX3_findReached 42 = .ok (.iload_n 1, 1) := by decide +kernel
theorem dX3_findReached_43 : decode cX3_findReached 43 = .ok (.ifCond .le 98, 3) := by decide +kernel

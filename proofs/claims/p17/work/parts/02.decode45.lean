theorem dX3_findDominators_92 : decode cX3_findDominators 92 = .ok (.iadd, 1) := by decide +kernel
theorem dX3_findDominators_93 : decode cX3_findDominators 93 = .ok (.iaload, 1) := by decide +kernel
theorem dX3_findDominators_94 : decode cX3_findDominators 94 = .ok (.if_icmp .ge 24, 3) := by decide +kernel
theorem dX3_findDominators_97 : decode cX3_findDominators 97 = .ok (.iload_n 1, 1) := by decide +kernel
theorem dX3_findDominators_98 : decode cX3_findDominators 98 = .ok (.aload_n 0, 1) := by decide +kernel
theorem dX3_findDominators_99 : decode cX3_findDominators 99 = .ok (.aload_n 0, 1) := by decide +kernel
theorem dX3_findDominators_100 : decode cX3_findDominators 100 = .ok (.getfield 21, 3) := by decide +kernel
theorem dX3_findDominators_103 : decode cX3_findDominators 103 = .ok (.iload 4, 2) := by decide +kernel
theorem dX3_findDominators_105 : decode cX3_findDominators 105 = .ok (.iaload, 1) := by decide +kernel
theorem dX3_findDominators_106 : decode cX3_findDominators 106 = .ok (.iload_n 3, 1) := by decide +kernel
theorem dX3_findDominators_107 : decode cX3_findDominators 107 = .ok (.invokevirtual 154, 3) := by decide +kernel
theorem dX3_findDominators_110 : decode cX3_findDominators 110 = .ok (.ior, 1) := by decide +kernel
theorem dX3_findDominators_111 : decode cX3_findDominators 111 = .ok (.istore_n 1, 1) := by decide +kernel
theorem dX3_findDominators_112 : decode cX3_findDominators 112 = .ok (.iinc 4 1, 3) := by decide +kernel
theorem dX3_findDominators_115 : decode cX3_findDominators 115 = .ok (.goto (-40), 3) := by decide +kernel
theorem dX3_findDominators_118 : decode cX3_findDominators 118 = .ok (.iinc 3 1, 3) := by decide +kernel
theorem dX3_findDominators_121 : decode cX3_findDominators 121 = .ok (.goto (-62), 3) := by decide +kernel
theorem dX3_findDominators_124 : decode cX3_findDominators 124 = .ok (.iinc 2 1, 3) := by decide +kernel
theorem dX3_findDominators_127 : decode cX3_findDominators 127 = .ok (.goto (-82), 3) := by decide +kernel
theorem dX3_findDominators_130 : decode cX3_findDominators 130 = .ok (.iconst 0, 1) := by decide +kernel
theorem dX3_findDominators_131 : decode cX3_findDominators 131 = .ok (.istore_n 2, 1) := by decide +kernel
theorem dX3_findDominators_132 : decode cX3_findDominators 132 = .ok (.iload_n 2, 1) := by decide +kernel
theorem dX3_findDominators_133 : decode cX3_findDominators 133 = .ok (.aload_n 0, 1) := by decide +kernel
theorem dX3_findDominators_134 : decode cX3_findDominators 134 = .ok (.getfield 78, 3) := by decide +kernel
theorem dX3_findDominators_137 : decode cX3_findDominators 137 = .ok (.if_icmp .ge 33, 3) := by decide +kernel
theorem dX3_findDominators_140 : decode cX3_findDominators 140 = .ok (.aload_n 0, 1) := by decide +kernel
theorem dX3_findDominators_141 : decode cX3_findDominators 141 = .ok (.getfield 38, 3) := by decide +kernel
theorem dX3_findDominators_144 : decode cX3_findDominators 144 = .ok (.iload_n 2, 1) := by decide +kernel
theorem dX3_findDominators_145 : decode cX3_findDominators 145 = .ok (.aload_n 0, 1) := by decide +kernel
theorem dX3_findDominators_146 : decode cX3_findDominators 146 = .ok (.getfield 30, 3) := by decide +kernel
theorem dX3_findDominators_149 : decode cX3_findDominators 149 = .ok (.iload_n 2, 1) := by decide +kernel
theorem dX3_findDominators_150 : decode cX3_findDominators 150 = .ok (.baload, 1) := by decide +kernel
theorem dX3_findDominators_151 : decode cX3_findDominators 151 = .ok (.ifCond .eq 11, 3) := by decide +kernel
theorem dX3_findDominators_154 : decode cX3_findDominators 154 = .ok (.aload_n 0, 1) := by decide +kernel
theorem dX3_findDominators_155 : decode cX3_findDominators 155 = .ok (.iload_n 2, 1) := by decide +kernel
theorem dX3_findDominators_156 : decode cX3_findDominators 156 = .ok (.invokevirtual 157, 3) := by decide +kernel
theorem dX3_findDominators_159 : decode cX3_findDominators 159 = .ok (.goto 4, 3) := by decide +kernel
theorem dX3_findDominators_162 : decode cX3_findDominators 162 = .ok (.iconst (-1), 1) := by decide +kernel
theorem dX3_findDominators_163 : decode cX3_findDominators 163 = .ok (.iastore, 1) := by decide +kernel
theorem dX3_findDominators_164 : decode cX3_findDominators 164 = .ok (.iinc 2 1, 3) := by decide +kernel
theorem dX3_findDominators_167 : decode cX3_findDominators 167 = .ok (.goto (-35), 3) := by decide +kernel
theorem dX3_findDominators_170 : decode cX3_findDominators 170 = .ok (.return_, 1) := by decide +kernel
theorem dX3_findEdges_0 : decode cX3_findEdges 0 = .ok (.aload_n 0, 1) := by decide +kernel
theorem dX3_findEdges_1 : decode cX3_findEdges 1 = .ok (.getfield 47, 3) := by decide +kernel
theorem dX3_findEdges_4 : decode cX3_findEdges 4 = .ok (.iconst (-1), 1) := by decide +kernel
theorem dX3_findEdges_5 : decode cX3_findEdges 5 = .ok (.invokestatic 85, 3) := by decide +kernel
theorem dX3_findEdges_8 : decode cX3_findEdges 8 = .ok (.iconst 0, 1) := by decide +kernel
theorem dX3_findEdges_9 : decode cX3_findEdges 9 = .ok (.istore_n 1, 1) := by decide +kernel
theorem dX3_findEdges_10 : decode cX3_findEdges 10 = .ok (.iconst 0, 1) := by decide +kernel
theorem dX3_findEdges_11 : decode cX3_findEdges 11 = .ok (.istore_n 2, 1) := by decide +kernel
theorem dX3_findEdges_12 : decode cX3_findEdges 12 = .ok (.iload_n 2, 1) := by decide +kernel
theorem dX3_findEdges_13 : decode cX3_findEdges 13 = .ok (.aload_n 0, 1) := by decide +kernel
theorem dX3_findEdges_14 : decode cX3_findEdges 14 = .ok (.getfield 78, 3) := by decide +kernel
theorem dX3_findEdges_17 : decode cX3_findEdges 17 = .ok (.if_icmp .ge 140, 3) := by decide +kernel
theorem dX3_findEdges_20 : decode cX3_findEdges 20 = .ok (.aload_n 0, 1) := by decide +kernel
theorem dX3_findEdges_21 : decode cX3_findEdges 21 = .ok (.getfield 18, 3) := by decide +kernel
theorem dX3_findEdges_24 : decode cX3_findEdges 24 = .ok (.iload_n 2, 1) := by decide +kernel
theorem dX3_findEdges_25 : decode cX3_findEdges 25 = .ok (.iload_n 1, 1) := by decide +kernel
theorem dX3_findEdges_26 : decode cX3_findEdges 26 = .ok (.iastore, 1) := by decide +kernel
theorem dX3_findEdges_27 : decode cX3_findEdges 27 = .ok (.aload_n 0, 1) := by decide +kernel
theorem dX3_findEdges_28 : decode cX3_findEdges 28 = .ok (.iload_n 2, 1) := by decide +kernel
theorem dX3_findEdges_29 : decode cX3_findEdges 29 = .ok (.invokevirtual 127, 3) := by decide +kernel
theorem dX3_findEdges_32 : decode cX3_findEdges 32 = .ok (.istore_n 3, 1) := by decide +kernel
theorem dX3_findEdges_33 : decode cX3_findEdges 33 = .ok (.aload_n 0, 1) := by decide +kernel
theorem dX3_findEdges_34 : decode cX3_findEdges 34 = .ok (.getfield 53, 3) := by decide +kernel
theorem dX3_findEdges_37 : decode cX3_findEdges 37 = .ok (.iload_n 3, 1) := by decide +kernel
theorem dX3_findEdges_38 : decode cX3_findEdges 38 = .ok (.invokevirtual 103, 3) := by decide +kernel
theorem dX3_findEdges_41 : decode cX3_findEdges 41 = .ok (.invokestatic 106, 3) := by decide +kernel
theorem dX3_findEdges_44 : decode cX3_findEdges 44 = .ok (.ifCond .eq 13, 3) := by decide +kernel
theorem dX3_findEdges_47 : decode cX3_findEdges 47 = .ok (.aload_n 0, 1) := by decide +kernel
theorem dX3_findEdges_48 : decode cX3_findEdges 48 = .ok (.iload_n 2, 1) := by decide +kernel
theorem dX3_findEdges_49 : decode cX3_findEdges 49 = .ok (.iload_n 3, 1) := by decide +kernel
theorem dX3_findEdges_50 : decode cX3_findEdges 50 = .ok (.iconst 1, 1) := by decide +kernel
theorem dX3_findEdges_51 : decode cX3_findEdges 51 = .ok (.iadd, 1) := by decide +kernel
theorem dX3_findEdges_52 : decode cX3_findEdges 52 = .ok (.iload_n 1, 1) := by decide +kernel
theorem dX3_findEdges_53 : decode cX3_findEdges 53 = .ok (.invokevirtual 130, 3) := by decide +kernel
theorem dX3_findEdges_56 : decode cX3_findEdges 56 = .ok (.istore_n 1, 1) := by decide +kernel
theorem dX3_findEdges_57 : decode cX3_findEdges 57 = .ok (.aload_n 0, 1) := by decide +kernel
theorem dX3_findEdges_58 : decode cX3_findEdges 58 = .ok (.getfield 53, 3) := by decide +kernel
theorem dX3_findEdges_61 : decode cX3_findEdges 61 = .ok (.iload_n 3, 1) := by decide +kernel
theorem dX3_findEdges_62 : decode cX3_findEdges 62 = .ok (.invokevirtual 95, 3) := by decide +kernel
theorem dX3_findEdges_65 : decode cX3_findEdges 65 = .ok (.istore 4, 2) := by decide +kernel
theorem dX3_findEdges_67 : decode cX3_findEdges 67 = .ok (.iconst 0, 1) := by decide +kernel
theorem dX3_findEdges_68 : decode cX3_findEdges 68 = .ok (.istore 5, 2) := by decide +kernel
theorem dX3_findEdges_70 : decode cX3_findEdges 70 = .ok (.iload 5, 2) := by decide +kernel
theorem dX3_findEdges_72 : decode cX3_findEdges 72 = .ok (.iload 4, 2) := by decide +kernel
theorem dX3_findEdges_74 : decode cX3_findEdges 74 = .ok (.if_icmp .ge 26, 3) := by decide +kernel
theorem dX3_findEdges_77 : decode cX3_findEdges 77 = .ok (.aload_n 0, 1) := by decide +kernel
theorem dX3_findEdges_78 : decode cX3_findEdges 78 = .ok (.iload_n 2, 1) := by decide +kernel
theorem dX3_findEdges_79 : decode cX3_findEdges 79 = .ok (.aload_n 0, 1) := by decide +kernel
theorem dX3_findEdges_80 : decode cX3_findEdges 80 = .ok (.getfield 53, 3) := by decide +kernel
theorem dX3_findEdges_83 : decode cX3_findEdges 83 = .ok (.iload_n 3, 1) := by decide +kernel
theorem dX3_findEdges_84 : decode cX3_findEdges 84 = .ok (.iload 5, 2) := by decide +kernel
theorem dX3_findEdges_86 : decode cX3_findEdges 86 = .ok (.invokevirtual 99, 3) := by decide +kernel
theorem dX3_findEdges_89 : decode cX3_findEdges 89 = .ok (.iload_n 1, 1) := by decide +kernel
theorem dX3_findEdges_90 : decode cX3_findEdges 90 = .ok (.invokevirtual 130, 3) := by decide +kernel
theorem dX3_findEdges_93 : decode cX3_findEdges 93 = .ok (.istore_n 1, 1) := by decide +kernel
theorem dX3_findEdges_94 : decode cX3_findEdges 94 = .ok (.iinc 5 1, 3) := by decide +kernel
theorem dX3_findEdges_97 : decode cX3_findEdges 97 = .ok (.goto (-27), 3) := by decide +kernel
theorem dX3_findEdges_100 : decode cX3_findEdges 100 = .ok (.iconst 0, 1) := by decide +kernel
theorem dX3_findEdges_101 : decode cX3_findEdges 101 = .ok (.istore 5, 2) := by decide +kernel
theorem dX3_findEdges_103 : decode cX3_findEdges 103 = .ok (.iload 5, 2) := by decide +kernel
theorem dX3_findEdges_105 : decode cX3_findEdges 105 = .ok (.aload_n 0, 1) := by decide +kernel
theorem dX3_findEdges_106 : decode cX3_findEdges 106 = .ok (.getfield 53, 3) := by decide +kernel
theorem dX3_findEdges_109 : decode cX3_findEdges 109 = .ok (.getfield 112, 3) := by decide +kernel
theorem dX3_findEdges_112 : decode cX3_findEdges 112 = .ok (.if_icmp .ge 39, 3) := by decide +kernel
theorem dX3_findEdges_115 : decode cX3_findEdges 115 = .ok (.aload_n 0, 1) := by decide +kernel
theorem dX3_findEdges_116 : decode cX3_findEdges 116 = .ok (.getfield 53, 3) := by decide +kernel
theorem dX3_findEdges_119 : decode cX3_findEdges 119 = .ok (.iload 5, 2) := by decide +kernel
theorem dX3_findEdges_121 : decode cX3_findEdges 121 = .ok (.iload_n 3, 1) := by decide +kernel
theorem dX3_findEdges_122 : decode cX3_findEdges 122 = .ok (.invokevirtual 134, 3) := by decide +kernel
theorem dX3_findEdges_125 : decode cX3_findEdges 125 = .ok (.ifCond .eq 20, 3) := by decide +kernel
theorem dX3_findEdges_128 : decode cX3_findEdges 128 = .ok (.aload_n 0, 1) := by decide +kernel
theorem dX3_findEdges_129 : decode cX3_findEdges 129 = .ok (.iload_n 2, 1) := by decide +kernel
theorem dX3_findEdges_130 : decode cX3_findEdges 130 = .ok (.aload_n 0, 1) := by decide +kernel
theorem dX3_findEdges_131 : decode cX3_findEdges 131 = .ok (.getfield 53, 3) := by decide +kernel
theorem dX3_findEdges_134 : decode cX3_findEdges 134 = .ok (.getfield 121, 3) := by decide +kernel
theorem dX3_findEdges_137 : decode cX3_findEdges 137 = .ok (.iload 5, 2) := by decide +kernel
theorem dX3_findEdges_139 : decode cX3_findEdges 139 = .ok (.iaload, 1) := by decide +kernel
theorem dX3_findEdges_140 : decode cX3_findEdges 140 = .ok (.iload_n 1, 1) := by decide +kernel
theorem dX3_findEdges_141 : decode cX3_findEdges 141 = .ok (.invokevirtual 130, 3) := by decide +kernel
theorem dX3_findEdges_144 : decode cX3_findEdges 144 = .ok (.istore_n 1, 1) := by decide +kernel
theorem dX3_findEdges_145 : decode cX3_findEdges 145 = .ok (.iinc 5 1, 3) := by decide +kernel
theorem dX3_findEdges_148 : decode cX3_findEdges 148 = .ok (.goto (-45), 3) := by decide +kernel
theorem dX3_findEdges_151 : decode cX3_findEdges 151 = .ok (.iinc 2 1, 3) := by decide +kernel
theorem dX3_findEdges_154 : decode cX3_findEdges 154 = .ok (.goto (-142), 3) := by decide +kernel
theorem dX3_findEdges_157 : decode cX3_findEdges 157 = .ok (.aload_n 0, 1) := by decide +kernel
theorem dX3_findEdges_158 : decode cX3_findEdges 158 = .ok (.getfield 18, 3) := by decide +kernel
theorem dX3_findEdges_161 : decode cX3_findEdges 161 = .ok (.aload_n 0, 1) := by decide +kernel
theorem dX3_findEdges_162 : decode cX3_findEdges 162 = .ok (.getfield 78, 3) := by decide +kernel
theorem dX3_findEdges_165 : decode cX3_findEdges 165 = .ok (.iload_n 1, 1) := by decide +kernel
theorem dX3_findEdges_166 : decode cX3_findEdges 166 = .ok (.iastore, 1) := by decide +kernel
theorem dX3_findEdges_167 : decode cX3_findEdges 167 = .ok (.return_, 1) := by decide +kernel
theorem dX3_findLoops_0 : decode cX3_findLoops 0 = .ok (.aload_n 0, 1) := by decide +kernel
theorem dX3_findLoops_1 : decode cX3_findLoops 1 = .ok (.getfield 44, 3) := by decide +kernel
theorem dX3_findLoops_4 : decode cX3_findLoops 4 = .ok (.iconst 0, 1) := by decide +kernel
theorem dX3_findLoops_5 : decode cX3_findLoops 5 = .ok (.invokestatic 85, 3) := by decide +kernel
theorem dX3_findLoops_8 : decode cX3_findLoops 8 = .ok (.aload_n 0, 1) := by decide +kernel
theorem dX3_findLoops_9 : decode cX3_findLoops 9 = .ok (.getfield 47, 3) := by decide +kernel
theorem dX3_findLoops_12 : decode cX3_findLoops 12 = .ok (.iconst (-1), 1) := by decide +kernel
theorem dX3_findLoops_13 : decode cX3_findLoops 13 = .ok (.invokestatic 85, 3) := by decide +kernel
theorem dX3_findLoops_16 : decode cX3_findLoops 16 = .ok (.iconst 0, 1) := by decide +kernel
theorem dX3_findLoops_17 : decode cX3_findLoops 17 = .ok (.istore_n 1, 1) := by decide +kernel
theorem dX3_findLoops_18 : decode cX3_findLoops 18 = .ok (.iload_n 1, 1) := by decide +kernel
theorem dX3_findLoops_19 : decode cX3_findLoops 19 = .ok (.aload_n 0, 1) := by decide +kernel
theorem dX3_findLoops_20 : decode cX3_findLoops 20 = .ok (.getfield 78, 3) := by decide +kernel
theorem dX3_findLoops_23 : decode cX3_findLoops 23 = .ok (.if_icmp .ge 102, 3) := by decide +kernel
theorem dX3_findLoops_26 : decode cX3_findLoops 26 = .ok (.aload_n 0, 1) := by decide +kernel
theorem dX3_findLoops_27 : decode cX3_findLoops 27 = .ok (.getfield 41, 3) := by decide +kernel
theorem dX3_findLoops_30 : decode cX3_findLoops 30 = .ok (.iload_n 1, 1) := by decide +kernel

theorem dX3_findBlocks_239 : decode cX3_findBlocks 239 = .ok (.putfield 78, 3) := by decide +kernel
theorem dX3_findBlocks_242 : decode cX3_findBlocks 242 = .ok (.aload_n 0, 1) := by decide +kernel
theorem dX3_findBlocks_243 : decode cX3_findBlocks 243 = .ok (.getfield 15, 3) := by decide +kernel
theorem dX3_findBlocks_246 : decode cX3_findBlocks 246 = .ok (.iload_n 1, 1) := by decide +kernel
theorem dX3_findBlocks_247 : decode cX3_findBlocks 247 = .ok (.aload_n 0, 1) := by decide +kernel
theorem dX3_findBlocks_248 : decode cX3_findBlocks 248 = .ok (.getfield 78, 3) := by decide +kernel
theorem dX3_findBlocks_251 : decode cX3_findBlocks 251 = .ok (.iconst 1, 1) := by decide +kernel
theorem dX3_findBlocks_252 : decode cX3_findBlocks 252 = .ok (.isub, 1) := by decide +kernel
theorem dX3_findBlocks_253 : decode cX3_findBlocks 253 = .ok (.iastore, 1) := by decide +kernel
theorem dX3_findBlocks_254 : decode cX3_findBlocks 254 = .ok (.iinc 1 1, 3) := by decide +kernel
theorem dX3_findBlocks_257 : decode cX3_findBlocks 257 = .ok (.goto (-55), 3) := by decide +kernel
theorem dX3_findBlocks_260 : decode cX3_findBlocks 260 = .ok (.return_, 1) := by decide +kernel
theorem dX3_findDominators_0 : decode cX3_findDominators 0 = .ok (.aload_n 0, 1) := by decide +kernel
theorem dX3_findDominators_1 : decode cX3_findDominators 1 = .ok (.getfield 34, 3) := by decide +kernel
theorem dX3_findDominators_4 : decode cX3_findDominators 4 = .ok (.ldc2_w 148, 3) := by decide +kernel
theorem dX3_findDominators_7 : decode cX3_findDominators 7 = .ok (.invokestatic 150, 3) := by decide +kernel
theorem dX3_findDominators_10 : decode cX3_findDominators 10 = .ok (.iconst 0, 1) := by decide +kernel
theorem dX3_findDominators_11 : decode cX3_findDominators 11 = .ok (.istore_n 1, 1) := by decide +kernel
theorem dX3_findDominators_12 : decode cX3_findDominators 12 = .ok (.iload_n 1, 1) := by decide +kernel
theorem dX3_findDominators_13 : decode cX3_findDominators 13 = .ok (.aload_n 0, 1) := by decide +kernel
theorem dX3_findDominators_14 : decode cX3_findDominators 14 = .ok (.getfield 124, 3) := by decide +kernel
theorem dX3_findDominators_17 : decode cX3_findDominators 17 = .ok (.if_icmp .ge 24, 3) := by decide +kernel
theorem dX3_findDominators_20 : decode cX3_findDominators 20 = .ok (.aload_n 0, 1) := by decide +kernel
theorem dX3_findDominators_21 : decode cX3_findDominators 21 = .ok (.getfield 34, 3) := by decide +kernel
theorem dX3_findDominators_24 : decode cX3_findDominators 24 = .ok (.iload_n 1, 1) := by decide +kernel
theorem dX3_findDominators_25 : decode cX3_findDominators 25 = .ok (.iload_n 1, 1) := by decide +kernel
theorem dX3_findDominators_26 : decode cX3_findDominators 26 = .ok (.ifCond .ne 7, 3) := by decide +kernel
theorem dX3_findDominators_29 : decode cX3_findDominators 29 = .ok (.lconst 1, 1) := by decide +kernel
theorem dX3_findDominators_30 : decode cX3_findDominators 30 = .ok (.goto 4, 3) := by decide +kernel
theorem dX3_findDominators_33 : decode cX3_findDominators 33 = .ok (.lconst 0, 1) := by decide +kernel
theorem dX3_findDominators_34 : decode cX3_findDominators 34 = .ok (.lastore, 1) := by decide +kernel
theorem dX3_findDominators_35 : decode cX3_findDominators 35 = .ok (.iinc 1 1, 3) := by decide +kernel
theorem dX3_findDominators_38 : decode cX3_findDominators 38 = .ok (.goto (-26), 3) := by decide +kernel
theorem dX3_findDominators_41 : decode cX3_findDominators 41 = .ok (.iconst 1, 1) := by decide +kernel
theorem dX3_findDominators_42 : decode cX3_findDominators 42 = .ok (.istore_n 1, 1) := by decide +kernel
theorem dX3_findDominators_43 : decode cX3_findDominators 43 = .ok (.iconst 0, 1) := by decide +kernel
theorem dX3_findDominators_44 : decode cX3_findDominators 44 = .ok (.istore_n 2, 1) := by decide +kernel
theorem dX3_findDominators_45 : decode cX3_findDominators 45 = .ok (.iload_n 1, 1) := by decide +kernel
theorem dX3_findDominators_46 : decode cX3_findDominators 46 = .ok (.ifCond .eq 84, 3) := by decide +kernel
theorem dX3_findDominators_49 : decode cX3_findDominators 49 = .ok (.iload_n 2, 1) := by decide +kernel
theorem dX3_findDominators_50 : decode cX3_findDominators 50 = .ok (.ldc 153, 2) := by decide +kernel
theorem dX3_findDominators_52 : decode cX3_findDominators 52 = .ok (.if_icmp .ge 78, 3) := by decide +kernel
theorem dX3_findDominators_55 : decode cX3_findDominators 55 = .ok (.iconst 0, 1) := by decide +kernel
theorem dX3_findDominators_56 : decode cX3_findDominators 56 = .ok (.istore_n 1, 1) := by decide +kernel
theorem dX3_findDominators_57 : decode cX3_findDominators 57 = .ok (.iconst 0, 1) := by decide +kernel
theorem dX3_findDominators_58 : decode cX3_findDominators 58 = .ok (.istore_n 3, 1) := by decide +kernel
theorem dX3_findDominators_59 : decode cX3_findDominators 59 = .ok (.iload_n 3, 1) := by decide +kernel
theorem dX3_findDominators_60 : decode cX3_findDominators 60 = .ok (.aload_n 0, 1) := by decide +kernel
theorem dX3_findDominators_61 : decode cX3_findDominators 61 = .ok (.getfield 78, 3) := by decide +kernel
theorem dX3_findDominators_64 : decode cX3_findDominators 64 = .ok (.if_icmp .ge 60, 3) := by decide +kernel
theorem dX3_findDominators_67 : decode cX3_findDominators 67 = .ok (.aload_n 0, 1) := by decide +kernel
theorem dX3_findDominators_68 : decode cX3_findDominators 68 = .ok (.getfield 18, 3) := by decide +kernel
theorem dX3_findDominators_71 : decode cX3_findDominators 71 = .ok (.iload_n 3, 1) := by decide +kernel
theorem dX3_findDominators_72 : decode cX3_findDominators 72 = .ok (.iaload, 1) := by decide +kernel
theorem dX3_findDominators_73 : decode cX3_findDominators 73 = .ok (.istore 4, 2) := by decide +kernel
theorem dX3_findDominators_75 : decode cX3_findDominators 75 = .ok (.aload_n 0, 1) := by decide +kernel
theorem dX3_findDominators_76 : decode cX3_findDominators 76 = .ok (.getfield 30, 3) := by decide +kernel
theorem dX3_findDominators_79 : decode cX3_findDominators 79 = .ok (.iload_n 3, 1) := by decide +kernel
theorem dX3_findDominators_80 : decode cX3_findDominators 80 = .ok (.baload, 1) := by decide +kernel
theorem dX3_findDominators_81 : decode cX3_findDominators 81 = .ok (.ifCond .eq 37, 3) := by decide +kernel
theorem dX3_findDominators_84 : decode cX3_findDominators 84 = .ok (.iload 4, 2) := by decide +kernel
theorem dX3_findDominators_86 : decode cX3_findDominators 86 = .ok (.aload_n 0, 1) := by decide +kernel
theorem dX3_findDominators_87 : decode cX3_findDominators 87 = .ok (.getfield 18, 3) := by decide +kernel
theorem dX3_findDominators_90 : decode cX3_findDominators 90 = .ok (.iload_n 3, 1) := by decide +kernel
theorem dX3_findDominators_91 : decode cX3_findDominators 91 = .ok (.iconst 1, 1) := by decide +kernel
theorem dX3_findDominators_92 : decode cX3_findDominators 92 = .ok (.iadd, 1) := by decide +kernel
theorem dX3_findDominators_93 : decode cX3_findDominators 93 = .ok (.iaload, 1) := by decide +kernel
theorem dX3_findDominators_94 : decode cX3_findDominators 94 = .ok (.if_icmp .ge 24, 3) := by decide +kernel
theorem dX3_findDominators_97 : decode cX3_findDominators 97 = .ok (.iload_n 1, 1) := by decide +kernel
theorem dX3_findDominators_98 : decode cX3_findDominators 98 = .ok (.aload_n 0, 1) := by decide +kernel
theorem dX3_findDominators_99 : decode cX3_findDominators 99 = .ok (.aload_n 0, 1) := by decide +kernel
theorem dX3_findDominators_100 : decode cX3_findDominators 100 = .ok (.getfield 21, 3) := by decide +kernel
theorem dX3_findDominators_103 : decode cX3_findDominators 103 = .ok (.iload 4, 2) := by decide +kernel
theorem dX3_findDominators_105 : decode cX3_findDominators 105 = .ok (.iaload, 1) := by decide +kernel
theorem dX3_findDominators_106 : decode cX3_findDominators 106 = .ok (.iload_n 3, 1) := by decide +kernel
theorem dX3_findDominators_107 : decode cX3_findDominators 107 = .ok (.invokevirtual 154, 3) := by decide +kernel
theorem dX3_findDominators_110 : decode cX3_findDominators 110 = .ok (.ior, 1) := by decide +kernel
theorem dX3_findDominators_111 : decode cX3_findDominators 111 = .ok (.istore_n 1, 1) := by decide +kernel
theorem dX3_findDominators_112 : decode cX3_findDominators 112 = .ok (.iinc 4 1, 3) := by decide +kernel
theorem dX3_findDominators_115 : decode cX3_findDominators 115 = .ok (.goto (-40), 3) := by decide +kernel
theorem dX3_findDominators_118 : decode cX3_findDominators 118 = .ok (.iinc 3 1, 3) := by decide +kernel
theorem dX3_findDominators_121 : decode cX3_findDominators 121 = .ok (.goto (-62), 3) := by decide +kernel
theorem dX3_findDominators_124 : decode cX3_findDominators 124 = .ok (.iinc 2 1, 3) := by decide +kernel
theorem dX3_findDominators_127 : decode cX3_findDominators 127 = .ok (.goto (-82), 3) := by decide +kernel
theorem dX3_findDominators_130 : decode cX3_findDominators 130 = .ok (.iconst 0, 1) := by decide +kernel
theorem dX3_findDominators_131 : decode cX3_findDominators 131 = .ok (.istore_n 2, 1) := by decide +kernel
theorem dX3_findDominators_132 : decode cX3_findDominators 132 = .ok (.iload_n 2, 1) := by decide +kernel
theorem dX3_findDominators_133 : decode cX3_findDominators 133 = .ok (.aload_n 0, 1) := by decide +kernel
theorem dX3_findDominators_134 : decode cX3_findDominators 134 = .ok (.getfield 78, 3) := by decide +kernel
theorem dX3_findDominators_137 : decode cX3_findDominators 137 = .ok (.if_icmp .ge 33, 3) := by decide +kernel
theorem dX3_findDominators_140 : decode cX3_findDominators 140 = .ok (.aload_n 0, 1) := by decide +kernel
theorem dX3_findDominators_141 : decode cX3_findDominators 141 = .ok (.getfield 38, 3) := by decide +kernel
theorem dX3_findDominators_144 : decode cX3_findDominators 144 = .ok (.iload_n 2, 1) := by decide +kernel
theorem dX3_findDominators_145 : decode cX3_findDominators 145 = .ok (.aload_n 0, 1) := by decide +kernel
theorem dX3_findDominators_146 : decode cX3_findDominators 146 = .ok (.getfield 30, 3) := by decide +kernel
theorem dX3_findDominators_149 : decode cX3_findDominators 149 = .ok (.iload_n 2, 1) := by decide +kernel
theorem dX3_findDominators_150 : decode cX3_findDominators 150 = .ok (.baload, 1) := by decide +kernel
theorem dX3_findDominators_151 : decode cX3_findDominators 151 = .ok (.ifCond .eq 11, 3) := by decide +kernel
theorem dX3_findDominators_154 : decode cX3_findDominators 154 = .ok (.aload_n 0, 1) := by decide +kernel
theorem dX3_findDominators_155 : decode cX3_findDominators 155 = .ok (.iload_n 2, 1) := by decide +kernel
theorem dX3_findDominators_156 : decode cX3_findDominators 156 = .ok (.invokevirtual 157, 3) := by decide +kernel
theorem dX3_findDominators_159 : decode cX3_findDominators 159 = .ok (.goto 4, 3) := by decide +kernel
theorem dX3_findDominators_162 : decode cX3_findDominators 162 = .ok (.iconst (-1), 1) := by decide +kernel
theorem dX3_findDominators_163 : decode cX3_findDominators 163 = .ok (.iastore, 1) := by decide +kernel
theorem dX3_findDominators_164 : decode cX3_findDominators 164 = .ok (.iinc 2 1, 3) := by decide +kernel
theorem dX3_findDominators_167 : decode cX3_findDominators 167 = .ok (.goto (-35), 3) := by decide +kernel
theorem dX3_findDominators_170 : decode cX3_findDominators 170 = .ok (.return_, 1) := by decide +kernel
theorem dX3_findEdges_0 : decode cX3_findEdges 0 = .ok (.aload_n 0, 1) := by decide +kernel
theorem dX3_findEdges_1 : decode cX3_findEdges 1 = .ok (.getfield 47, 3) := by decide +kernel
theorem dX3_findEdges_4 : decode cX3_findEdges 4 = .ok (.iconst (-1), 1) := by decide +kernel
theorem dX3_findEdges_5 : decode cX3_findEdges 5 = .ok (.invokestatic 85, 3) := by decide +kernel
theorem dX3_findEdges_8 : decode cX3_findEdges 8 = .ok (.iconst 0, 1) := by decide +kernel
theorem dX3_findEdges_9 : decode cX3_findEdges 9 = .ok (.istore_n 1, 1) := by decide +kernel
theorem dX3_findEdges_10 : decode cX3_findEdges 10 = .ok (.iconst 0, 1) := by decide +kernel
theorem dX3_findEdges_11 : decode cX3_findEdges 11 = .ok (.istore_n 2, 1) := by decide +kernel
theorem dX3_findEdges_12 : decode cX3_findEdges 12 = .ok (.iload_n 2, 1) := by decide +kernel
theorem dX3_findEdges_13 : decode cX3_findEdges 13 = .ok (.aload_n 0, 1) := by decide +kernel
theorem dX3_findEdges_14 : decode cX3_findEdges 14 = .ok (.getfield 78, 3) := by decide +kernel
theorem dX3_findEdges_17 : decode cX3_findEdges 17 = .ok (.if_icmp .ge 140, 3) := by decide +kernel
theorem dX3_findEdges_20 : decode cX3_findEdges 20 = .ok (.aload_n 0, 1) := by decide +kernel
theorem dX3_findEdges_21 : decode cX3_findEdges 21 = .ok (.getfield 18, 3) := by decide +kernel
theorem dX3_findEdges_24 : decode cX3_findEdges 24 = .ok (.iload_n 2, 1) := by decide +kernel
theorem dX3_findEdges_25 : decode cX3_findEdges 25 = .ok (.iload_n 1, 1) := by decide +kernel
theorem dX3_findEdges_26 : decode cX3_findEdges 26 = .ok (.iastore, 1) := by decide +kernel
theorem dX3_findEdges_27 : decode cX3_findEdges 27 = .ok (.aload_n 0, 1) := by decide +kernel
theorem dX3_findEdges_28 : decode cX3_findEdges 28 = .ok (.iload_n 2, 1) := by decide +kernel
theorem dX3_findEdges_29 : decode cX3_findEdges 29 = .ok (.invokevirtual 127, 3) := by decide +kernel
theorem dX3_findEdges_32 : decode cX3_findEdges 32 = .ok (.istore_n 3, 1) := by decide +kernel
theorem dX3_findEdges_33 : decode cX3_findEdges 33 = .ok (.aload_n 0, 1) := by decide +kernel
theorem dX3_findEdges_34 : decode cX3_findEdges 34 = .ok (.getfield 53, 3) := by decide +kernel
theorem dX3_findEdges_37 : decode cX3_findEdges 37 = .ok (.iload_n 3, 1) := by decide +kernel
theorem dX3_findEdges_38 : decode cX3_findEdges 38 = .ok (.invokevirtual 103, 3) := by decide +kernel
theorem dX3_findEdges_41 : decode cX3_findEdges 41 = .ok (.invokestatic 106, 3) := by decide +kernel
theorem dX3_findEdges_44 : decode cX3_findEdges 44 = .ok (.ifCond .eq 13, 3) := by decide +kernel
theorem dX3_findEdges_47 : decode cX3_findEdges 47 = .ok (.aload_n 0, 1) := by decide +kernel
theorem dX3_findEdges_48 : decode cX3_findEdges 48 = .ok (.iload_n 2, 1) := by decide +kernel
theorem dX3_findEdges_49 : decode cX3_findEdges 49 = .ok (.iload_n 3, 1) := by decide +kernel
theorem dX3_findEdges_50 : decode cX3_findEdges 50 = .ok (.iconst 1, 1) := by decide +kernel
theorem dX3_findEdges_51 : decode cX3_findEdges 51 = .ok (.iadd, 1) := by decide +kernel
theorem dX3_findEdges_52 : decode cX3_findEdges 52 = .ok (.iload_n 1, 1) := by decide +kernel
theorem dX3_findEdges_53 : decode cX3_findEdges 53 = .ok (.invokevirtual 130, 3) := by decide +kernel
theorem dX3_findEdges_56 : decode cX3_findEdges 56 = .ok (.istore_n 1, 1) := by decide +kernel
theorem dX3_findEdges_57 : decode cX3_findEdges 57 = .ok (.aload_n 0, 1) := by decide +kernel
theorem dX3_findEdges_58 : decode cX3_findEdges 58 = .ok (.getfield 53, 3) := by decide +kernel
theorem dX3_findEdges_61 : decode cX3_findEdges 61 = .ok (.iload_n 3, 1) := by decide +kernel
theorem dX3_findEdges_62 : decode cX3_findEdges 62 = .ok (.invokevirtual 95, 3) := by decide +kernel
theorem dX3_findEdges_65 : decode cX3_findEdges 65 = .ok (.istore 4, 2) := by decide +kernel
theorem dX3_findEdges_67 : decode cX3_findEdges 67 = .ok (.iconst 0, 1) := by decide +kernel
theorem dX3_findEdges_68 : decode cX3_findEdges 68 = .ok (.istore 5, 2) := by decide +kernel
theorem dX3_findEdges_70 : decode cX3_findEdges 70 = .ok (.iload 5, 2) := by decide +kernel

theorem dX2_errorOf_0 : decode cX2_errorOf 0 = .ok (.iload_n 1, 1) := by decide +kernel
theorem dX2_errorOf_1 : decode cX2_errorOf 1 = .ok (.ifCond .ne 5, 3) := by decide +kernel
theorem dX2_errorOf_4 : decode cX2_errorOf 4 = .ok (.iconst (-1), 1) := by decide +kernel
theorem dX2_errorOf_5 : decode cX2_errorOf 5 = .ok (.ireturn, 1) := by decide +kernel
theorem dX2_errorOf_6 : decode cX2_errorOf 6 = .ok (.iconst 0, 1) := by decide +kernel
theorem dX2_errorOf_7 : decode cX2_errorOf 7 = .ok (.istore_n 2, 1) := by decide +kernel
theorem dX2_errorOf_8 : decode cX2_errorOf 8 = .ok (.iload_n 2, 1) := by decide +kernel
theorem dX2_errorOf_9 : decode cX2_errorOf 9 = .ok (.iconst 3, 1) := by decide +kernel
theorem dX2_errorOf_10 : decode cX2_errorOf 10 = .ok (.if_icmp .gt 46, 3) := by decide +kernel
theorem dX2_errorOf_13 : decode cX2_errorOf 13 = .ok (.aload_n 0, 1) := by decide +kernel
theorem dX2_errorOf_14 : decode cX2_errorOf 14 = .ok (.getfield 12, 3) := by decide +kernel
theorem dX2_errorOf_17 : decode cX2_errorOf 17 = .ok (.iload_n 1, 1) := by decide +kernel
theorem dX2_errorOf_18 : decode cX2_errorOf 18 = .ok (.invokevirtual 231, 3) := by decide +kernel
theorem dX2_errorOf_21 : decode cX2_errorOf 21 = .ok (.bipush 7, 2) := by decide +kernel
theorem dX2_errorOf_23 : decode cX2_errorOf 23 = .ok (.if_icmp .ne 27, 3) := by decide +kernel
theorem dX2_errorOf_26 : decode cX2_errorOf 26 = .ok (.aload_n 0, 1) := by decide +kernel
theorem dX2_errorOf_27 : decode cX2_errorOf 27 = .ok (.getfield 12, 3) := by decide +kernel
theorem dX2_errorOf_30 : decode cX2_errorOf 30 = .ok (.aload_n 0, 1) := by decide +kernel
theorem dX2_errorOf_31 : decode cX2_errorOf 31 = .ok (.getfield 12, 3) := by decide +kernel
theorem dX2_errorOf_34 : decode cX2_errorOf 34 = .ok (.iload_n 1, 1) := by decide +kernel
theorem dX2_errorOf_35 : decode cX2_errorOf 35 = .ok (.invokevirtual 247, 3) := by decide +kernel
theorem dX2_errorOf_38 : decode cX2_errorOf 38 = .ok (.iload_n 2, 1) := by decide +kernel
theorem dX2_errorOf_39 : decode cX2_errorOf 39 = .ok (.invokestatic 250, 3) := by decide +kernel
theorem dX2_errorOf_42 : decode cX2_errorOf 42 = .ok (.invokevirtual 254, 3) := by decide +kernel
theorem dX2_errorOf_45 : decode cX2_errorOf 45 = .ok (.ifCond .eq 5, 3) := by decide +kernel
theorem dX2_errorOf_48 : decode cX2_errorOf 48 = .ok (.iload_n 2, 1) := by decide +kernel
theorem dX2_errorOf_49 : decode cX2_errorOf 49 = .ok (.ireturn, 1) := by decide +kernel
theorem dX2_errorOf_50 : decode cX2_errorOf 50 = .ok (.iinc 2 1, 3) := by decide +kernel
theorem dX2_errorOf_53 : decode cX2_errorOf 53 = .ok (.goto (-45), 3) := by decide +kernel
theorem dX2_errorOf_56 : decode cX2_errorOf 56 = .ok (.bipush (-2), 2) := by decide +kernel
theorem dX2_errorOf_58 : decode cX2_errorOf 58 = .ok (.ireturn, 1) := by decide +kernel
theorem dX2_headHolds_0 : decode cX2_headHolds 0 = .ok (.iload_n 1, 1) := by decide +kernel
theorem dX2_headHolds_1 : decode cX2_headHolds 1 = .ok (.iconst 2, 1) := by decide +kernel
theorem dX2_headHolds_2 : decode cX2_headHolds 2 = .ok (.iadd, 1) := by decide +kernel
theorem dX2_headHolds_3 : decode cX2_headHolds 3 = .ok (.iload_n 2, 1) := by decide +kernel
theorem dX2_headHolds_4 : decode cX2_headHolds 4 = .ok (.if_icmp .le 14, 3) := by decide +kernel
theorem dX2_headHolds_7 : decode cX2_headHolds 7 = .ok (.aload_n 0, 1) := by decide +kernel
theorem dX2_headHolds_8 : decode cX2_headHolds 8 = .ok (.getfield 12, 3) := by decide +kernel
theorem dX2_headHolds_11 : decode cX2_headHolds 11 = .ok (.bipush 14, 2) := by decide +kernel
theorem dX2_headHolds_13 : decode cX2_headHolds 13 = .ok (.iload_n 2, 1) := by decide +kernel
theorem dX2_headHolds_14 : decode cX2_headHolds 14 = .ok (.invokevirtual 86, 3) := by decide +kernel
theorem dX2_headHolds_17 : decode cX2_headHolds 17 = .ok (.ireturn, 1) := by decide +kernel
theorem dX2_headHolds_18 : decode cX2_headHolds 18 = .ok (.aload_n 0, 1) := by decide +kernel
theorem dX2_headHolds_19 : decode cX2_headHolds 19 = .ok (.getfield 12, 3) := by decide +kernel
theorem dX2_headHolds_22 : decode cX2_headHolds 22 = .ok (.iload_n 1, 1) := by decide +kernel
theorem dX2_headHolds_23 : decode cX2_headHolds 23 = .ok (.invokevirtual 90, 3) := by decide +kernel
theorem dX2_headHolds_26 : decode cX2_headHolds 26 = .ok (.bipush 24, 2) := by decide +kernel
theorem dX2_headHolds_28 : decode cX2_headHolds 28 = .ok (.if_icmp .le 14, 3) := by decide +kernel
theorem dX2_headHolds_31 : decode cX2_headHolds 31 = .ok (.aload_n 0, 1) := by decide +kernel
theorem dX2_headHolds_32 : decode cX2_headHolds 32 = .ok (.getfield 12, 3) := by decide +kernel
theorem dX2_headHolds_35 : decode cX2_headHolds 35 = .ok (.bipush 13, 2) := by decide +kernel
theorem dX2_headHolds_37 : decode cX2_headHolds 37 = .ok (.iload_n 1, 1) := by decide +kernel
theorem dX2_headHolds_38 : decode cX2_headHolds 38 = .ok (.invokevirtual 86, 3) := by decide +kernel
theorem dX2_headHolds_41 : decode cX2_headHolds 41 = .ok (.ireturn, 1) := by decide +kernel
theorem dX2_headHolds_42 : decode cX2_headHolds 42 = .ok (.iload_n 1, 1) := by decide +kernel
theorem dX2_headHolds_43 : decode cX2_headHolds 43 = .ok (.iconst 4, 1) := by decide +kernel
theorem dX2_headHolds_44 : decode cX2_headHolds 44 = .ok (.iadd, 1) := by decide +kernel
theorem dX2_headHolds_45 : decode cX2_headHolds 45 = .ok (.iload_n 2, 1) := by decide +kernel
theorem dX2_headHolds_46 : decode cX2_headHolds 46 = .ok (.if_icmp .le 14, 3) := by decide +kernel
theorem dX2_headHolds_49 : decode cX2_headHolds 49 = .ok (.aload_n 0, 1) := by decide +kernel
theorem dX2_headHolds_50 : decode cX2_headHolds 50 = .ok (.getfield 12, 3) := by decide +kernel
theorem dX2_headHolds_53 : decode cX2_headHolds 53 = .ok (.bipush 14, 2) := by decide +kernel
theorem dX2_headHolds_55 : decode cX2_headHolds 55 = .ok (.iload_n 2, 1) := by decide +kernel
theorem dX2_headHolds_56 : decode cX2_headHolds 56 = .ok (.invokevirtual 86, 3) := by decide +kernel
theorem dX2_headHolds_59 : decode cX2_headHolds 59 = .ok (.ireturn, 1) := by decide +kernel
theorem dX2_headHolds_60 : decode cX2_headHolds 60 = .ok (.aload_n 0, 1) := by decide +kernel
theorem dX2_headHolds_61 : decode cX2_headHolds 61 = .ok (.getfield 12, 3) := by decide +kernel
theorem dX2_headHolds_64 : decode cX2_headHolds 64 = .ok (.iload_n 1, 1) := by decide +kernel
theorem dX2_headHolds_65 : decode cX2_headHolds 65 = .ok (.iconst 2, 1) := by decide +kernel
theorem dX2_headHolds_66 : decode cX2_headHolds 66 = .ok (.iadd, 1) := by decide +kernel
theorem dX2_headHolds_67 : decode cX2_headHolds 67 = .ok (.invokevirtual 90, 3) := by decide +kernel
theorem dX2_headHolds_70 : decode cX2_headHolds 70 = .ok (.bipush 24, 2) := by decide +kernel
theorem dX2_headHolds_72 : decode cX2_headHolds 72 = .ok (.if_icmp .gt 17, 3) := by decide +kernel
theorem dX2_headHolds_75 : decode cX2_headHolds 75 = .ok (.aload_n 0, 1) := by decide +kernel
theorem dX2_headHolds_76 : decode cX2_headHolds 76 = .ok (.getfield 12, 3) := by decide +kernel
theorem dX2_headHolds_79 : decode cX2_headHolds 79 = .ok (.iload_n 1, 1) := by decide +kernel
theorem dX2_headHolds_80 : decode cX2_headHolds 80 = .ok (.iconst 2, 1) := by decide +kernel
theorem dX2_headHolds_81 : decode cX2_headHolds 81 = .ok (.iadd, 1) := by decide +kernel
theorem dX2_headHolds_82 : decode cX2_headHolds 82 = .ok (.invokevirtual 90, 3) := by decide +kernel
theorem dX2_headHolds_85 : decode cX2_headHolds 85 = .ok (.iload_n 3, 1) := by decide +kernel
theorem dX2_headHolds_86 : decode cX2_headHolds 86 = .ok (.if_icmp .ge 16, 3) := by decide +kernel
theorem dX2_headHolds_89 : decode cX2_headHolds 89 = .ok (.aload_n 0, 1) := by decide +kernel
theorem dX2_headHolds_90 : decode cX2_headHolds 90 = .ok (.getfield 12, 3) := by decide +kernel
theorem dX2_headHolds_93 : decode cX2_headHolds 93 = .ok (.bipush 13, 2) := by decide +kernel
theorem dX2_headHolds_95 : decode cX2_headHolds 95 = .ok (.iload_n 1, 1) := by decide +kernel
theorem dX2_headHolds_96 : decode cX2_headHolds 96 = .ok (.iconst 2, 1) := by decide +kernel
theorem dX2_headHolds_97 : decode cX2_headHolds 97 = .ok (.iadd, 1) := by decide +kernel
theorem dX2_headHolds_98 : decode cX2_headHolds 98 = .ok (.invokevirtual 86, 3) := by decide +kernel
theorem dX2_headHolds_101 : decode cX2_headHolds 101 = .ok (.ireturn, 1) := by decide +kernel
theorem dX2_headHolds_102 : decode cX2_headHolds 102 = .ok (.iload_n 1, 1) := by decide +kernel
theorem dX2_headHolds_103 : decode cX2_headHolds 103 = .ok (.bipush 8, 2) := by decide +kernel
theorem dX2_headHolds_105 : decode cX2_headHolds 105 = .ok (.iadd, 1) := by decide +kernel
theorem dX2_headHolds_106 : decode cX2_headHolds 106 = .ok (.iload_n 2, 1) := by decide +kernel
theorem dX2_headHolds_107 : decode cX2_headHolds 107 = .ok (.if_icmp .le 14, 3) := by decide +kernel
theorem dX2_headHolds_110 : decode cX2_headHolds 110 = .ok (.aload_n 0, 1) := by decide +kernel
theorem dX2_headHolds_111 : decode cX2_headHolds 111 = .ok (.getfield 12, 3) := by decide +kernel
theorem dX2_headHolds_114 : decode cX2_headHolds 114 = .ok (.bipush 14, 2) := by decide +kernel
theorem dX2_headHolds_116 : decode cX2_headHolds 116 = .ok (.iload_n 2, 1) := by decide +kernel
theorem dX2_headHolds_117 : decode cX2_headHolds 117 = .ok (.invokevirtual 86, 3) := by decide +kernel
theorem dX2_headHolds_120 : decode cX2_headHolds 120 = .ok (.ireturn, 1) := by decide +kernel
theorem dX2_headHolds_121 : decode cX2_headHolds 121 = .ok (.aload_n 0, 1) := by decide +kernel
theorem dX2_headHolds_122 : decode cX2_headHolds 122 = .ok (.getfield 12, 3) := by decide +kernel
theorem dX2_headHolds_125 : decode cX2_headHolds 125 = .ok (.iload_n 1, 1) := by decide +kernel
theorem dX2_headHolds_126 : decode cX2_headHolds 126 = .ok (.iconst 4, 1) := by decide +kernel
theorem dX2_headHolds_127 : decode cX2_headHolds 127 = .ok (.iadd, 1) := by decide +kernel
theorem dX2_headHolds_128 : decode cX2_headHolds 128 = .ok (.invokevirtual 93, 3) := by decide +kernel
theorem dX2_headHolds_131 : decode cX2_headHolds 131 = .ok (.lstore 4, 2) := by decide +kernel
theorem dX2_headHolds_133 : decode cX2_headHolds 133 = .ok (.lload 4, 2) := by decide +kernel
theorem dX2_headHolds_135 : decode cX2_headHolds 135 = .ok (.lconst 1, 1) := by decide +kernel
theorem dX2_headHolds_136 : decode cX2_headHolds 136 = .ok (.lcmp, 1) := by decide +kernel
theorem dX2_headHolds_137 : decode cX2_headHolds 137 = .ok (.ifCond .lt 12, 3) := by decide +kernel
theorem dX2_headHolds_140 : decode cX2_headHolds 140 = .ok (.lload 4, 2) := by decide +kernel
theorem dX2_headHolds_142 : decode cX2_headHolds 142 = .ok (.ldc2_w 97, 3) := by decide +kernel
theorem dX2_headHolds_145 : decode cX2_headHolds 145 = .ok (.lcmp, 1) := by decide +kernel
theorem dX2_headHolds_146 : decode cX2_headHolds 146 = .ok (.ifCond .le 16, 3) := by decide +kernel
theorem dX2_headHolds_149 : decode cX2_headHolds 149 = .ok (.aload_n 0, 1) := by decide +kernel
theorem dX2_headHolds_150 : decode cX2_headHolds 150 = .ok (.getfield 12, 3) := by decide +kernel
theorem dX2_headHolds_153 : decode cX2_headHolds 153 = .ok (.bipush 13, 2) := by decide +kernel
theorem dX2_headHolds_155 : decode cX2_headHolds 155 = .ok (.iload_n 1, 1) := by decide +kernel
theorem dX2_headHolds_156 : decode cX2_headHolds 156 = .ok (.iconst 4, 1) := by decide +kernel
theorem dX2_headHolds_157 : decode cX2_headHolds 157 = .ok (.iadd, 1) := by decide +kernel
theorem dX2_headHolds_158 : decode cX2_headHolds 158 = .ok (.invokevirtual 86, 3) := by decide +kernel
theorem dX2_headHolds_161 : decode cX2_headHolds 161 = .ok (.ireturn, 1) := by decide +kernel
theorem dX2_headHolds_162 : decode cX2_headHolds 162 = .ok (.aload_n 0, 1) := by decide +kernel
theorem dX2_headHolds_163 : decode cX2_headHolds 163 = .ok (.iload_n 1, 1) := by decide +kernel
theorem dX2_headHolds_164 : decode cX2_headHolds 164 = .ok (.bipush 8, 2) := by decide +kernel
theorem dX2_headHolds_166 : decode cX2_headHolds 166 = .ok (.iadd, 1) := by decide +kernel
theorem dX2_headHolds_167 : decode cX2_headHolds 167 = .ok (.lload 4, 2) := by decide +kernel
theorem dX2_headHolds_169 : decode cX2_headHolds 169 = .ok (.l2i, 1) := by decide +kernel
theorem dX2_headHolds_170 : decode cX2_headHolds 170 = .ok (.iadd, 1) := by decide +kernel
theorem dX2_headHolds_171 : decode cX2_headHolds 171 = .ok (.iload_n 2, 1) := by decide +kernel
theorem dX2_headHolds_172 : decode cX2_headHolds 172 = .ok (.invokevirtual 99, 3) := by decide +kernel
theorem dX2_headHolds_175 : decode cX2_headHolds 175 = .ok (.ireturn, 1) := by decide +kernel
theorem dX2_init_0 : decode cX2_init 0 = .ok (.aload_n 0, 1) := by decide +kernel
theorem dX2_init_1 : decode cX2_init 1 = .ok (.invokespecial 3, 3) := by decide +kernel
theorem dX2_init_4 : decode cX2_init 4 = .ok (.aload_n 0, 1) := by decide +kernel
theorem dX2_init_5 : decode cX2_init 5 = .ok (.new 9, 3) := by decide +kernel
theorem dX2_init_8 : decode cX2_init 8 = .ok (.dup, 1) := by decide +kernel
theorem dX2_init_9 : decode cX2_init 9 = .ok (.invokespecial 11, 3) := by decide +kernel
theorem dX2_init_12 : decode cX2_init 12 = .ok (.putfield 12, 3) := by decide +kernel
theorem dX2_init_15 : decode cX2_init 15 = .ok (.aload_n 0, 1) := by decide +kernel
theorem dX2_init_16 : decode cX2_init 16 = .ok (.sipush 1201, 3) := by decide +kernel
theorem dX2_init_19 : decode cX2_init 19 = .ok (.newarray .int, 2) := by decide +kernel
theorem dX2_init_21 : decode cX2_init 21 = .ok (.putfield 18, 3) := by decide +kernel
theorem dX2_init_24 : decode cX2_init 24 = .ok (.return_, 1) := by decide +kernel
theorem dX2_instructionsHold_0 : decode cX2_instructionsHold 0 = .ok (.iconst 0, 1) := by decide +kernel
theorem dX2_instructionsHold_1 : decode cX2_instructionsHold 1 = .ok (.istore_n 1, 1) := by decide +kernel
theorem dX2_instructionsHold_2 : decode cX2_instructionsHold 2 = .ok (.iload_n 1, 1) := by decide +kernel
theorem dX2_instructionsHold_3 : decode cX2_instructionsHold 3 = .ok (.aload_n 0, 1) := by decide +kernel
theorem dX2_instructionsHold_4 : decode cX2_instructionsHold 4 = .ok (.getfield 12, 3) := by decide +kernel

theorem dX2_headHolds_96 : decode cX2_headHolds 96 = .ok (.iconst 2, 1) := by decide +kernel
theorem dX2_headHolds_97 : decode cX2_headHolds 97 = .ok (.iadd, 1) := by decide +kernel
theorem dX2_headHolds_98 : decode cX2_headHolds 98 = .ok (.invokevirtual 86, 3) := by decide +kernel
theorem dX2_headHolds_101 : decode cX2_headHolds 101 = .ok (.ireturn, 1) := by decide +kernel
theorem dX2_headHolds_102 : decode cX2_headHolds 102 = .ok (.iload_n 1, 1) := by decide +kernel
theorem dX2_headHolds_103 : decode cX2_headHolds 103 = .ok (.bipush 8, 2) := by decide +kernel
theorem dX2_headHolds_105 : decode cX2_headHolds 105 = .ok (.iadd, 1) := by decide +kernel
theorem dX2_headHolds_106 : decode cX2_headHolds 106 = .ok (.iload_n 2, 1) := by decide +kernel
theorem dX2_headHolds_107 : decode cX2_headHolds 107 = .ok (.if_icmp .le 14, 3) := by decide +kernel
theorem dX2_headHolds_110 : decode cX2_headHolds 110 = .ok (.aload_n 0, 1) := by decide +kernel
theorem dX2_headHolds_111 : decode cX2_headHolds 111 = .ok (.getfield 12, 3) := by decide +kernel
theorem dX2_headHolds_114 : decode cX2_headHolds 114 = .ok (.bipush 14, 2) := by decide +kernel
theorem dX2_headHolds_116 : decode cX2_headHolds 116 = .ok (.iload_n 2, 1) := by decide +kernel
theorem dX2_headHolds_117 : decode cX2_headHolds 117 = .ok (.invokevirtual 86, 3) := by decide +kernel
theorem dX2_headHolds_120 : decode cX2_headHolds 120 = .ok (.ireturn, 1) := by decide +kernel
theorem dX2_headHolds_121 : decode cX2_headHolds 121 = .ok (.aload_n 0, 1) := by decide +kernel
theorem dX2_headHolds_122 : decode cX2_headHolds 122 = .ok (.getfield 12, 3) := by decide +kernel
theorem dX2_headHolds_125 : decode cX2_headHolds 125 = .ok (.iload_n 1, 1) := by decide +kernel
theorem dX2_headHolds_126 : decode cX2_headHolds 126 = .ok (.iconst 4, 1) := by decide +kernel
theorem dX2_headHolds_127 : decode cX2_headHolds 127 = .ok (.iadd, 1) := by decide +kernel
theorem dX2_headHolds_128 : decode cX2_headHolds 128 = .ok (.invokevirtual 93, 3) := by decide +kernel
theorem dX2_headHolds_131 : decode cX2_headHolds 131 = .ok (.lstore 4, 2) := by decide +kernel
theorem dX2_headHolds_133 : decode cX2_headHolds 133 = .ok (.lload 4, 2) := by decide +kernel
theorem dX2_headHolds_135 : decode cX2_headHolds 135 = .ok (.lconst 1, 1) := by decide +kernel
theorem dX2_headHolds_136 : decode cX2_headHolds 136 = .ok (.lcmp, 1) := by decide +kernel
theorem dX2_headHolds_137 : decode cX2_headHolds 137 = .ok (.ifCond .lt 12, 3) := by decide +kernel
theorem dX2_headHolds_140 : decode cX2_headHolds 140 = .ok (.lload 4, 2) := by decide +kernel
theorem dX2_headHolds_142 : decode cX2_headHolds 142 = .ok (.ldc2_w 97, 3) := by decide +kernel
theorem dX2_headHolds_145 : decode cX2_headHolds 145 = .ok (.lcmp, 1) := by decide +kernel
theorem dX2_headHolds_146 : decode cX2_headHolds 146 = .ok (.ifCond .le 16, 3) := by decide +kernel
theorem dX2_headHolds_149 : decode cX2_headHolds 149 = .ok (.aload_n 0, 1) := by decide +kernel
theorem dX2_headHolds_150 : decode cX2_headHolds 150 = .ok (.getfield 12, 3) := by decide +kernel
theorem dX2_headHolds_153 : decode cX2_headHolds 153 = .ok (.bipush 13, 2) := by decide +kernel
theorem dX2_headHolds_155 : decode cX2_headHolds 155 = .ok (.iload_n 1, 1) := by decide +kernel
theorem dX2_headHolds_156 : decode cX2_headHolds 156 = .ok (.iconst 4, 1) := by decide +kernel
theorem dX2_headHolds_157 : decode cX2_headHolds 157 = .ok (.iadd, 1) := by decide +kernel
theorem dX2_headHolds_158 : decode cX2_headHolds 158 = .ok (.invokevirtual 86, 3) := by decide +kernel
theorem dX2_headHolds_161 : decode cX2_headHolds 161 = .ok (.ireturn, 1) := by decide +kernel
theorem dX2_headHolds_162 : decode cX2_headHolds 162 = .ok (.aload_n 0, 1) := by decide +kernel
theorem dX2_headHolds_163 : decode cX2_headHolds 163 = .ok (.iload_n 1, 1) := by decide +kernel
theorem dX2_headHolds_164 : decode cX2_headHolds 164 = .ok (.bipush 8, 2) := by decide +kernel
theorem dX2_headHolds_166 : decode cX2_headHolds 166 = .ok (.iadd, 1) := by decide +kernel
theorem dX2_headHolds_167 : decode cX2_headHolds 167 = .ok (.lload 4, 2) := by decide +kernel
theorem dX2_headHolds_169 : decode cX2_headHolds 169 = .ok (.l2i, 1) := by decide +kernel
theorem dX2_headHolds_170 : decode cX2_headHolds 170 = .ok (.iadd, 1) := by decide +kernel
theorem dX2_headHolds_171 : decode cX2_headHolds 171 = .ok (.iload_n 2, 1) := by decide +kernel
theorem dX2_headHolds_172 : decode cX2_headHolds 172 = .ok (.invokevirtual 99, 3) := by decide +kernel
theorem dX2_headHolds_175 : decode cX2_headHolds 175 = .ok (.ireturn, 1) := by decide +kernel
theorem dX2_init_0 : decode cX2_init 0 = .ok (.aload_n 0, 1) := by decide +kernel
theorem dX2_init_1 : decode cX2_init 1 = .ok (.invokespecial 3, 3) := by decide +kernel
theorem dX2_init_4 : decode cX2_init 4 = .ok (.aload_n 0, 1) := by decide +kernel
theorem dX2_init_5 : decode cX2_init 5 = .ok (.new 9, 3) := by decide +kernel
theorem dX2_init_8 : decode cX2_init 8 = .ok (.dup, 1) := by decide +kernel
theorem dX2_init_9 : decode cX2_init 9 = .ok (.invokespecial 11, 3) := by decide +kernel
theorem dX2_init_12 : decode cX2_init 12 = .ok (.putfield 12, 3) := by decide +kernel
theorem dX2_init_15 : decode cX2_init 15 = .ok (.aload_n 0, 1) := by decide +kernel
theorem dX2_init_16 : decode cX2_init 16 = .ok (.sipush 1201, 3) := by decide +kernel
theorem dX2_init_19 : decode cX2_init 19 = .ok (.newarray .int, 2) := by decide +kernel
theorem dX2_init_21 : decode cX2_init 21 = .ok (.putfield 18, 3) := by decide +kernel
theorem dX2_init_24 : decode cX2_init 24 = .ok (.return_, 1) := by decide +kernel
theorem dX2_instructionsHold_0 : decode cX2_instructionsHold 0 = .ok (.iconst 0, 1) := by decide +kernel
theorem dX2_instructionsHold_1 : decode cX2_instructionsHold 1 = .ok (.istore_n 1, 1) := by decide +kernel
theorem dX2_instructionsHold_2 : decode cX2_instructionsHold 2 = .ok (.iload_n 1, 1) := by decide +kernel
theorem dX2_instructionsHold_3 : decode cX2_instructionsHold 3 = .ok (.aload_n 0, 1) := by decide +kernel
theorem dX2_instructionsHold_4 : decode cX2_instructionsHold 4 = .ok (.getfield 12, 3) := by decide +kernel
theorem dX2_instructionsHold_7 : decode cX2_instructionsHold 7 = .ok (.getfield 59, 3) := by decide +kernel
theorem dX2_instructionsHold_10 : decode cX2_instructionsHold 10 = .ok (.if_icmp .ge 59, 3) := by decide +kernel
theorem dX2_instructionsHold_13 : decode cX2_instructionsHold 13 = .ok (.aload_n 0, 1) := by decide +kernel
theorem dX2_instructionsHold_14 : decode cX2_instructionsHold 14 = .ok (.iload_n 1, 1) := by decide +kernel
theorem dX2_instructionsHold_15 : decode cX2_instructionsHold 15 = .ok (.invokevirtual 129, 3) := by decide +kernel
theorem dX2_instructionsHold_18 : decode cX2_instructionsHold 18 = .ok (.iconst 0, 1) := by decide +kernel
theorem dX2_instructionsHold_19 : decode cX2_instructionsHold 19 = .ok (.istore_n 2, 1) := by decide +kernel
theorem dX2_instructionsHold_20 : decode cX2_instructionsHold 20 = .ok (.iload_n 2, 1) := by decide +kernel
theorem dX2_instructionsHold_21 : decode cX2_instructionsHold 21 = .ok (.aload_n 0, 1) := by decide +kernel
theorem dX2_instructionsHold_22 : decode cX2_instructionsHold 22 = .ok (.getfield 117, 3) := by decide +kernel
theorem dX2_instructionsHold_25 : decode cX2_instructionsHold 25 = .ok (.if_icmp .ge 38, 3) := by decide +kernel
theorem dX2_instructionsHold_28 : decode cX2_instructionsHold 28 = .ok (.aload_n 0, 1) := by decide +kernel
theorem dX2_instructionsHold_29 : decode cX2_instructionsHold 29 = .ok (.iload_n 2, 1) := by decide +kernel
theorem dX2_instructionsHold_30 : decode cX2_instructionsHold 30 = .ok (.invokevirtual 133, 3) := by decide +kernel
theorem dX2_instructionsHold_33 : decode cX2_instructionsHold 33 = .ok (.ifCond .gt 19, 3) := by decide +kernel
theorem dX2_instructionsHold_36 : decode cX2_instructionsHold 36 = .ok (.aload_n 0, 1) := by decide +kernel
theorem dX2_instructionsHold_37 : decode cX2_instructionsHold 37 = .ok (.getfield 12, 3) := by decide +kernel
theorem dX2_instructionsHold_40 : decode cX2_instructionsHold 40 = .ok (.bipush 15, 2) := by decide +kernel
theorem dX2_instructionsHold_42 : decode cX2_instructionsHold 42 = .ok (.aload_n 0, 1) := by decide +kernel
theorem dX2_instructionsHold_43 : decode cX2_instructionsHold 43 = .ok (.getfield 120, 3) := by decide +kernel
theorem dX2_instructionsHold_46 : decode cX2_instructionsHold 46 = .ok (.iload_n 2, 1) := by decide +kernel
theorem dX2_instructionsHold_47 : decode cX2_instructionsHold 47 = .ok (.iadd, 1) := by decide +kernel
theorem dX2_instructionsHold_48 : decode cX2_instructionsHold 48 = .ok (.invokevirtual 86, 3) := by decide +kernel
theorem dX2_instructionsHold_51 : decode cX2_instructionsHold 51 = .ok (.ireturn, 1) := by decide +kernel
theorem dX2_instructionsHold_52 : decode cX2_instructionsHold 52 = .ok (.iload_n 2, 1) := by decide +kernel
theorem dX2_instructionsHold_53 : decode cX2_instructionsHold 53 = .ok (.aload_n 0, 1) := by decide +kernel
theorem dX2_instructionsHold_54 : decode cX2_instructionsHold 54 = .ok (.iload_n 2, 1) := by decide +kernel
theorem dX2_instructionsHold_55 : decode cX2_instructionsHold 55 = .ok (.invokevirtual 133, 3) := by decide +kernel
theorem dX2_instructionsHold_58 : decode cX2_instructionsHold 58 = .ok (.iadd, 1) := by decide +kernel
theorem dX2_instructionsHold_59 : decode cX2_instructionsHold 59 = .ok (.istore_n 2, 1) := by decide +kernel
theorem dX2_instructionsHold_60 : decode cX2_instructionsHold 60 = .ok (.goto (-40), 3) := by decide +kernel
theorem dX2_instructionsHold_63 : decode cX2_instructionsHold 63 = .ok (.iinc 1 1, 3) := by decide +kernel
theorem dX2_instructionsHold_66 : decode cX2_instructionsHold 66 = .ok (.goto (-64), 3) := by decide +kernel
theorem dX2_instructionsHold_69 : decode cX2_instructionsHold 69 = .ok (.iconst 1, 1) := by decide +kernel
theorem dX2_instructionsHold_70 : decode cX2_instructionsHold 70 = .ok (.ireturn, 1) := by decide +kernel
theorem dX2_isInstruction_0 : decode cX2_isInstruction 0 = .ok (.lload_n 1, 1) := by decide +kernel
theorem dX2_isInstruction_1 : decode cX2_isInstruction 1 = .ok (.aload_n 0, 1) := by decide +kernel
theorem dX2_isInstruction_2 : decode cX2_isInstruction 2 = .ok (.getfield 117, 3) := by decide +kernel
theorem dX2_isInstruction_5 : decode cX2_isInstruction 5 = .ok (.i2l, 1) := by decide +kernel
theorem dX2_isInstruction_6 : decode cX2_isInstruction 6 = .ok (.lcmp, 1) := by decide +kernel
theorem dX2_isInstruction_7 : decode cX2_isInstruction 7 = .ok (.ifCond .ge 15, 3) := by decide +kernel
theorem dX2_isInstruction_10 : decode cX2_isInstruction 10 = .ok (.aload_n 0, 1) := by decide +kernel
theorem dX2_isInstruction_11 : decode cX2_isInstruction 11 = .ok (.lload_n 1, 1) := by decide +kernel
theorem dX2_isInstruction_12 : decode cX2_isInstruction 12 = .ok (.invokevirtual 217, 3) := by decide +kernel
theorem dX2_isInstruction_15 : decode cX2_isInstruction 15 = .ok (.ifCond .lt 7, 3) := by decide +kernel
theorem dX2_isInstruction_18 : decode cX2_isInstruction 18 = .ok (.iconst 1, 1) := by decide +kernel
theorem dX2_isInstruction_19 : decode cX2_isInstruction 19 = .ok (.goto 4, 3) := by decide +kernel
theorem dX2_isInstruction_22 : decode cX2_isInstruction 22 = .ok (.iconst 0, 1) := by decide +kernel
theorem dX2_isInstruction_23 : decode cX2_isInstruction 23 = .ok (.ireturn, 1) := by decide +kernel
theorem dX2_lengthAt_0 : decode cX2_lengthAt 0 = .ok (.aload_n 0, 1) := by decide +kernel
theorem dX2_lengthAt_1 : decode cX2_lengthAt 1 = .ok (.iload_n 1, 1) := by decide +kernel
theorem dX2_lengthAt_2 : decode cX2_lengthAt 2 = .ok (.invokevirtual 139, 3) := by decide +kernel
theorem dX2_lengthAt_5 : decode cX2_lengthAt 5 = .ok (.lookupswitch 96 #[(170, 43), (171, 52), (188, 75), (196, 61)], 43) := by decide +kernel
theorem dX2_lengthAt_48 : decode cX2_lengthAt 48 = .ok (.aload_n 0, 1) := by decide +kernel
theorem dX2_lengthAt_49 : decode cX2_lengthAt 49 = .ok (.iload_n 1, 1) := by decide +kernel
theorem dX2_lengthAt_50 : decode cX2_lengthAt 50 = .ok (.invokevirtual 140, 3) := by decide +kernel
theorem dX2_lengthAt_53 : decode cX2_lengthAt 53 = .ok (.istore_n 2, 1) := by decide +kernel
theorem dX2_lengthAt_54 : decode cX2_lengthAt 54 = .ok (.goto 56, 3) := by decide +kernel
theorem dX2_lengthAt_57 : decode cX2_lengthAt 57 = .ok (.aload_n 0, 1) := by decide +kernel
theorem dX2_lengthAt_58 : decode cX2_lengthAt 58 = .ok (.iload_n 1, 1) := by decide +kernel
theorem dX2_lengthAt_59 : decode cX2_lengthAt 59 = .ok (.invokevirtual 143, 3) := by decide +kernel
theorem dX2_lengthAt_62 : decode cX2_lengthAt 62 = .ok (.istore_n 2, 1) := by decide +kernel
theorem dX2_lengthAt_63 : decode cX2_lengthAt 63 = .ok (.goto 47, 3) := by decide +kernel
theorem dX2_lengthAt_66 : decode cX2_lengthAt 66 = .ok (.aload_n 0, 1) := by decide +kernel
theorem dX2_lengthAt_67 : decode cX2_lengthAt 67 = .ok (.iload_n 1, 1) := by decide +kernel
theorem dX2_lengthAt_68 : decode cX2_lengthAt 68 = .ok (.iconst 1, 1) := by decide +kernel
theorem dX2_lengthAt_69 : decode cX2_lengthAt 69 = .ok (.iadd, 1) := by decide +kernel
theorem dX2_lengthAt_70 : decode cX2_lengthAt 70 = .ok (.invokevirtual 139, 3) := by decide +kernel
theorem dX2_lengthAt_73 : decode cX2_lengthAt 73 = .ok (.invokestatic 146, 3) := by decide +kernel
theorem dX2_lengthAt_76 : decode cX2_lengthAt 76 = .ok (.istore_n 2, 1) := by decide +kernel
theorem dX2_lengthAt_77 : decode cX2_lengthAt 77 = .ok (.goto 33, 3) := by decide +kernel
theorem dX2_lengthAt_80 : decode cX2_lengthAt 80 = .ok (.aload_n 0, 1) := by decide +kernel
theorem dX2_lengthAt_81 : decode cX2_lengthAt 81 = .ok (.iload_n 1, 1) := by decide +kernel
theorem dX2_lengthAt_82 : decode cX2_lengthAt 82 = .ok (.iconst 1, 1) := by decide +kernel
theorem dX2_lengthAt_83 : decode cX2_lengthAt 83 = .ok (.iadd, 1) := by decide +kernel
theorem dX2_lengthAt_84 : decode cX2_lengthAt 84 = .ok (.invokevirtual 139, 3) := by decide +kernel
theorem dX2_lengthAt_87 : decode cX2_lengthAt 87 = .ok (.bipush 10, 2) := by decide +kernel
theorem dX2_lengthAt_89 : decode cX2_lengthAt 89 = .ok (.if_icmp .ne 7, 3) := by decide +kernel
theorem dX2_lengthAt_92 : decode cX2_lengthAt 92 = .ok (.iconst 2, 1) := by decide +kernel
theorem dX2_lengthAt_93 : decode cX2_lengthAt 93 = .ok (.goto 4, 3) := by decide +kernel
theorem dX2_lengthAt_96 : decode cX2_lengthAt 96 = .ok (.iconst 0, 1) := by decide +kernel
theorem dX2_lengthAt_97 : decode cX2_lengthAt 97 = .ok (.istore_n 2, 1) := by decide +kernel
theorem dX2_lengthAt_98 : decode cX2_lengthAt 98 = .ok (.goto 12, 3) := by decide +kernel
theorem dX2_lengthAt_101 : decode cX2_lengthAt 101 = .ok (.aload_n 0, 1) := by decide +kernel
theorem dX2_lengthAt_102 : decode cX2_lengthAt 102 = .ok (.iload_n 1, 1) := by decide +kernel

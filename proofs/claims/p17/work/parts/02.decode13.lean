theorem dX11_putInstruction_98 : decode cX11_putInstruction 98 = .ok (.iload_n 3, 1) := by decide +kernel
theorem dX11_putInstruction_99 : decode cX11_putInstruction 99 = .ok (.bipush 17, 2) := by decide +kernel
theorem dX11_putInstruction_101 : decode cX11_putInstruction 101 = .ok (.if_icmp .ne 19, 3) := by decide +kernel
theorem dX11_putInstruction_104 : decode cX11_putInstruction 104 = .ok (.aload_n 0, 1) := by decide +kernel
theorem dX11_putInstruction_105 : decode cX11_putInstruction 105 = .ok (.lload 4, 2) := by decide +kernel
theorem dX11_putInstruction_107 : decode cX11_putInstruction 107 = .ok (.l2i, 1) := by decide +kernel
theorem dX11_putInstruction_108 : decode cX11_putInstruction 108 = .ok (.aload_n 0, 1) := by decide +kernel
theorem dX11_putInstruction_109 : decode cX11_putInstruction 109 = .ok (.getfield 50, 3) := by decide +kernel
theorem dX11_putInstruction_112 : decode cX11_putInstruction 112 = .ok (.iload_n 1, 1) := by decide +kernel
theorem dX11_putInstruction_113 : decode cX11_putInstruction 113 = .ok (.iaload, 1) := by decide +kernel
theorem dX11_putInstruction_114 : decode cX11_putInstruction 114 = .ok (.invokevirtual 318, 3) := by decide +kernel
theorem dX11_putInstruction_117 : decode cX11_putInstruction 117 = .ok (.goto 115, 3) := by decide +kernel
theorem dX11_putInstruction_120 : decode cX11_putInstruction 120 = .ok (.iload_n 3, 1) := by decide +kernel
theorem dX11_putInstruction_121 : decode cX11_putInstruction 121 = .ok (.bipush 20, 2) := by decide +kernel
theorem dX11_putInstruction_123 : decode cX11_putInstruction 123 = .ok (.if_icmp .ne 18, 3) := by decide +kernel
theorem dX11_putInstruction_126 : decode cX11_putInstruction 126 = .ok (.aload_n 0, 1) := by decide +kernel
theorem dX11_putInstruction_127 : decode cX11_putInstruction 127 = .ok (.lload 4, 2) := by decide +kernel
theorem dX11_putInstruction_129 : decode cX11_putInstruction 129 = .ok (.aload_n 0, 1) := by decide +kernel
theorem dX11_putInstruction_130 : decode cX11_putInstruction 130 = .ok (.getfield 50, 3) := by decide +kernel
theorem dX11_putInstruction_133 : decode cX11_putInstruction 133 = .ok (.iload_n 1, 1) := by decide +kernel
theorem dX11_putInstruction_134 : decode cX11_putInstruction 134 = .ok (.iaload, 1) := by decide +kernel
theorem dX11_putInstruction_135 : decode cX11_putInstruction 135 = .ok (.invokevirtual 321, 3) := by decide +kernel
theorem dX11_putInstruction_138 : decode cX11_putInstruction 138 = .ok (.goto 94, 3) := by decide +kernel
theorem dX11_putInstruction_141 : decode cX11_putInstruction 141 = .ok (.iload_n 3, 1) := by decide +kernel
theorem dX11_putInstruction_142 : decode cX11_putInstruction 142 = .ok (.sipush 132, 3) := by decide +kernel
theorem dX11_putInstruction_145 : decode cX11_putInstruction 145 = .ok (.if_icmp .ne 26, 3) := by decide +kernel
theorem dX11_putInstruction_148 : decode cX11_putInstruction 148 = .ok (.aload_n 0, 1) := by decide +kernel
theorem dX11_putInstruction_149 : decode cX11_putInstruction 149 = .ok (.aload_n 0, 1) := by decide +kernel
theorem dX11_putInstruction_150 : decode cX11_putInstruction 150 = .ok (.getfield 180, 3) := by decide +kernel
theorem dX11_putInstruction_153 : decode cX11_putInstruction 153 = .ok (.iload_n 1, 1) := by decide +kernel
theorem dX11_putInstruction_154 : decode cX11_putInstruction 154 = .ok (.invokevirtual 246, 3) := by decide +kernel
theorem dX11_putInstruction_157 : decode cX11_putInstruction 157 = .ok (.aload_n 0, 1) := by decide +kernel
theorem dX11_putInstruction_158 : decode cX11_putInstruction 158 = .ok (.getfield 180, 3) := by decide +kernel
theorem dX11_putInstruction_161 : decode cX11_putInstruction 161 = .ok (.iload_n 1, 1) := by decide +kernel
theorem dX11_putInstruction_162 : decode cX11_putInstruction 162 = .ok (.invokevirtual 295, 3) := by decide +kernel
theorem dX11_putInstruction_165 : decode cX11_putInstruction 165 = .ok (.invokevirtual 325, 3) := by decide +kernel
theorem dX11_putInstruction_168 : decode cX11_putInstruction 168 = .ok (.goto 64, 3) := by decide +kernel
theorem dX11_putInstruction_171 : decode cX11_putInstruction 171 = .ok (.aload_n 0, 1) := by decide +kernel
theorem dX11_putInstruction_172 : decode cX11_putInstruction 172 = .ok (.getfield 18, 3) := by decide +kernel
theorem dX11_putInstruction_175 : decode cX11_putInstruction 175 = .ok (.iload_n 3, 1) := by decide +kernel
theorem dX11_putInstruction_176 : decode cX11_putInstruction 176 = .ok (.invokevirtual 129, 3) := by decide +kernel
theorem dX11_putInstruction_179 : decode cX11_putInstruction 179 = .ok (.iload_n 3, 1) := by decide +kernel
theorem dX11_putInstruction_180 : decode cX11_putInstruction 180 = .ok (.sipush 178, 3) := by decide +kernel
theorem dX11_putInstruction_183 : decode cX11_putInstruction 183 = .ok (.if_icmp .eq 17, 3) := by decide +kernel
theorem dX11_putInstruction_186 : decode cX11_putInstruction 186 = .ok (.iload_n 3, 1) := by decide +kernel
theorem dX11_putInstruction_187 : decode cX11_putInstruction 187 = .ok (.sipush 179, 3) := by decide +kernel
theorem dX11_putInstruction_190 : decode cX11_putInstruction 190 = .ok (.if_icmp .eq 10, 3) := by decide +kernel
theorem dX11_putInstruction_193 : decode cX11_putInstruction 193 = .ok (.iload_n 3, 1) := by decide +kernel
theorem dX11_putInstruction_194 : decode cX11_putInstruction 194 = .ok (.sipush 184, 3) := by decide +kernel
theorem dX11_putInstruction_197 : decode cX11_putInstruction 197 = .ok (.if_icmp .ne 19, 3) := by decide +kernel
theorem dX11_putInstruction_200 : decode cX11_putInstruction 200 = .ok (.aload_n 0, 1) := by decide +kernel
theorem dX11_putInstruction_201 : decode cX11_putInstruction 201 = .ok (.getfield 18, 3) := by decide +kernel
theorem dX11_putInstruction_204 : decode cX11_putInstruction 204 = .ok (.aload_n 0, 1) := by decide +kernel
theorem dX11_putInstruction_205 : decode cX11_putInstruction 205 = .ok (.getfield 50, 3) := by decide +kernel
theorem dX11_putInstruction_208 : decode cX11_putInstruction 208 = .ok (.iload_n 1, 1) := by decide +kernel
theorem dX11_putInstruction_209 : decode cX11_putInstruction 209 = .ok (.iaload, 1) := by decide +kernel
theorem dX11_putInstruction_210 : decode cX11_putInstruction 210 = .ok (.invokevirtual 105, 3) := by decide +kernel
theorem dX11_putInstruction_213 : decode cX11_putInstruction 213 = .ok (.goto 19, 3) := by decide +kernel
theorem dX11_putInstruction_216 : decode cX11_putInstruction 216 = .ok (.iload_n 3, 1) := by decide +kernel
theorem dX11_putInstruction_217 : decode cX11_putInstruction 217 = .ok (.sipush 188, 3) := by decide +kernel
theorem dX11_putInstruction_220 : decode cX11_putInstruction 220 = .ok (.if_icmp .ne 12, 3) := by decide +kernel
theorem dX11_putInstruction_223 : decode cX11_putInstruction 223 = .ok (.aload_n 0, 1) := by decide +kernel
theorem dX11_putInstruction_224 : decode cX11_putInstruction 224 = .ok (.getfield 18, 3) := by decide +kernel
theorem dX11_putInstruction_227 : decode cX11_putInstruction 227 = .ok (.bipush 10, 2) := by decide +kernel
theorem dX11_putInstruction_229 : decode cX11_putInstruction 229 = .ok (.invokevirtual 129, 3) := by decide +kernel
theorem dX11_putInstruction_232 : decode cX11_putInstruction 232 = .ok (.return_, 1) := by decide +kernel
theorem dX11_putInt_0 : decode cX11_putInt 0 = .ok (.iload_n 1, 1) := by decide +kernel
theorem dX11_putInt_1 : decode cX11_putInt 1 = .ok (.iconst (-1), 1) := by decide +kernel
theorem dX11_putInt_2 : decode cX11_putInt 2 = .ok (.if_icmp .lt 21, 3) := by decide +kernel
theorem dX11_putInt_5 : decode cX11_putInt 5 = .ok (.iload_n 1, 1) := by decide +kernel
theorem dX11_putInt_6 : decode cX11_putInt 6 = .ok (.iconst 5, 1) := by decide +kernel
theorem dX11_putInt_7 : decode cX11_putInt 7 = .ok (.if_icmp .gt 16, 3) := by decide +kernel
theorem dX11_putInt_10 : decode cX11_putInt 10 = .ok (.aload_n 0, 1) := by decide +kernel
theorem dX11_putInt_11 : decode cX11_putInt 11 = .ok (.getfield 18, 3) := by decide +kernel
theorem dX11_putInt_14 : decode cX11_putInt 14 = .ok (.iload_n 1, 1) := by decide +kernel
theorem dX11_putInt_15 : decode cX11_putInt 15 = .ok (.iconst 3, 1) := by decide +kernel
theorem dX11_putInt_16 : decode cX11_putInt 16 = .ok (.iadd, 1) := by decide +kernel
theorem dX11_putInt_17 : decode cX11_putInt 17 = .ok (.invokevirtual 129, 3) := by decide +kernel
theorem dX11_putInt_20 : decode cX11_putInt 20 = .ok (.goto 101, 3) := by decide +kernel
theorem dX11_putInt_23 : decode cX11_putInt 23 = .ok (.iload_n 1, 1) := by decide +kernel
theorem dX11_putInt_24 : decode cX11_putInt 24 = .ok (.i2l, 1) := by decide +kernel
theorem dX11_putInt_25 : decode cX11_putInt 25 = .ok (.invokestatic 298, 3) := by decide +kernel
theorem dX11_putInt_28 : decode cX11_putInt 28 = .ok (.ifCond .eq 23, 3) := by decide +kernel
theorem dX11_putInt_31 : decode cX11_putInt 31 = .ok (.aload_n 0, 1) := by decide +kernel
theorem dX11_putInt_32 : decode cX11_putInt 32 = .ok (.getfield 18, 3) := by decide +kernel
theorem dX11_putInt_35 : decode cX11_putInt 35 = .ok (.bipush 16, 2) := by decide +kernel
theorem dX11_putInt_37 : decode cX11_putInt 37 = .ok (.invokevirtual 129, 3) := by decide +kernel
theorem dX11_putInt_40 : decode cX11_putInt 40 = .ok (.aload_n 0, 1) := by decide +kernel
theorem dX11_putInt_41 : decode cX11_putInt 41 = .ok (.getfield 18, 3) := by decide +kernel
theorem dX11_putInt_44 : decode cX11_putInt 44 = .ok (.iload_n 1, 1) := by decide +kernel
theorem dX11_putInt_45 : decode cX11_putInt 45 = .ok (.invokevirtual 129, 3) := by decide +kernel
theorem dX11_putInt_48 : decode cX11_putInt 48 = .ok (.goto 73, 3) := by decide +kernel
theorem dX11_putInt_51 : decode cX11_putInt 51 = .ok (.iload_n 1, 1) := by decide +kernel
theorem dX11_putInt_52 : decode cX11_putInt 52 = .ok (.iload_n 1, 1) := by decide +kernel
theorem dX11_putInt_53 : decode cX11_putInt 53 = .ok (.i2s, 1) := by decide +kernel
theorem dX11_putInt_54 : decode cX11_putInt 54 = .ok (.if_icmp .ne 23, 3) := by decide +kernel
theorem dX11_putInt_57 : decode cX11_putInt 57 = .ok (.aload_n 0, 1) := by decide +kernel
theorem dX11_putInt_58 : decode cX11_putInt 58 = .ok (.getfield 18, 3) := by decide +kernel
theorem dX11_putInt_61 : decode cX11_putInt 61 = .ok (.bipush 17, 2) := by decide +kernel
theorem dX11_putInt_63 : decode cX11_putInt 63 = .ok (.invokevirtual 129, 3) := by decide +kernel
theorem dX11_putInt_66 : decode cX11_putInt 66 = .ok (.aload_n 0, 1) := by decide +kernel
theorem dX11_putInt_67 : decode cX11_putInt 67 = .ok (.getfield 18, 3) := by decide +kernel
theorem dX11_putInt_70 : decode cX11_putInt 70 = .ok (.iload_n 1, 1) := by decide +kernel
theorem dX11_putInt_71 : decode cX11_putInt 71 = .ok (.invokevirtual 105, 3) := by decide +kernel
theorem dX11_putInt_74 : decode cX11_putInt 74 = .ok (.goto 47, 3) := by decide +kernel
theorem dX11_putInt_77 : decode cX11_putInt 77 = .ok (.iload_n 2, 1) := by decide +kernel
theorem dX11_putInt_78 : decode cX11_putInt 78 = .ok (.sipush 256, 3) := by decide +kernel
theorem dX11_putInt_81 : decode cX11_putInt 81 = .ok (.if_icmp .ge 23, 3) := by decide +kernel
theorem dX11_putInt_84 : decode cX11_putInt 84 = .ok (.aload_n 0, 1) := by decide +kernel
theorem dX11_putInt_85 : decode cX11_putInt 85 = .ok (.getfield 18, 3) := by decide +kernel
theorem dX11_putInt_88 : decode cX11_putInt 88 = .ok (.bipush 18, 2) := by decide +kernel
theorem dX11_putInt_90 : decode cX11_putInt 90 = .ok (.invokevirtual 129, 3) := by decide +kernel
theorem dX11_putInt_93 : decode cX11_putInt 93 = .ok (.aload_n 0, 1) := by decide +kernel
theorem dX11_putInt_94 : decode cX11_putInt 94 = .ok (.getfield 18, 3) := by decide +kernel
theorem dX11_putInt_97 : decode cX11_putInt 97 = .ok (.iload_n 2, 1) := by decide +kernel
theorem dX11_putInt_98 : decode cX11_putInt 98 = .ok (.invokevirtual 129, 3) := by decide +kernel
theorem dX11_putInt_101 : decode cX11_putInt 101 = .ok (.goto 20, 3) := by decide +kernel
theorem dX11_putInt_104 : decode cX11_putInt 104 = .ok (.aload_n 0, 1) := by decide +kernel
theorem dX11_putInt_105 : decode cX11_putInt 105 = .ok (.getfield 18, 3) := by decide +kernel
theorem dX11_putInt_108 : decode cX11_putInt 108 = .ok (.bipush 19, 2) := by decide +kernel
theorem dX11_putInt_110 : decode cX11_putInt 110 = .ok (.invokevirtual 129, 3) := by decide +kernel
theorem dX11_putInt_113 : decode cX11_putInt 113 = .ok (.aload_n 0, 1) := by decide +kernel
theorem dX11_putInt_114 : decode cX11_putInt 114 = .ok (.getfield 18, 3) := by decide +kernel
theorem dX11_putInt_117 : decode cX11_putInt 117 = .ok (.iload_n 2, 1) := by decide +kernel
theorem dX11_putInt_118 : decode cX11_putInt 118 = .ok (.invokevirtual 105, 3) := by decide +kernel
theorem dX11_putInt_121 : decode cX11_putInt 121 = .ok (.return_, 1) := by decide +kernel
theorem dX11_putLocal_0 : decode cX11_putLocal 0 = .ok (.iload_n 2, 1) := by decide +kernel
theorem dX11_putLocal_1 : decode cX11_putLocal 1 = .ok (.iconst 3, 1) := by decide +kernel
theorem dX11_putLocal_2 : decode cX11_putLocal 2 = .ok (.if_icmp .le 20, 3) := by decide +kernel
theorem dX11_putLocal_5 : decode cX11_putLocal 5 = .ok (.aload_n 0, 1) := by decide +kernel
theorem dX11_putLocal_6 : decode cX11_putLocal 6 = .ok (.getfield 18, 3) := by decide +kernel
theorem dX11_putLocal_9 : decode cX11_putLocal 9 = .ok (.iload_n 1, 1) := by decide +kernel
theorem dX11_putLocal_10 : decode cX11_putLocal 10 = .ok (.invokevirtual 129, 3) := by decide +kernel
theorem dX11_putLocal_13 : decode cX11_putLocal 13 = .ok (.aload_n 0, 1) := by decide +kernel
theorem dX11_putLocal_14 : decode cX11_putLocal 14 = .ok (.getfield 18, 3) := by decide +kernel
theorem dX11_putLocal_17 : decode cX11_putLocal 17 = .ok (.iload_n 2, 1) := by decide +kernel
theorem dX11_putLocal_18 : decode cX11_putLocal 18 = .ok (.invokevirtual 129, 3) := by decide +kernel
theorem dX11_putLocal_21 : decode cX11_putLocal 21 = .ok (.return_, 1) := by decide +kernel
theorem dX11_putLocal_22 : decode cX11_putLocal 22 = .ok (.iload_n 1, 1) := by decide +kernel
theorem dX11_putLocal_23 : decode cX11_putLocal 23 = .ok (.lookupswitch 119 #[(21, 49), (22, 63), (25, 77), (54, 91), (55, 105)], 49) := by decide +kernel
theorem dX11_putLocal_72 : decode cX11_putLocal 72 = .ok (.aload_n 0, 1) := by decide +kernel
theorem dX11_putLocal_73 : decode cX11_putLocal 73 = .ok (.getfield 18, 3) := by decide +kernel
theorem dX11_putLocal_76 : decode cX11_putLocal 76 = .ok (.bipush 26, 2) := by decide +kernel
theorem dX11_putLocal_78 : decode cX11_putLocal 78 = .ok (.iload_n 2, 1) := by decide +kernel
theorem dX11_putLocal_79 : decode cX11_putLocal 79 = .ok (.iadd, 1) := by decide +kernel
theorem dX11_putLocal_80 : decode cX11_putLocal 80 = .ok (.invokevirtual 129, 3) := by decide +kernel
theorem dX11_putLocal_83 : decode cX11_putLocal 83 = .ok (.goto 70, 3) := by decide +kernel
theorem dX11_putLocal_86 : decode cX11_putLocal 86 = .ok (.aload_n 0, 1) := by decide +kernel
theorem dX11_putLocal_87 : decode cX11_putLocal 87 = .ok (.getfield 18, 3) := by decide +kernel
theorem dX11_putLocal_90 : decode cX11_putLocal 90 = .ok (.bipush 30, 2) := by decide +kernel

theorem dX11_pointersEntry_22 : decode cX11_pointersEntry 22 = .ok (.invokevirtual 160, 3) := by decide +kernel
theorem dX11_pointersEntry_25 : decode cX11_pointersEntry 25 = .ok (.ireturn, 1) := by decide +kernel
theorem dX11_putGrow_0 : decode cX11_putGrow 0 = .ok (.iload_n 2, 1) := by decide +kernel
theorem dX11_putGrow_1 : decode cX11_putGrow 1 = .ok (.i2l, 1) := by decide +kernel
theorem dX11_putGrow_2 : decode cX11_putGrow 2 = .ok (.invokestatic 298, 3) := by decide +kernel
theorem dX11_putGrow_5 : decode cX11_putGrow 5 = .ok (.ifCond .eq 32, 3) := by decide +kernel
theorem dX11_putGrow_8 : decode cX11_putGrow 8 = .ok (.aload_n 0, 1) := by decide +kernel
theorem dX11_putGrow_9 : decode cX11_putGrow 9 = .ok (.getfield 18, 3) := by decide +kernel
theorem dX11_putGrow_12 : decode cX11_putGrow 12 = .ok (.sipush 132, 3) := by decide +kernel
theorem dX11_putGrow_15 : decode cX11_putGrow 15 = .ok (.invokevirtual 129, 3) := by decide +kernel
theorem dX11_putGrow_18 : decode cX11_putGrow 18 = .ok (.aload_n 0, 1) := by decide +kernel
theorem dX11_putGrow_19 : decode cX11_putGrow 19 = .ok (.getfield 18, 3) := by decide +kernel
theorem dX11_putGrow_22 : decode cX11_putGrow 22 = .ok (.iload_n 1, 1) := by decide +kernel
theorem dX11_putGrow_23 : decode cX11_putGrow 23 = .ok (.invokevirtual 129, 3) := by decide +kernel
theorem dX11_putGrow_26 : decode cX11_putGrow 26 = .ok (.aload_n 0, 1) := by decide +kernel
theorem dX11_putGrow_27 : decode cX11_putGrow 27 = .ok (.getfield 18, 3) := by decide +kernel
theorem dX11_putGrow_30 : decode cX11_putGrow 30 = .ok (.iload_n 2, 1) := by decide +kernel
theorem dX11_putGrow_31 : decode cX11_putGrow 31 = .ok (.invokevirtual 129, 3) := by decide +kernel
theorem dX11_putGrow_34 : decode cX11_putGrow 34 = .ok (.goto 39, 3) := by decide +kernel
theorem dX11_putGrow_37 : decode cX11_putGrow 37 = .ok (.aload_n 0, 1) := by decide +kernel
theorem dX11_putGrow_38 : decode cX11_putGrow 38 = .ok (.getfield 18, 3) := by decide +kernel
theorem dX11_putGrow_41 : decode cX11_putGrow 41 = .ok (.sipush 196, 3) := by decide +kernel
theorem dX11_putGrow_44 : decode cX11_putGrow 44 = .ok (.invokevirtual 129, 3) := by decide +kernel
theorem dX11_putGrow_47 : decode cX11_putGrow 47 = .ok (.aload_n 0, 1) := by decide +kernel
theorem dX11_putGrow_48 : decode cX11_putGrow 48 = .ok (.getfield 18, 3) := by decide +kernel
theorem dX11_putGrow_51 : decode cX11_putGrow 51 = .ok (.sipush 132, 3) := by decide +kernel
theorem dX11_putGrow_54 : decode cX11_putGrow 54 = .ok (.invokevirtual 129, 3) := by decide +kernel
theorem dX11_putGrow_57 : decode cX11_putGrow 57 = .ok (.aload_n 0, 1) := by decide +kernel
theorem dX11_putGrow_58 : decode cX11_putGrow 58 = .ok (.getfield 18, 3) := by decide +kernel
theorem dX11_putGrow_61 : decode cX11_putGrow 61 = .ok (.iload_n 1, 1) := by decide +kernel
theorem dX11_putGrow_62 : decode cX11_putGrow 62 = .ok (.invokevirtual 105, 3) := by decide +kernel
theorem dX11_putGrow_65 : decode cX11_putGrow 65 = .ok (.aload_n 0, 1) := by decide +kernel
theorem dX11_putGrow_66 : decode cX11_putGrow 66 = .ok (.getfield 18, 3) := by decide +kernel
theorem dX11_putGrow_69 : decode cX11_putGrow 69 = .ok (.iload_n 2, 1) := by decide +kernel
theorem dX11_putGrow_70 : decode cX11_putGrow 70 = .ok (.invokevirtual 105, 3) := by decide +kernel
theorem dX11_putGrow_73 : decode cX11_putGrow 73 = .ok (.return_, 1) := by decide +kernel
theorem dX11_putInstruction_0 : decode cX11_putInstruction 0 = .ok (.aload_n 0, 1) := by decide +kernel
theorem dX11_putInstruction_1 : decode cX11_putInstruction 1 = .ok (.getfield 180, 3) := by decide +kernel
theorem dX11_putInstruction_4 : decode cX11_putInstruction 4 = .ok (.iload_n 1, 1) := by decide +kernel
theorem dX11_putInstruction_5 : decode cX11_putInstruction 5 = .ok (.invokevirtual 240, 3) := by decide +kernel
theorem dX11_putInstruction_8 : decode cX11_putInstruction 8 = .ok (.istore_n 3, 1) := by decide +kernel
theorem dX11_putInstruction_9 : decode cX11_putInstruction 9 = .ok (.aload_n 0, 1) := by decide +kernel
theorem dX11_putInstruction_10 : decode cX11_putInstruction 10 = .ok (.getfield 180, 3) := by decide +kernel
theorem dX11_putInstruction_13 : decode cX11_putInstruction 13 = .ok (.iload_n 1, 1) := by decide +kernel
theorem dX11_putInstruction_14 : decode cX11_putInstruction 14 = .ok (.invokevirtual 263, 3) := by decide +kernel
theorem dX11_putInstruction_17 : decode cX11_putInstruction 17 = .ok (.lstore 4, 2) := by decide +kernel
theorem dX11_putInstruction_19 : decode cX11_putInstruction 19 = .ok (.iload_n 3, 1) := by decide +kernel
theorem dX11_putInstruction_20 : decode cX11_putInstruction 20 = .ok (.invokestatic 280, 3) := by decide +kernel
theorem dX11_putInstruction_23 : decode cX11_putInstruction 23 = .ok (.ifCond .ne 10, 3) := by decide +kernel
theorem dX11_putInstruction_26 : decode cX11_putInstruction 26 = .ok (.iload_n 3, 1) := by decide +kernel
theorem dX11_putInstruction_27 : decode cX11_putInstruction 27 = .ok (.invokestatic 283, 3) := by decide +kernel
theorem dX11_putInstruction_30 : decode cX11_putInstruction 30 = .ok (.ifCond .eq 14, 3) := by decide +kernel
theorem dX11_putInstruction_33 : decode cX11_putInstruction 33 = .ok (.aload_n 0, 1) := by decide +kernel
theorem dX11_putInstruction_34 : decode cX11_putInstruction 34 = .ok (.iload_n 3, 1) := by decide +kernel
theorem dX11_putInstruction_35 : decode cX11_putInstruction 35 = .ok (.lload 4, 2) := by decide +kernel
theorem dX11_putInstruction_37 : decode cX11_putInstruction 37 = .ok (.l2i, 1) := by decide +kernel
theorem dX11_putInstruction_38 : decode cX11_putInstruction 38 = .ok (.invokevirtual 309, 3) := by decide +kernel
theorem dX11_putInstruction_41 : decode cX11_putInstruction 41 = .ok (.goto 191, 3) := by decide +kernel
theorem dX11_putInstruction_44 : decode cX11_putInstruction 44 = .ok (.iload_n 3, 1) := by decide +kernel
theorem dX11_putInstruction_45 : decode cX11_putInstruction 45 = .ok (.invokestatic 288, 3) := by decide +kernel
theorem dX11_putInstruction_48 : decode cX11_putInstruction 48 = .ok (.ifCond .eq 34, 3) := by decide +kernel
theorem dX11_putInstruction_51 : decode cX11_putInstruction 51 = .ok (.aload_n 0, 1) := by decide +kernel
theorem dX11_putInstruction_52 : decode cX11_putInstruction 52 = .ok (.getfield 18, 3) := by decide +kernel
theorem dX11_putInstruction_55 : decode cX11_putInstruction 55 = .ok (.iload_n 3, 1) := by decide +kernel
theorem dX11_putInstruction_56 : decode cX11_putInstruction 56 = .ok (.invokevirtual 129, 3) := by decide +kernel
theorem dX11_putInstruction_59 : decode cX11_putInstruction 59 = .ok (.aload_n 0, 1) := by decide +kernel
theorem dX11_putInstruction_60 : decode cX11_putInstruction 60 = .ok (.getfield 18, 3) := by decide +kernel
theorem dX11_putInstruction_63 : decode cX11_putInstruction 63 = .ok (.aload_n 0, 1) := by decide +kernel
theorem dX11_putInstruction_64 : decode cX11_putInstruction 64 = .ok (.lload 4, 2) := by decide +kernel
theorem dX11_putInstruction_66 : decode cX11_putInstruction 66 = .ok (.l2i, 1) := by decide +kernel
theorem dX11_putInstruction_67 : decode cX11_putInstruction 67 = .ok (.invokevirtual 213, 3) := by decide +kernel
theorem dX11_putInstruction_70 : decode cX11_putInstruction 70 = .ok (.aload_n 0, 1) := by decide +kernel
theorem dX11_putInstruction_71 : decode cX11_putInstruction 71 = .ok (.iload_n 1, 1) := by decide +kernel
theorem dX11_putInstruction_72 : decode cX11_putInstruction 72 = .ok (.invokevirtual 213, 3) := by decide +kernel
theorem dX11_putInstruction_75 : decode cX11_putInstruction 75 = .ok (.isub, 1) := by decide +kernel
theorem dX11_putInstruction_76 : decode cX11_putInstruction 76 = .ok (.invokevirtual 105, 3) := by decide +kernel
theorem dX11_putInstruction_79 : decode cX11_putInstruction 79 = .ok (.goto 153, 3) := by decide +kernel
theorem dX11_putInstruction_82 : decode cX11_putInstruction 82 = .ok (.iload_n 3, 1) := by decide +kernel
theorem dX11_putInstruction_83 : decode cX11_putInstruction 83 = .ok (.invokestatic 312, 3) := by decide +kernel
theorem dX11_putInstruction_86 : decode cX11_putInstruction 86 = .ok (.ifCond .eq 12, 3) := by decide +kernel
theorem dX11_putInstruction_89 : decode cX11_putInstruction 89 = .ok (.aload_n 0, 1) := by decide +kernel
theorem dX11_putInstruction_90 : decode cX11_putInstruction 90 = .ok (.iload_n 1, 1) := by decide +kernel
theorem dX11_putInstruction_91 : decode cX11_putInstruction 91 = .ok (.iload_n 2, 1) := by decide +kernel
theorem dX11_putInstruction_92 : decode cX11_putInstruction 92 = .ok (.invokevirtual 315, 3) := by decide +kernel
theorem dX11_putInstruction_95 : decode cX11_putInstruction 95 = .ok (.goto 137, 3) := by decide +kernel
theorem dX11_putInstruction_98 : decode cX11_putInstruction 98 = .ok (.iload_n 3, 1) := by decide +kernel
theorem dX11_putInstruction_99 : decode cX11_putInstruction 99 = .ok (.bipush 17, 2) := by decide +kernel
theorem dX11_putInstruction_101 : decode cX11_putInstruction 101 = .ok (.if_icmp .ne 19, 3) := by decide +kernel
theorem dX11_putInstruction_104 : decode cX11_putInstruction 104 = .ok (.aload_n 0, 1) := by decide +kernel
theorem dX11_putInstruction_105 : decode cX11_putInstruction 105 = .ok (.lload 4, 2) := by decide +kernel
theorem dX11_putInstruction_107 : decode cX11_putInstruction 107 = .ok (.l2i, 1) := by decide +kernel
theorem dX11_putInstruction_108 : decode cX11_putInstruction 108 = .ok (.aload_n 0, 1) := by decide +kernel
theorem dX11_putInstruction_109 : decode cX11_putInstruction 109 = .ok (.getfield 50, 3) := by decide +kernel
theorem dX11_putInstruction_112 : decode cX11_putInstruction 112 = .ok (.iload_n 1, 1) := by decide +kernel
theorem dX11_putInstruction_113 : decode cX11_putInstruction 113 = .ok (.iaload, 1) := by decide +kernel
theorem dX11_putInstruction_114 : decode cX11_putInstruction 114 = .ok (.invokevirtual 318, 3) := by decide +kernel
theorem dX11_putInstruction_117 : decode cX11_putInstruction 117 = .ok (.goto 115, 3) := by decide +kernel
theorem dX11_putInstruction_120 : decode cX11_putInstruction 120 = .ok (.iload_n 3, 1) := by decide +kernel
theorem dX11_putInstruction_121 : decode cX11_putInstruction 121 = .ok (.bipush 20, 2) := by decide +kernel
theorem dX11_putInstruction_123 : decode cX11_putInstruction 123 = .ok (.if_icmp .ne 18, 3) := by decide +kernel
theorem dX11_putInstruction_126 : decode cX11_putInstruction 126 = .ok (.aload_n 0, 1) := by decide +kernel
theorem dX11_putInstruction_127 : decode cX11_putInstruction 127 = .ok (.lload 4, 2) := by decide +kernel
theorem dX11_putInstruction_129 : decode cX11_putInstruction 129 = .ok (.aload_n 0, 1) := by decide +kernel
theorem dX11_putInstruction_130 : decode cX11_putInstruction 130 = .ok (.getfield 50, 3) := by decide +kernel
theorem dX11_putInstruction_133 : decode cX11_putInstruction 133 = .ok (.iload_n 1, 1) := by decide +kernel
theorem dX11_putInstruction_134 : decode cX11_putInstruction 134 = .ok (.iaload, 1) := by decide +kernel
theorem dX11_putInstruction_135 : decode cX11_putInstruction 135 = .ok (.invokevirtual 321, 3) := by decide +kernel
theorem dX11_putInstruction_138 : decode cX11_putInstruction 138 = .ok (.goto 94, 3) := by decide +kernel
theorem dX11_putInstruction_141 : decode cX11_putInstruction 141 = .ok (.iload_n 3, 1) := by decide +kernel
theorem dX11_putInstruction_142 : decode cX11_putInstruction 142 = .ok (.sipush 132, 3) := by decide +kernel
theorem dX11_putInstruction_145 : decode cX11_putInstruction 145 = .ok (.if_icmp .ne 26, 3) := by decide +kernel
theorem dX11_putInstruction_148 : decode cX11_putInstruction 148 = .ok (.aload_n 0, 1) := by decide +kernel
theorem dX11_putInstruction_149 : decode cX11_putInstruction 149 = .ok (.aload_n 0, 1) := by decide +kernel
theorem dX11_putInstruction_150 : decode cX11_putInstruction 150 = .ok (.getfield 180, 3) := by decide +kernel
theorem dX11_putInstruction_153 : decode cX11_putInstruction 153 = .ok (.iload_n 1, 1) := by decide +kernel
theorem dX11_putInstruction_154 : decode cX11_putInstruction 154 = .ok (.invokevirtual 246, 3) := by decide +kernel
theorem dX11_putInstruction_157 : decode cX11_putInstruction 157 = .ok (.aload_n 0, 1) := by decide +kernel
theorem dX11_putInstruction_158 : decode cX11_putInstruction 158 = .ok (.getfield 180, 3) := by decide +kernel
theorem dX11_putInstruction_161 : decode cX11_putInstruction 161 = .ok (.iload_n 1, 1) := by decide +kernel
theorem dX11_putInstruction_162 : decode cX11_putInstruction 162 = .ok (.invokevirtual 295, 3) := by decide +kernel
theorem dX11_putInstruction_165 : decode cX11_putInstruction 165 = .ok (.invokevirtual 325, 3) := by decide +kernel
theorem dX11_putInstruction_168 : decode cX11_putInstruction 168 = .ok (.goto 64, 3) := by decide +kernel
theorem dX11_putInstruction_171 : decode cX11_putInstruction 171 = .ok (.aload_n 0, 1) := by decide +kernel
theorem dX11_putInstruction_172 : decode cX11_putInstruction 172 = .ok (.getfield 18, 3) := by decide +kernel
theorem dX11_putInstruction_175 : decode cX11_putInstruction 175 = .ok (.iload_n 3, 1) := by decide +kernel
theorem dX11_putInstruction_176 : decode cX11_putInstruction 176 = .ok (.invokevirtual 129, 3) := by decide +kernel
theorem dX11_putInstruction_179 : decode cX11_putInstruction 179 = .ok (.iload_n 3, 1) := by decide +kernel
theorem dX11_putInstruction_180 : decode cX11_putInstruction 180 = .ok (.sipush 178, 3) := by decide +kernel
theorem dX11_putInstruction_183 : decode cX11_putInstruction 183 = .ok (.if_icmp .eq 17, 3) := by decide +kernel
theorem dX11_putInstruction_186 : decode cX11_putInstruction 186 = .ok (.iload_n 3, 1) := by decide +kernel
theorem dX11_putInstruction_187 : decode cX11_putInstruction 187 = .ok (.sipush 179, 3) := by decide +kernel
theorem dX11_putInstruction_190 : decode cX11_putInstruction 190 = .ok (.if_icmp .eq 10, 3) := by decide +kernel
theorem dX11_putInstruction_193 : decode cX11_putInstruction 193 = .ok (.iload_n 3, 1) := by decide +kernel
theorem dX11_putInstruction_194 : decode cX11_putInstruction 194 = .ok (.sipush 184, 3) := by decide +kernel
theorem dX11_putInstruction_197 : decode cX11_putInstruction 197 = .ok (.if_icmp .ne 19, 3) := by decide +kernel
theorem dX11_putInstruction_200 : decode cX11_putInstruction 200 = .ok (.aload_n 0, 1) := by decide +kernel
theorem dX11_putInstruction_201 : decode cX11_putInstruction 201 = .ok (.getfield 18, 3) := by decide +kernel
theorem dX11_putInstruction_204 : decode cX11_putInstruction 204 = .ok (.aload_n 0, 1) := by decide +kernel
theorem dX11_putInstruction_205 : decode cX11_putInstruction 205 = .ok (.getfield 50, 3) := by decide +kernel
theorem dX11_putInstruction_208 : decode cX11_putInstruction 208 = .ok (.iload_n 1, 1) := by decide +kernel
theorem dX11_putInstruction_209 : decode cX11_putInstruction 209 = .ok (.iaload, 1) := by decide +kernel
theorem dX11_putInstruction_210 : decode cX11_putInstruction 210 = .ok (.invokevirtual 105, 3) := by decide +kernel
theorem dX11_putInstruction_213 : decode cX11_putInstruction 213 = .ok (.goto 19, 3) := by decide +kernel
theorem dX11_putInstruction_216 : decode cX11_putInstruction 216 = .ok (.iload_n 3, 1) := by decide +kernel
theorem dX11_putInstruction_217 : decode cX11_putInstruction 217 = .ok (.sipush 188, 3) := by decide +kernel
theorem dX11_putInstruction_220 : decode cX11_putInstruction 220 = .ok (.if_icmp .ne 12, 3) := by decide +kernel
theorem dX11_putInstruction_223 : decode cX11_putInstruction 223 = .ok (.aload_n 0, 1) := by decide +kernel
theorem dX11_putInstruction_224 : decode cX11_putInstruction 224 = .ok (.getfield 18, 3) := by decide +kernel
theorem dX11_putInstruction_227 : decode cX11_putInstruction 227 = .ok (.bipush 10, 2) := by decide +kernel
theorem dX11_putInstruction_229 : decode cX11_putInstruction 229 = .ok (.invokevirtual 129, 3) := by decide +kernel

theorem dX11_layOut_109 : decode cX11_layOut 109 = .ok (.iastore, 1) := by decide +kernel
theorem dX11_layOut_110 : decode cX11_layOut 110 = .ok (.iload_n 1, 1) := by decide +kernel
theorem dX11_layOut_111 : decode cX11_layOut 111 = .ok (.ireturn, 1) := by decide +kernel
theorem dX11_leastLocals_0 : decode cX11_leastLocals 0 = .ok (.aload_n 0, 1) := by decide +kernel
theorem dX11_leastLocals_1 : decode cX11_leastLocals 1 = .ok (.getfield 56, 3) := by decide +kernel
theorem dX11_leastLocals_4 : decode cX11_leastLocals 4 = .ok (.aload_n 0, 1) := by decide +kernel
theorem dX11_leastLocals_5 : decode cX11_leastLocals 5 = .ok (.getfield 180, 3) := by decide +kernel
theorem dX11_leastLocals_8 : decode cX11_leastLocals 8 = .ok (.getfield 184, 3) := by decide +kernel
theorem dX11_leastLocals_11 : decode cX11_leastLocals 11 = .ok (.invokevirtual 234, 3) := by decide +kernel
theorem dX11_leastLocals_14 : decode cX11_leastLocals 14 = .ok (.invokestatic 237, 3) := by decide +kernel
theorem dX11_leastLocals_17 : decode cX11_leastLocals 17 = .ok (.istore_n 1, 1) := by decide +kernel
theorem dX11_leastLocals_18 : decode cX11_leastLocals 18 = .ok (.iconst 0, 1) := by decide +kernel
theorem dX11_leastLocals_19 : decode cX11_leastLocals 19 = .ok (.istore_n 2, 1) := by decide +kernel
theorem dX11_leastLocals_20 : decode cX11_leastLocals 20 = .ok (.iload_n 2, 1) := by decide +kernel
theorem dX11_leastLocals_21 : decode cX11_leastLocals 21 = .ok (.aload_n 0, 1) := by decide +kernel
theorem dX11_leastLocals_22 : decode cX11_leastLocals 22 = .ok (.getfield 180, 3) := by decide +kernel
theorem dX11_leastLocals_25 : decode cX11_leastLocals 25 = .ok (.getfield 205, 3) := by decide +kernel
theorem dX11_leastLocals_28 : decode cX11_leastLocals 28 = .ok (.if_icmp .ge 48, 3) := by decide +kernel
theorem dX11_leastLocals_31 : decode cX11_leastLocals 31 = .ok (.aload_n 0, 1) := by decide +kernel
theorem dX11_leastLocals_32 : decode cX11_leastLocals 32 = .ok (.getfield 180, 3) := by decide +kernel
theorem dX11_leastLocals_35 : decode cX11_leastLocals 35 = .ok (.iload_n 2, 1) := by decide +kernel
theorem dX11_leastLocals_36 : decode cX11_leastLocals 36 = .ok (.invokevirtual 240, 3) := by decide +kernel
theorem dX11_leastLocals_39 : decode cX11_leastLocals 39 = .ok (.invokestatic 243, 3) := by decide +kernel
theorem dX11_leastLocals_42 : decode cX11_leastLocals 42 = .ok (.ifCond .eq 28, 3) := by decide +kernel
theorem dX11_leastLocals_45 : decode cX11_leastLocals 45 = .ok (.iload_n 1, 1) := by decide +kernel
theorem dX11_leastLocals_46 : decode cX11_leastLocals 46 = .ok (.aload_n 0, 1) := by decide +kernel
theorem dX11_leastLocals_47 : decode cX11_leastLocals 47 = .ok (.getfield 180, 3) := by decide +kernel
theorem dX11_leastLocals_50 : decode cX11_leastLocals 50 = .ok (.iload_n 2, 1) := by decide +kernel
theorem dX11_leastLocals_51 : decode cX11_leastLocals 51 = .ok (.invokevirtual 246, 3) := by decide +kernel
theorem dX11_leastLocals_54 : decode cX11_leastLocals 54 = .ok (.aload_n 0, 1) := by decide +kernel
theorem dX11_leastLocals_55 : decode cX11_leastLocals 55 = .ok (.getfield 180, 3) := by decide +kernel
theorem dX11_leastLocals_58 : decode cX11_leastLocals 58 = .ok (.iload_n 2, 1) := by decide +kernel
theorem dX11_leastLocals_59 : decode cX11_leastLocals 59 = .ok (.invokevirtual 240, 3) := by decide +kernel
theorem dX11_leastLocals_62 : decode cX11_leastLocals 62 = .ok (.invokestatic 249, 3) := by decide +kernel
theorem dX11_leastLocals_65 : decode cX11_leastLocals 65 = .ok (.iadd, 1) := by decide +kernel
theorem dX11_leastLocals_66 : decode cX11_leastLocals 66 = .ok (.invokestatic 252, 3) := by decide +kernel
theorem dX11_leastLocals_69 : decode cX11_leastLocals 69 = .ok (.istore_n 1, 1) := by decide +kernel
theorem dX11_leastLocals_70 : decode cX11_leastLocals 70 = .ok (.iinc 2 1, 3) := by decide +kernel
theorem dX11_leastLocals_73 : decode cX11_leastLocals 73 = .ok (.goto (-53), 3) := by decide +kernel
theorem dX11_leastLocals_76 : decode cX11_leastLocals 76 = .ok (.iload_n 1, 1) := by decide +kernel
theorem dX11_leastLocals_77 : decode cX11_leastLocals 77 = .ok (.ireturn, 1) := by decide +kernel
theorem dX11_lengthOf_0 : decode cX11_lengthOf 0 = .ok (.aload_n 0, 1) := by decide +kernel
theorem dX11_lengthOf_1 : decode cX11_lengthOf 1 = .ok (.getfield 180, 3) := by decide +kernel
theorem dX11_lengthOf_4 : decode cX11_lengthOf 4 = .ok (.iload_n 1, 1) := by decide +kernel
theorem dX11_lengthOf_5 : decode cX11_lengthOf 5 = .ok (.invokevirtual 240, 3) := by decide +kernel
theorem dX11_lengthOf_8 : decode cX11_lengthOf 8 = .ok (.istore_n 3, 1) := by decide +kernel
theorem dX11_lengthOf_9 : decode cX11_lengthOf 9 = .ok (.aload_n 0, 1) := by decide +kernel
theorem dX11_lengthOf_10 : decode cX11_lengthOf 10 = .ok (.getfield 180, 3) := by decide +kernel
theorem dX11_lengthOf_13 : decode cX11_lengthOf 13 = .ok (.iload_n 1, 1) := by decide +kernel
theorem dX11_lengthOf_14 : decode cX11_lengthOf 14 = .ok (.invokevirtual 263, 3) := by decide +kernel
theorem dX11_lengthOf_17 : decode cX11_lengthOf 17 = .ok (.lstore 4, 2) := by decide +kernel
theorem dX11_lengthOf_19 : decode cX11_lengthOf 19 = .ok (.iload_n 3, 1) := by decide +kernel
theorem dX11_lengthOf_20 : decode cX11_lengthOf 20 = .ok (.invokestatic 280, 3) := by decide +kernel
theorem dX11_lengthOf_23 : decode cX11_lengthOf 23 = .ok (.ifCond .ne 10, 3) := by decide +kernel
theorem dX11_lengthOf_26 : decode cX11_lengthOf 26 = .ok (.iload_n 3, 1) := by decide +kernel
theorem dX11_lengthOf_27 : decode cX11_lengthOf 27 = .ok (.invokestatic 283, 3) := by decide +kernel
theorem dX11_lengthOf_30 : decode cX11_lengthOf 30 = .ok (.ifCond .eq 18, 3) := by decide +kernel
theorem dX11_lengthOf_33 : decode cX11_lengthOf 33 = .ok (.lload 4, 2) := by decide +kernel
theorem dX11_lengthOf_35 : decode cX11_lengthOf 35 = .ok (.ldc2_w 286, 3) := by decide +kernel
theorem dX11_lengthOf_38 : decode cX11_lengthOf 38 = .ok (.lcmp, 1) := by decide +kernel
theorem dX11_lengthOf_39 : decode cX11_lengthOf 39 = .ok (.ifCond .ge 7, 3) := by decide +kernel
theorem dX11_lengthOf_42 : decode cX11_lengthOf 42 = .ok (.iconst 1, 1) := by decide +kernel
theorem dX11_lengthOf_43 : decode cX11_lengthOf 43 = .ok (.goto 4, 3) := by decide +kernel
theorem dX11_lengthOf_46 : decode cX11_lengthOf 46 = .ok (.iconst 2, 1) := by decide +kernel
theorem dX11_lengthOf_47 : decode cX11_lengthOf 47 = .ok (.ireturn, 1) := by decide +kernel
theorem dX11_lengthOf_48 : decode cX11_lengthOf 48 = .ok (.iload_n 3, 1) := by decide +kernel
theorem dX11_lengthOf_49 : decode cX11_lengthOf 49 = .ok (.invokestatic 288, 3) := by decide +kernel
theorem dX11_lengthOf_52 : decode cX11_lengthOf 52 = .ok (.ifCond .eq 5, 3) := by decide +kernel
theorem dX11_lengthOf_55 : decode cX11_lengthOf 55 = .ok (.iconst 3, 1) := by decide +kernel
theorem dX11_lengthOf_56 : decode cX11_lengthOf 56 = .ok (.ireturn, 1) := by decide +kernel
theorem dX11_lengthOf_57 : decode cX11_lengthOf 57 = .ok (.iload_n 3, 1) := by decide +kernel
theorem dX11_lengthOf_58 : decode cX11_lengthOf 58 = .ok (.lookupswitch 184 #[(17, 82), (20, 94), (132, 114), (170, 136), (171, 159), (178, 180), (179, 180), (184, 180), (188, 182)], 82) := by decide +kernel
theorem dX11_lengthOf_140 : decode cX11_lengthOf 140 = .ok (.lload 4, 2) := by decide +kernel
theorem dX11_lengthOf_142 : decode cX11_lengthOf 142 = .ok (.aload_n 0, 1) := by decide +kernel
theorem dX11_lengthOf_143 : decode cX11_lengthOf 143 = .ok (.getfield 50, 3) := by decide +kernel
theorem dX11_lengthOf_146 : decode cX11_lengthOf 146 = .ok (.iload_n 1, 1) := by decide +kernel
theorem dX11_lengthOf_147 : decode cX11_lengthOf 147 = .ok (.iaload, 1) := by decide +kernel
theorem dX11_lengthOf_148 : decode cX11_lengthOf 148 = .ok (.invokestatic 291, 3) := by decide +kernel
theorem dX11_lengthOf_151 : decode cX11_lengthOf 151 = .ok (.ireturn, 1) := by decide +kernel
theorem dX11_lengthOf_152 : decode cX11_lengthOf 152 = .ok (.lload 4, 2) := by decide +kernel
theorem dX11_lengthOf_154 : decode cX11_lengthOf 154 = .ok (.lconst 0, 1) := by decide +kernel
theorem dX11_lengthOf_155 : decode cX11_lengthOf 155 = .ok (.lcmp, 1) := by decide +kernel
theorem dX11_lengthOf_156 : decode cX11_lengthOf 156 = .ok (.ifCond .eq 10, 3) := by decide +kernel
theorem dX11_lengthOf_159 : decode cX11_lengthOf 159 = .ok (.lload 4, 2) := by decide +kernel
theorem dX11_lengthOf_161 : decode cX11_lengthOf 161 = .ok (.lconst 1, 1) := by decide +kernel
theorem dX11_lengthOf_162 : decode cX11_lengthOf 162 = .ok (.lcmp, 1) := by decide +kernel
theorem dX11_lengthOf_163 : decode cX11_lengthOf 163 = .ok (.ifCond .ne 7, 3) := by decide +kernel
theorem dX11_lengthOf_166 : decode cX11_lengthOf 166 = .ok (.iconst 1, 1) := by decide +kernel
theorem dX11_lengthOf_167 : decode cX11_lengthOf 167 = .ok (.goto 4, 3) := by decide +kernel
theorem dX11_lengthOf_170 : decode cX11_lengthOf 170 = .ok (.iconst 3, 1) := by decide +kernel
theorem dX11_lengthOf_171 : decode cX11_lengthOf 171 = .ok (.ireturn, 1) := by decide +kernel
theorem dX11_lengthOf_172 : decode cX11_lengthOf 172 = .ok (.aload_n 0, 1) := by decide +kernel
theorem dX11_lengthOf_173 : decode cX11_lengthOf 173 = .ok (.getfield 180, 3) := by decide +kernel
theorem dX11_lengthOf_176 : decode cX11_lengthOf 176 = .ok (.iload_n 1, 1) := by decide +kernel
theorem dX11_lengthOf_177 : decode cX11_lengthOf 177 = .ok (.invokevirtual 295, 3) := by decide +kernel
theorem dX11_lengthOf_180 : decode cX11_lengthOf 180 = .ok (.i2l, 1) := by decide +kernel
theorem dX11_lengthOf_181 : decode cX11_lengthOf 181 = .ok (.invokestatic 298, 3) := by decide +kernel
theorem dX11_lengthOf_184 : decode cX11_lengthOf 184 = .ok (.ifCond .eq 7, 3) := by decide +kernel
theorem dX11_lengthOf_187 : decode cX11_lengthOf 187 = .ok (.iconst 3, 1) := by decide +kernel
theorem dX11_lengthOf_188 : decode cX11_lengthOf 188 = .ok (.goto 5, 3) := by decide +kernel
theorem dX11_lengthOf_191 : decode cX11_lengthOf 191 = .ok (.bipush 6, 2) := by decide +kernel
theorem dX11_lengthOf_193 : decode cX11_lengthOf 193 = .ok (.ireturn, 1) := by decide +kernel
theorem dX11_lengthOf_194 : decode cX11_lengthOf 194 = .ok (.iload_n 2, 1) := by decide +kernel
theorem dX11_lengthOf_195 : decode cX11_lengthOf 195 = .ok (.iconst 4, 1) := by decide +kernel
theorem dX11_lengthOf_196 : decode cX11_lengthOf 196 = .ok (.iadd, 1) := by decide +kernel
theorem dX11_lengthOf_197 : decode cX11_lengthOf 197 = .ok (.bipush (-4), 2) := by decide +kernel
theorem dX11_lengthOf_199 : decode cX11_lengthOf 199 = .ok (.iand, 1) := by decide +kernel
theorem dX11_lengthOf_200 : decode cX11_lengthOf 200 = .ok (.iload_n 2, 1) := by decide +kernel
theorem dX11_lengthOf_201 : decode cX11_lengthOf 201 = .ok (.isub, 1) := by decide +kernel
theorem dX11_lengthOf_202 : decode cX11_lengthOf 202 = .ok (.bipush 8, 2) := by decide +kernel
theorem dX11_lengthOf_204 : decode cX11_lengthOf 204 = .ok (.iadd, 1) := by decide +kernel
theorem dX11_lengthOf_205 : decode cX11_lengthOf 205 = .ok (.iconst 4, 1) := by decide +kernel
theorem dX11_lengthOf_206 : decode cX11_lengthOf 206 = .ok (.aload_n 0, 1) := by decide +kernel
theorem dX11_lengthOf_207 : decode cX11_lengthOf 207 = .ok (.getfield 180, 3) := by decide +kernel
theorem dX11_lengthOf_210 : decode cX11_lengthOf 210 = .ok (.iload_n 1, 1) := by decide +kernel
theorem dX11_lengthOf_211 : decode cX11_lengthOf 211 = .ok (.invokevirtual 302, 3) := by decide +kernel
theorem dX11_lengthOf_214 : decode cX11_lengthOf 214 = .ok (.imul, 1) := by decide +kernel
theorem dX11_lengthOf_215 : decode cX11_lengthOf 215 = .ok (.iadd, 1) := by decide +kernel
theorem dX11_lengthOf_216 : decode cX11_lengthOf 216 = .ok (.ireturn, 1) := by decide +kernel
theorem dX11_lengthOf_217 : decode cX11_lengthOf 217 = .ok (.iload_n 2, 1) := by decide +kernel
theorem dX11_lengthOf_218 : decode cX11_lengthOf 218 = .ok (.iconst 4, 1) := by decide +kernel
theorem dX11_lengthOf_219 : decode cX11_lengthOf 219 = .ok (.iadd, 1) := by decide +kernel
theorem dX11_lengthOf_220 : decode cX11_lengthOf 220 = .ok (.bipush (-4), 2) := by decide +kernel
theorem dX11_lengthOf_222 : decode cX11_lengthOf 222 = .ok (.iand, 1) := by decide +kernel
theorem dX11_lengthOf_223 : decode cX11_lengthOf 223 = .ok (.iload_n 2, 1) := by decide +kernel
theorem dX11_lengthOf_224 : decode cX11_lengthOf 224 = .ok (.isub, 1) := by decide +kernel
theorem dX11_lengthOf_225 : decode cX11_lengthOf 225 = .ok (.bipush 8, 2) := by decide +kernel
theorem dX11_lengthOf_227 : decode cX11_lengthOf 227 = .ok (.aload_n 0, 1) := by decide +kernel
theorem dX11_lengthOf_228 : decode cX11_lengthOf 228 = .ok (.getfield 180, 3) := by decide +kernel
theorem dX11_lengthOf_231 : decode cX11_lengthOf 231 = .ok (.iload_n 1, 1) := by decide +kernel
theorem dX11_lengthOf_232 : decode cX11_lengthOf 232 = .ok (.invokevirtual 302, 3) := by decide +kernel
theorem dX11_lengthOf_235 : decode cX11_lengthOf 235 = .ok (.imul, 1) := by decide +kernel
theorem dX11_lengthOf_236 : decode cX11_lengthOf 236 = .ok (.iadd, 1) := by decide +kernel
theorem dX11_lengthOf_237 : decode cX11_lengthOf 237 = .ok (.ireturn, 1) := by decide +kernel
theorem dX11_lengthOf_238 : decode cX11_lengthOf 238 = .ok (.iconst 3, 1) := by decide +kernel
theorem dX11_lengthOf_239 : decode cX11_lengthOf 239 = .ok (.ireturn, 1) := by decide +kernel
theorem dX11_lengthOf_240 : decode cX11_lengthOf 240 = .ok (.iconst 2, 1) := by decide +kernel
theorem dX11_lengthOf_241 : decode cX11_lengthOf 241 = .ok (.ireturn, 1) := by decide +kernel
theorem dX11_lengthOf_242 : decode cX11_lengthOf 242 = .ok (.iconst 1, 1) := by decide +kernel
theorem dX11_lengthOf_243 : decode cX11_lengthOf 243 = .ok (.ireturn, 1) := by decide +kernel
theorem dX11_lengthOfPush_0 : decode cX11_lengthOfPush 0 = .ok (.lload_n 0, 1) := by decide +kernel
theorem dX11_lengthOfPush_1 : decode cX11_lengthOfPush 1 = .ok (.ldc2_w 305, 3) := by decide +kernel
theorem dX11_lengthOfPush_4 : decode cX11_lengthOfPush 4 = .ok (.lcmp, 1) := by decide +kernel
theorem dX11_lengthOfPush_5 : decode cX11_lengthOfPush 5 = .ok (.ifCond .lt 13, 3) := by decide +kernel
theorem dX11_lengthOfPush_8 : decode cX11_lengthOfPush 8 = .ok (.lload_n 0, 1) := by decide +kernel
theorem dX11_lengthOfPush_9 : decode cX11_lengthOfPush 9 = .ok (.ldc2_w 307, 3) := by decide +kernel
theorem dX11_lengthOfPush_12 : decode cX11_lengthOfPush 12 = .ok (.lcmp, 1) := by decide +kernel
theorem dX11_lengthOfPush_13 : decode cX11_lengthOfPush 13 = .ok (.ifCond .gt 5, 3) := by decide +kernel
theorem dX11_lengthOfPush_16 : decode cX11_lengthOfPush 16 = .ok (.iconst 1, 1) := by decide +kernel
theorem dX11_lengthOfPush_17 : decode cX11_lengthOfPush 17 = .ok (.ireturn, 1) := by decide +kernel

theorem dX11_layOut_109 : decode cX11_layOut 109 = .ok (.iastore, 1) := by decide +kernel
theorem dX11_layOut_110 : decode cX11_layOut 110 = .ok (.iload_n 1, 1) := by decide +kernel
theorem dX11_layOut_111 : decode cX11_layOut 111 = .ok (.ireturn, 1) := by decide +kernel
theorem dX11_leastLocals_0 : decode cX11_leastLocals 0 = .ok (.aload_n 0, 1) := by decide +kernel
theorem dX11_leastLocals_1 : decode cX11_leastLocals 1 = .ok (.getfield 56, 3) := by decide +kernel
theorem dX11_leastLocals_4 : decode cX11_leastLocals 4 = .ok (.aload_n 0, 1) := by decide +kernel
theorem dX11_leastLocals_5 : decode cX11_leastLocals 5 = .ok (.getfield 180, 3) := by decide +kernel
theorem dX11_leastLocals_8 : decode cX11_leastLocals 8 = .ok (.getfield 184, 3) := by decide +kernel
theorem dX11_leastLocals_11 : decode cX11_leastLocals 11 = .ok (.invokevirtual 234, 3) := by decide +kernel
theorem dX11_leastLocals_14 : decode cX11_leastLocals 14 = .ok (.invokestatic 237, 3) := by decide +kernel
theorem dX11_leastLocals_17 : decode cX11_leastLocals 17 = .ok (.istore_n 1, 1) := by decide +kernel
theorem dX11_leastLocals_18 : decode cX11_leastLocals 18 = .ok (.iconst 0, 1) := by decide +kernel
theorem dX11_leastLocals_19 : decode cX11_leastLocals 19 = .ok (.istore_n 2, 1) := by decide +kernel
theorem dX11_leastLocals_20 : decode cX11_leastLocals 20 = .ok (.iload_n 2, 1) := by decide +kernel
theorem dX11_leastLocals_21 : decode cX11_leastLocals 21 = .ok (.aload_n 0, 1) := by decide +kernel
theorem dX11_leastLocals_22 : decode cX11_leastLocals 22 = .ok (.getfield 180, 3) := by decide +kernel
theorem dX11_leastLocals_25 : decode cX11_leastLocals 25 = .ok (.getfield 205, 3) := by decide +kernel
theorem dX11_leastLocals_28 : decode cX11_leastLocals 28 = .ok (.if_icmp .ge 48, 3) := by decide +kernel
theorem dX11_leastLocals_31 : decode cX11_leastLocals 31 = .ok (.aload_n 0, 1) := by decide +kernel
theorem dX11_leastLocals_32 : decode cX11_leastLocals 32 = .ok (.getfield 180, 3) := by decide +kernel
theorem dX11_leastLocals_35 : decode cX11_leastLocals 35 = .ok (.iload_n 2, 1) := by decide +kernel
theorem dX11_leastLocals_36 : decode cX11_leastLocals 36 = .ok (.invokevirtual 240, 3) := by decide +kernel
theorem dX11_leastLocals_39 : decode cX11_leastLocals 39 = .ok (.invokestatic 243, 3) := by decide +kernel
theorem dX11_leastLocals_42 : decode cX11_leastLocals 42 = .ok (.ifCond .eq 28, 3) := by decide +kernel
theorem dX11_leastLocals_45 : decode cX11_leastLocals 45 = .ok (.iload_n 1, 1) := by decide +kernel
theorem dX11_leastLocals_46 : decode cX11_leastLocals 46 = .ok (.aload_n 0, 1) := by decide +kernel
theorem dX11_leastLocals_47 : decode cX11_leastLocals 47 = .ok (.getfield 180, 3) := by decide +kernel
theorem dX11_leastLocals_50 : decode cX11_leastLocals 50 = .ok (.iload_n 2, 1) := by decide +kernel
theorem dX11_leastLocals_51 : decode cX11_leastLocals 51 = .ok (.invokevirtual 246, 3) := by decide +kernel
theorem dX11_leastLocals_54 : decode cX11_leastLocals 54 = .ok (.aload_n 0, 1) := by decide +kernel
theorem dX11_leastLocals_55 : decode cX11_leastLocals 55 = .ok (.getfield 180, 3) := by decide +kernel
theorem dX11_leastLocals_58 : decode cX11_leastLocals 58 = .ok (.iload_n 2, 1) := by decide +kernel
theorem dX11_leastLocals_59 : decode cX11_leastLocals 59 = .ok (.invokevirtual 240, 3) := by decide +kernel
theorem dX11_leastLocals_62 : decode cX11_leastLocals 62 = .ok (.invokestatic 249, 3) := by decide +kernel
theorem dX11_leastLocals_65 : decode cX11_leastLocals 65 = .ok (.iadd, 1) := by decide +kernel
theorem dX11_leastLocals_66 : decode cX11_leastLocals 66 = .ok (.invokestatic 252, 3) := by decide +kernel
theorem dX11_leastLocals_69 : decode cX11_leastLocals 69 = .ok (.istore_n 1, 1) := by decide +kernel
theorem dX11_leastLocals_70 : decode cX11_leastLocals 70 = .ok (.iinc 2 1, 3) := by decide +kernel
theorem dX11_leastLocals_73 : decode cX11_leastLocals 73 = .ok (.goto (-53), 3) := by decide +kernel
theorem dX11_leastLocals_76 : decode cX11_leastLocals 76 = .ok (.iload_n 1, 1) := by decide +kernel
theorem dX11_leastLocals_77 : decode cX11_leastLocals 77 = .ok (.ireturn, 1) := by decide +kernel
theorem dX11_lengthOf_0 : decode cX11_lengthOf 0 = .ok (.aload_n 0, 1) := by decide +kernel
theorem dX11_lengthOf_1 : decode cX11_lengthOf 1 = .ok (.getfield 180, 3) := by decide +kernel
theorem dX11_lengthOf_4 : decode cX11_lengthOf 4 = .ok (.iload_n 1, 1) := by decide +kernel
theorem dX11_lengthOf_5 : decode cX11_lengthOf 5 = .ok (.invokevirtual 240, 3) := by decide +kernel
theorem dX11_lengthOf_8 : decode cX11_lengthOf 8 = .ok (.istore_n 3, 1) := by decide +kernel
theorem dX11_lengthOf_9 : decode cX11_lengthOf 9 = .ok (.aload_n 0, 1) := by decide +kernel
theorem dX11_lengthOf_10 : decode cX11_lengthOf 10 = .ok (.getfield 180, 3) := by decide +kernel
theorem dX11_lengthOf_13 : decode cX11_lengthOf 13 = .ok (.iload_n 1, 1) := by decide +kernel
theorem dX11_lengthOf_14 : decode cX11_lengthOf 14 = .ok (.invokevirtual 263, 3) := by decide +kernel
theorem dX11_lengthOf_17 : decode cX11_lengthOf 17 = .ok (.lstore 4, 2) := by decide +kernel
theorem dX11_lengthOf_19 : decode cX11_lengthOf 19 = .ok (.iload_n 3, 1) := by decide +kernel
theorem dX11_lengthOf_20 : decode cX11_lengthOf 20 = .ok (.invokestatic 280, 3) := by decide +kernel
theorem dX11_lengthOf_23 : decode cX11_lengthOf 23 = .ok (.ifCond .ne 10, 3) := by decide +kernel
theorem dX11_lengthOf_26 : decode cX11_lengthOf 26 = .ok (.iload_n 3, 1) := by decide +kernel
theorem dX11_lengthOf_27 : decode cX11_lengthOf 27 = .ok (.invokestatic 283, 3) := by decide +kernel
theorem dX11_lengthOf_30 : decode cX11_lengthOf 30 = .ok (.ifCond .eq 18, 3) := by decide +kernel
theorem dX11_lengthOf_33 : decode cX11_lengthOf 33 = .ok (.lload 4, 2) := by decide +kernel
theorem dX11_lengthOf_35 : decode cX11_lengthOf 35 = .ok (.ldc2_w 286, 3) := by decide +kernel
theorem dX11_lengthOf_38 : decode cX11_lengthOf 38 = .ok (.lcmp, 1) := by decide +kernel
theorem dX11_lengthOf_39 : decode cX11_lengthOf 39 = .ok (.ifCond .ge 7, 3) := by decide +kernel
theorem dX11_lengthOf_42 : decode cX11_lengthOf 42 = .ok (.iconst 1, 1) := by decide +kernel
theorem dX11_lengthOf_43 : decode cX11_lengthOf 43 = .ok (.goto 4, 3) := by decide +kernel
theorem dX11_lengthOf_46 : decode cX11_lengthOf 46 = .ok (.iconst 2, 1) := by decide +kernel
theorem dX11_lengthOf_47 : decode cX11_lengthOf 47 = .ok (.ireturn, 1) := by decide +kernel
theorem dX11_lengthOf_48 : decode cX11_lengthOf 48 = .ok (.iload_n 3, 1) := by decide +kernel
theorem dX11_lengthOf_49 : decode cX11_lengthOf 49 = .ok (.invokestatic 288, 3) := by decide +kernel
theorem dX11_lengthOf_52 : decode cX11_lengthOf 52 = .ok (.ifCond .eq 5, 3) := by decide +kernel
theorem dX11_lengthOf_55 : decode cX11_lengthOf 55 = .ok (.iconst 3, 1) := by decide +kernel
theorem dX11_lengthOf_56 : decode cX11_lengthOf 56 = .ok (.ireturn, 1) := by decide +kernel
theorem dX11_lengthOf_57 : decode cX11_lengthOf 57 = .ok (.iload_n 3, 1) := by decide +kernel
theorem dX11_lengthOf_58 : decode cX11_lengthOf 58 = .ok (.lookupswitch 184 #[(17, 82), (20, 94), (132, 114), (170, 136), (171, 159), (178, 180), (179, 180), (184, 180), (188, 182)], 82) := by decide +kernel
theorem dX11_lengthOf_140 : decode cX11_lengthOf 140 = .ok (.lload 4, 2) := by decide +kernel
theorem dX11_lengthOf_142 : decode cX11_lengthOf 142 = .ok (.aload_n 0, 1) := by decide +kernel
theorem dX11_lengthOf_143 : decode cX11_lengthOf 143 = .ok (.getfield 50, 3) := by decide +kernel
theorem dX11_lengthOf_146 : decode cX11_lengthOf 146 = .ok (.iload_n 1, 1) := by decide +kernel
theorem dX11_lengthOf_147 : decode cX11_lengthOf 147 = .ok (.iaload, 1) := by decide +kernel
theorem dX11_lengthOf_148 : decode cX11_lengthOf 148 = .ok (.invokestatic 291, 3) := by decide +kernel
theorem dX11_lengthOf_151 : decode cX11_lengthOf 151 = .ok (.ireturn, 1) := by decide +kernel
theorem dX11_lengthOf_152 : decode cX11_lengthOf 152 = .ok (.lload 4, 2) := by decide +kernel
theorem dX11_lengthOf_154 : decode cX11_lengthOf 154 = .ok (.lconst 0, 1) := by decide +kernel
theorem dX11_lengthOf_155 : decode cX11_lengthOf 155 = .ok (.lcmp, 1) := by decide +kernel
theorem dX11_lengthOf_156 : decode cX11_lengthOf 156 = .ok (.ifCond .eq 10, 3) := by decide +kernel
theorem dX11_lengthOf_159 : decode cX11_lengthOf 159 = .ok (.lload 4, 2) := by decide +kernel
theorem dX11_lengthOf_161 : decode cX11_lengthOf 161 = .ok (.lconst 1, 1) := by decide +kernel
theorem dX11_lengthOf_162 : decode cX11_lengthOf 162 = .ok (.lcmp, 1) := by decide +kernel
theorem dX11_lengthOf_163 : decode cX11_lengthOf 163 = .ok (.ifCond .ne 7, 3) := by decide +kernel
theorem dX11_lengthOf_166 : decode cX11_lengthOf 166 = .ok (.iconst 1, 1) := by decide +kernel
theorem dX11_lengthOf_167 : decode cX11_lengthOf 167 = .ok (.goto 4, 3) := by decide +kernel
theorem dX11_lengthOf_170 : decode cX11_lengthOf 170 = .ok (.iconst 3, 1) := by decide +kernel
theorem dX11_lengthOf_171 : decode cX11_lengthOf 171 = .ok (.ireturn, 1) := by decide +kernel
theorem dX11_lengthOf_172 : decode cX11_lengthOf 172 = .ok (.aload_n 0, 1) := by decide +kernel
theorem dX11_lengthOf_173 : decode cX11_lengthOf 173 = .ok (.getfield 180, 3) := by decide +kernel
theorem dX11_lengthOf_176 : decode cX11_lengthOf 176 = .ok (.iload_n 1, 1) := by decide +kernel
theorem dX11_lengthOf_177 : decode cX11_lengthOf 177 = .ok (.invokevirtual 295, 3) := by decide +kernel
theorem dX11_lengthOf_180 : decode cX11_lengthOf 180 = .ok (.i2l, 1) := by decide +kernel
theorem dX11_lengthOf_181 : decode cX11_lengthOf 181 = .ok (.invokestatic 298, 3) := by decide +kernel
theorem dX11_lengthOf_184 : decode cX11_lengthOf 184 = .ok (.ifCond .eq 7, 3) := by decide +kernel
theorem dX11_lengthOf_187 : decode cX11_lengthOf 187 = .ok (.iconst 3, 1) := by decide +kernel
theorem dX11_lengthOf_188 : decode cX11_lengthOf 188 = .ok (.goto 5, 3) := by decide +kernel
theorem dX11_lengthOf_191 : decode cX11_lengthOf 191 = .ok (.bipush 6, 2) := by decide +kernel
theorem dX11_lengthOf_193 : decode cX11_lengthOf 193 = .ok (.ireturn, 1) := by decide +kernel
theorem dX11_lengthOf_194 : decode cX11_lengthOf 194 = .ok (.iload_n 2, 1) := by decide +kernel
theorem dX11_lengthOf_195 : decode cX11_lengthOf 195 = .ok (.iconst 4, 1) := by decide +kernel
theorem dX11_lengthOf_196 : decode cX11_lengthOf 196 = .ok (.iadd, 1) := by decide +kernel
theorem dX11_lengthOf_197 : decode cX11_lengthOf 197 = .ok (.bipush (-4), 2) := by decide +kernel
theorem dX11_lengthOf_199 : decode cX11_lengthOf 199 = .ok (.iand, 1) := by decide +kernel
theorem dX11_lengthOf_200 : decode cX11_lengthOf 200 = .ok (.iload_n 2, 1) := by decide +kernel
theorem dX11_lengthOf_201 : decode cX11_lengthOf 201 = .ok (.isub, 1) := by decide +kernel
theorem dX11_lengthOf_202 : decode cX11_lengthOf 202 = .ok (.bipush 8, 2) := by decide +kernel
theorem dX11_lengthOf_204 : decode cX11_lengthOf 204 = .ok (.iadd, 1) := by decide +kernel
theorem dX11_lengthOf_205 : decode cX11_lengthOf 205 = .ok (.iconst 4, 1) := by decide +kernel
theorem dX11_lengthOf_206 : decode cX11_lengthOf 206 = .ok (.aload_n 0, 1) := by decide +kernel
theorem dX11_lengthOf_207 : decode cX11_lengthOf 207 = .ok (.getfield 180, 3) := by decide +kernel
theorem dX11_lengthOf_210 : decode cX11_lengthOf 210 = .ok (.iload_n 1, 1) := by decide +kernel
theorem dX11_lengthOf_211 : decode cX11_lengthOf 211 = .ok (.invokevirtual 302, 3) := by decide +kernel
theorem dX11_lengthOf_214 : decode cX11_lengthOf 214 = .ok (.imul, 1) := by decide +kernel
theorem dX11_lengthOf_215 : decode cX11_lengthOf 215 = .ok (.iadd, 1) := by decide +kernel
theorem dX11_lengthOf_216 : decode cX11_lengthOf 216 = .ok (.ireturn, 1) := by decide +kernel
theorem dX11_lengthOf_217 : decode cX11_lengthOf 217 = .ok (.iload_n 2, 1) := by decide +kernel
theorem dX11_lengthOf_218 : decode cX11_lengthOf 218 = .ok (.iconst 4, 1) := by decide +kernel
theorem dX11_lengthOf_219 : decode cX11_lengthOf 219 = .ok (.iadd, 1) := by decide +kernel
theorem dX11_lengthOf_220 : decode cX11_lengthOf 220 = .ok (.bipush (-4), 2) := by decide +kernel
theorem dX11_lengthOf_222 : decode cX11_lengthOf 222 = .ok (.iand, 1) := by decide +kernel
theorem dX11_lengthOf_223 : decode cX11_lengthOf 223 = .ok (.iload_n 2, 1) := by decide +kernel
theorem dX11_lengthOf_224 : decode cX11_lengthOf 224 = .ok (.isub, 1) := by decide +kernel
theorem dX11_lengthOf_225 : decode cX11_lengthOf 225 = .ok (.bipush 8, 2) := by decide +kernel
theorem dX11_lengthOf_227 : decode cX11_lengthOf 227 = .ok (.aload_n 0, 1) := by decide +kernel
theorem dX11_lengthOf_228 : decode cX11_lengthOf 228 = .ok (.getfield 180, 3) := by decide +kernel
theorem dX11_lengthOf_231 : decode cX11_lengthOf 231 = .ok (.iload_n 1, 1) := by decide +kernel
theorem dX11_lengthOf_232 : decode cX11_lengthOf 232 = .ok (.invokevirtual 302, 3) := by decide +kernel
theorem dX11_lengthOf_235 : decode cX11_lengthOf 235 = .ok (.imul, 1) := by decide +kernel
theorem dX11_lengthOf_236 : decode cX11_lengthOf 236 = .ok (.iadd, 1) := by decide +kernel
theorem dX11_lengthOf_237 : decode cX11_lengthOf 237 = .ok (.ireturn, 1) := by decide +kernel
theorem dX11_lengthOf_238 : decode cX11_lengthOf 238 = .ok (.iconst 3, 1) := by decide +kernel
theorem dX11_lengthOf_239 : decode cX11_lengthOf 239 = .ok (.ireturn, 1) := by decide +kernel
theorem dX11_lengthOf_240 : decode cX11_lengthOf 240 = .ok (.iconst 2, 1) := by decide +kernel
theorem dX11_lengthOf_241 : decode cX11_lengthOf 241 = .ok (.ireturn, 1) := by decide +kernel
theorem dX11_lengthOf_242 : decode cX11_lengthOf 242 = .ok (.iconst 1, 1) := by decide +kernel
theorem dX11_lengthOf_243 : decode cX11_lengthOf 243 = .ok (.ireturn, 1) := by decide +kernel
theorem dX11_lengthOfPush_0 : decode cX11_lengthOfPush 0 = .ok (.lload_n 0, 1) := by decide +kernel
theorem dX11_lengthOfPush_1 : decode cX11_lengthOfPush 1 = .ok (.ldc2_w 305, 3) := by decide +kernel
theorem dX11_lengthOfPush_4 : decode cX11_lengthOfPush 4 = .ok (.lcmp, 1) := by decide +kernel
theorem dX11_lengthOfPush_5 : decode cX11_lengthOfPush 5 = .ok (.ifCond .lt 13, 3) := by decide +kernel
theorem dX11_lengthOfPush_8 : decode cX11_lengthOfPush 8 = .ok (.lload_n 0, 1) := by decide +kernel
theorem dX11_lengthOfPush_9 : decode cX11_lengthOfPush 9 = .ok (.ldc2_w 307, 3) := by decide +kernel
theorem dX11_lengthOfPush_12 : decode cX11_lengthOfPush 12 = .ok (.lcmp, 1) := by decide +kernel
theorem dX11_lengthOfPush_13 : decode cX11_lengthOfPush 13 = .ok (.ifCond .gt 5, 3) := by decide +kernel
theorem dX11_lengthOfPush_16 : decode cX11_lengthOfPush 16 = .ok (.iconst 1, 1) := by decide +kernel
theorem dX11_lengthOfPush_17 : decode cX11_lengthOfPush 17 = .ok (.ireturn, 1) := by decide +kernel
theorem dX11_lengthOfPush_18 : decode cX11_lengthOfPush 18 = .ok (.lload_n 0, 1) := by decide +kernel
theorem dX11_lengthOfPush_19 : decode cX11_lengthOfPush 19 = .ok (.invokestatic 298, 3) := by decide +kernel
theorem dX11_lengthOfPush_22 : decode cX11_lengthOfPush 22 = .ok (.ifCond .eq 5, 3) := by decide +kernel
theorem dX11_lengthOfPush_25 : decode cX11_lengthOfPush 25 = .ok (.iconst 2, 1) := by decide +kernel
theorem dX11_lengthOfPush_26 : decode cX11_lengthOfPush 26 = .ok (.ireturn, 1) := by decide +kernel
theorem dX11_lengthOfPush_27 : decode cX11_lengthOfPush 27 = .ok (.lload_n 0, 1) := by decide +kernel
theorem dX11_lengthOfPush_28 : decode cX11_lengthOfPush 28 = .ok (.lload_n 0, 1) := by decide +kernel
theorem dX11_lengthOfPush_29 : decode cX11_lengthOfPush 29 = .ok (.l2i, 1) := by decide +kernel
theorem dX11_lengthOfPush_30 : decode cX11_lengthOfPush 30 = .ok (.i2s, 1) := by decide +kernel
theorem dX11_lengthOfPush_31 : decode cX11_lengthOfPush 31 = .ok (.i2l, 1) := by decide +kernel
theorem dX11_lengthOfPush_32 : decode cX11_lengthOfPush 32 = .ok (.lcmp, 1) := by decide +kernel
theorem dX11_lengthOfPush_33 : decode cX11_lengthOfPush 33 = .ok (.ifCond .eq 10, 3) := by decide +kernel
theorem dX11_lengthOfPush_36 : decode cX11_lengthOfPush 36 = .ok (.iload_n 2, 1) := by decide +kernel
theorem dX11_lengthOfPush_37 : decode cX11_lengthOfPush 37 = .ok (.sipush 255, 3) := by decide +kernel
theorem dX11_lengthOfPush_40 : decode cX11_lengthOfPush 40 = .ok (.if_icmp .le 7, 3) := by decide +kernel
theorem dX11_lengthOfPush_43 : decode cX11_lengthOfPush 43 = .ok (.iconst 3, 1) := by decide +kernel
theorem dX11_lengthOfPush_44 : decode cX11_lengthOfPush 44 = .ok (.goto 4, 3) := by decide +kernel
theorem dX11_lengthOfPush_47 : decode cX11_lengthOfPush 47 = .ok (.iconst 2, 1) := by decide +kernel
theorem dX11_lengthOfPush_48 : decode cX11_lengthOfPush 48 = .ok (.ireturn, 1) := by decide +kernel
theorem dX11_longEntry_0 : decode cX11_longEntry 0 = .ok (.aload_n 0, 1) := by decide +kernel
theorem dX11_longEntry_1 : decode cX11_longEntry 1 = .ok (.iconst 5, 1) := by decide +kernel
theorem dX11_longEntry_2 : decode cX11_longEntry 2 = .ok (.invokevirtual 147, 3) := by decide +kernel
theorem dX11_longEntry_5 : decode cX11_longEntry 5 = .ok (.aload_n 0, 1) := by decide +kernel
theorem dX11_longEntry_6 : decode cX11_longEntry 6 = .ok (.getfield 21, 3) := by decide +kernel
theorem dX11_longEntry_9 : decode cX11_longEntry 9 = .ok (.lload_n 1, 1) := by decide +kernel
theorem dX11_longEntry_10 : decode cX11_longEntry 10 = .ok (.bipush 32, 2) := by decide +kernel
theorem dX11_longEntry_12 : decode cX11_longEntry 12 = .ok (.lshr, 1) := by decide +kernel
theorem dX11_longEntry_13 : decode cX11_longEntry 13 = .ok (.l2i, 1) := by decide +kernel
theorem dX11_longEntry_14 : decode cX11_longEntry 14 = .ok (.invokevirtual 167, 3) := by decide +kernel
theorem dX11_longEntry_17 : decode cX11_longEntry 17 = .ok (.aload_n 0, 1) := by decide +kernel
theorem dX11_longEntry_18 : decode cX11_longEntry 18 = .ok (.getfield 21, 3) := by decide +kernel
theorem dX11_longEntry_21 : decode cX11_longEntry 21 = .ok (.lload_n 1, 1) := by decide +kernel
theorem dX11_longEntry_22 : decode cX11_longEntry 22 = .ok (.l2i, 1) := by decide +kernel
theorem dX11_longEntry_23 : decode cX11_longEntry 23 = .ok (.invokevirtual 167, 3) := by decide +kernel
theorem dX11_longEntry_26 : decode cX11_longEntry 26 = .ok (.aload_n 0, 1) := by decide +kernel
theorem dX11_longEntry_27 : decode cX11_longEntry 27 = .ok (.invokevirtual 160, 3) := by decide +kernel
theorem dX11_longEntry_30 : decode cX11_longEntry 30 = .ok (.ireturn, 1) := by decide +kernel
theorem dX11_methodEntryOf_0 : decode cX11_methodEntryOf 0 = .ok (.iload_n 1, 1) := by decide +kernel
theorem dX11_methodEntryOf_1 : decode cX11_methodEntryOf 1 = .ok (.ifCond .lt 24, 3) := by decide +kernel
theorem dX11_methodEntryOf_4 : decode cX11_methodEntryOf 4 = .ok (.iload_n 1, 1) := by decide +kernel
theorem dX11_methodEntryOf_5 : decode cX11_methodEntryOf 5 = .ok (.aload_n 0, 1) := by decide +kernel
theorem dX11_methodEntryOf_6 : decode cX11_methodEntryOf 6 = .ok (.getfield 40, 3) := by decide +kernel
theorem dX11_methodEntryOf_9 : decode cX11_methodEntryOf 9 = .ok (.arraylength, 1) := by decide +kernel
theorem dX11_methodEntryOf_10 : decode cX11_methodEntryOf 10 = .ok (.if_icmp .ge 15, 3) := by decide +kernel
theorem dX11_methodEntryOf_13 : decode cX11_methodEntryOf 13 = .ok (.iload_n 1, 1) := by decide +kernel
theorem dX11_methodEntryOf_14 : decode cX11_methodEntryOf 14 = .ok (.aload_n 0, 1) := by decide +kernel
theorem dX11_methodEntryOf_15 : decode cX11_methodEntryOf 15 = .ok (.getfield 56, 3) := by decide +kernel
theorem dX11_methodEntryOf_18 : decode cX11_methodEntryOf 18 = .ok (.getfield 174, 3) := by decide +kernel
theorem dX11_methodEntryOf_21 : decode cX11_methodEntryOf 21 = .ok (.arraylength, 1) := by decide +kernel
theorem dX11_methodEntryOf_22 : decode cX11_methodEntryOf 22 = .ok (.if_icmp .lt 5, 3) := by decide +kernel
theorem dX11_methodEntryOf_25 : decode cX11_methodEntryOf 25 = .ok (.iconst 0, 1) := by decide +kernel
theorem dX11_methodEntryOf_26 : decode cX11_methodEntryOf 26 = .ok (.ireturn, 1) := by decide +kernel
theorem dX11_methodEntryOf_27 : decode cX11_methodEntryOf 27 = .ok (.aload_n 0, 1) := by decide +kernel
theorem dX11_methodEntryOf_28 : decode cX11_methodEntryOf 28 = .ok (.getfield 40, 3) := by decide +kernel
theorem dX11_methodEntryOf_31 : decode cX11_methodEntryOf 31 = .ok (.iload_n 1, 1) := by decide +kernel
theorem dX11_methodEntryOf_32 : decode cX11_methodEntryOf 32 = .ok (.iaload, 1) := by decide +kernel
theorem dX11_methodEntryOf_33 : decode cX11_methodEntryOf 33 = .ok (.ifCond .ne 55, 3) := by decide +kernel
theorem dX11_methodEntryOf_36 : decode cX11_methodEntryOf 36 = .ok (.aload_n 0, 1) := by decide +kernel
theorem dX11_methodEntryOf_37 : decode cX11_methodEntryOf 37 = .ok (.aload_n 0, 1) := by decide +kernel
theorem dX11_methodEntryOf_38 : decode cX11_methodEntryOf 38 = .ok (.getfield 56, 3) := by decide +kernel
theorem dX11_methodEntryOf_41 : decode cX11_methodEntryOf 41 = .ok (.getfield 174, 3) := by decide +kernel
theorem dX11_methodEntryOf_44 : decode cX11_methodEntryOf 44 = .ok (.iload_n 1, 1) := by decide +kernel
theorem dX11_methodEntryOf_45 : decode cX11_methodEntryOf 45 = .ok (.iaload, 1) := by decide +kernel
theorem dX11_methodEntryOf_46 : decode cX11_methodEntryOf 46 = .ok (.invokevirtual 91, 3) := by decide +kernel
theorem dX11_methodEntryOf_49 : decode cX11_methodEntryOf 49 = .ok (.istore_n 2, 1) := by decide +kernel
theorem dX11_methodEntryOf_50 : decode cX11_methodEntryOf 50 = .ok (.aload_n 0, 1) := by decide +kernel
theorem dX11_methodEntryOf_51 : decode cX11_methodEntryOf 51 = .ok (.bipush 12, 2) := by decide +kernel
theorem dX11_methodEntryOf_53 : decode cX11_methodEntryOf 53 = .ok (.iload_n 2, 1) := by decide +kernel
theorem dX11_methodEntryOf_54 : decode cX11_methodEntryOf 54 = .ok (.aload_n 0, 1) := by decide +kernel
theorem dX11_methodEntryOf_55 : decode cX11_methodEntryOf 55 = .ok (.aload_n 0, 1) := by decide +kernel
theorem dX11_methodEntryOf_56 : decode cX11_methodEntryOf 56 = .ok (.getfield 56, 3) := by decide +kernel
theorem dX11_methodEntryOf_59 : decode cX11_methodEntryOf 59 = .ok (.getfield 177, 3) := by decide +kernel
theorem dX11_methodEntryOf_62 : decode cX11_methodEntryOf 62 = .ok (.iload_n 1, 1) := by decide +kernel
theorem dX11_methodEntryOf_63 : decode cX11_methodEntryOf 63 = .ok (.iaload, 1) := by decide +kernel
theorem dX11_methodEntryOf_64 : decode cX11_methodEntryOf 64 = .ok (.invokevirtual 91, 3) := by decide +kernel
theorem dX11_methodEntryOf_67 : decode cX11_methodEntryOf 67 = .ok (.invokevirtual 170, 3) := by decide +kernel
theorem dX11_methodEntryOf_70 : decode cX11_methodEntryOf 70 = .ok (.istore_n 3, 1) := by decide +kernel
theorem dX11_methodEntryOf_71 : decode cX11_methodEntryOf 71 = .ok (.aload_n 0, 1) := by decide +kernel
theorem dX11_methodEntryOf_72 : decode cX11_methodEntryOf 72 = .ok (.getfield 40, 3) := by decide +kernel
theorem dX11_methodEntryOf_75 : decode cX11_methodEntryOf 75 = .ok (.iload_n 1, 1) := by decide +kernel
theorem dX11_methodEntryOf_76 : decode cX11_methodEntryOf 76 = .ok (.aload_n 0, 1) := by decide +kernel
theorem dX11_methodEntryOf_77 : decode cX11_methodEntryOf 77 = .ok (.bipush 10, 2) := by decide +kernel
theorem dX11_methodEntryOf_79 : decode cX11_methodEntryOf 79 = .ok (.aload_n 0, 1) := by decide +kernel
theorem dX11_methodEntryOf_80 : decode cX11_methodEntryOf 80 = .ok (.getfield 99, 3) := by decide +kernel
theorem dX11_methodEntryOf_83 : decode cX11_methodEntryOf 83 = .ok (.iload_n 3, 1) := by decide +kernel
theorem dX11_methodEntryOf_84 : decode cX11_methodEntryOf 84 = .ok (.invokevirtual 170, 3) := by decide +kernel
theorem dX11_methodEntryOf_87 : decode cX11_methodEntryOf 87 = .ok (.iastore, 1) := by decide +kernel
theorem dX11_methodEntryOf_88 : decode cX11_methodEntryOf 88 = .ok (.aload_n 0, 1) := by decide +kernel
theorem dX11_methodEntryOf_89 : decode cX11_methodEntryOf 89 = .ok (.getfield 40, 3) := by decide +kernel
theorem dX11_methodEntryOf_92 : decode cX11_methodEntryOf 92 = .ok (.iload_n 1, 1) := by decide +kernel
theorem dX11_methodEntryOf_93 : decode cX11_methodEntryOf 93 = .ok (.iaload, 1) := by decide +kernel
theorem dX11_methodEntryOf_94 : decode cX11_methodEntryOf 94 = .ok (.ireturn, 1) := by decide +kernel
theorem dX11_nameEntry_0 : decode cX11_nameEntry 0 = .ok (.aload_n 0, 1) := by decide +kernel
theorem dX11_nameEntry_1 : decode cX11_nameEntry 1 = .ok (.iconst 1, 1) := by decide +kernel
theorem dX11_nameEntry_2 : decode cX11_nameEntry 2 = .ok (.invokevirtual 147, 3) := by decide +kernel
theorem dX11_nameEntry_5 : decode cX11_nameEntry 5 = .ok (.aload_n 0, 1) := by decide +kernel
theorem dX11_nameEntry_6 : decode cX11_nameEntry 6 = .ok (.iload_n 1, 1) := by decide +kernel
theorem dX11_nameEntry_7 : decode cX11_nameEntry 7 = .ok (.iconst 1, 1) := by decide +kernel
theorem dX11_nameEntry_8 : decode cX11_nameEntry 8 = .ok (.iadd, 1) := by decide +kernel
theorem dX11_nameEntry_9 : decode cX11_nameEntry 9 = .ok (.invokevirtual 163, 3) := by decide +kernel
theorem dX11_nameEntry_12 : decode cX11_nameEntry 12 = .ok (.bipush 8, 2) := by decide +kernel
theorem dX11_nameEntry_14 : decode cX11_nameEntry 14 = .ok (.ishl, 1) := by decide +kernel
theorem dX11_nameEntry_15 : decode cX11_nameEntry 15 = .ok (.aload_n 0, 1) := by decide +kernel
theorem dX11_nameEntry_16 : decode cX11_nameEntry 16 = .ok (.iload_n 1, 1) := by decide +kernel
theorem dX11_nameEntry_17 : decode cX11_nameEntry 17 = .ok (.iconst 2, 1) := by decide +kernel
theorem dX11_nameEntry_18 : decode cX11_nameEntry 18 = .ok (.iadd, 1) := by decide +kernel
theorem dX11_nameEntry_19 : decode cX11_nameEntry 19 = .ok (.invokevirtual 163, 3) := by decide +kernel
theorem dX11_nameEntry_22 : decode cX11_nameEntry 22 = .ok (.ior, 1) := by decide +kernel
theorem dX11_nameEntry_23 : decode cX11_nameEntry 23 = .ok (.istore_n 2, 1) := by decide +kernel
theorem dX11_nameEntry_24 : decode cX11_nameEntry 24 = .ok (.iconst 1, 1) := by decide +kernel
theorem dX11_nameEntry_25 : decode cX11_nameEntry 25 = .ok (.istore_n 3, 1) := by decide +kernel
theorem dX11_nameEntry_26 : decode cX11_nameEntry 26 = .ok (.iload_n 3, 1) := by decide +kernel
theorem dX11_nameEntry_27 : decode cX11_nameEntry 27 = .ok (.iconst 3, 1) := by decide +kernel
theorem dX11_nameEntry_28 : decode cX11_nameEntry 28 = .ok (.iload_n 2, 1) := by decide +kernel
theorem dX11_nameEntry_29 : decode cX11_nameEntry 29 = .ok (.iadd, 1) := by decide +kernel
theorem dX11_nameEntry_30 : decode cX11_nameEntry 30 = .ok (.if_icmp .ge 23, 3) := by decide +kernel
theorem dX11_nameEntry_33 : decode cX11_nameEntry 33 = .ok (.aload_n 0, 1) := by decide +kernel
theorem dX11_nameEntry_34 : decode cX11_nameEntry 34 = .ok (.getfield 21, 3) := by decide +kernel
theorem dX11_nameEntry_37 : decode cX11_nameEntry 37 = .ok (.aload_n 0, 1) := by decide +kernel
theorem dX11_nameEntry_38 : decode cX11_nameEntry 38 = .ok (.iload_n 1, 1) := by decide +kernel
theorem dX11_nameEntry_39 : decode cX11_nameEntry 39 = .ok (.iload_n 3, 1) := by decide +kernel
theorem dX11_nameEntry_40 : decode cX11_nameEntry 40 = .ok (.iadd, 1) := by decide +kernel
theorem dX11_nameEntry_41 : decode cX11_nameEntry 41 = .ok (.invokevirtual 163, 3) := by decide +kernel
theorem dX11_nameEntry_44 : decode cX11_nameEntry 44 = .ok (.invokevirtual 129, 3) := by decide +kernel
theorem dX11_nameEntry_47 : decode cX11_nameEntry 47 = .ok (.iinc 3 1, 3) := by decide +kernel
theorem dX11_nameEntry_50 : decode cX11_nameEntry 50 = .ok (.goto (-24), 3) := by decide +kernel
theorem dX11_nameEntry_53 : decode cX11_nameEntry 53 = .ok (.aload_n 0, 1) := by decide +kernel
theorem dX11_nameEntry_54 : decode cX11_nameEntry 54 = .ok (.invokevirtual 160, 3) := by decide +kernel
theorem dX11_nameEntry_57 : decode cX11_nameEntry 57 = .ok (.ireturn, 1) := by decide +kernel
theorem dX11_needOf_0 : decode cX11_needOf 0 = .ok (.aload_n 0, 1) := by decide +kernel
theorem dX11_needOf_1 : decode cX11_needOf 1 = .ok (.getfield 180, 3) := by decide +kernel
theorem dX11_needOf_4 : decode cX11_needOf 4 = .ok (.iload_n 1, 1) := by decide +kernel
theorem dX11_needOf_5 : decode cX11_needOf 5 = .ok (.invokevirtual 263, 3) := by decide +kernel
theorem dX11_needOf_8 : decode cX11_needOf 8 = .ok (.lstore_n 2, 1) := by decide +kernel
theorem dX11_needOf_9 : decode cX11_needOf 9 = .ok (.aload_n 0, 1) := by decide +kernel
theorem dX11_needOf_10 : decode cX11_needOf 10 = .ok (.getfield 180, 3) := by decide +kernel
theorem dX11_needOf_13 : decode cX11_needOf 13 = .ok (.iload_n 1, 1) := by decide +kernel
theorem dX11_needOf_14 : decode cX11_needOf 14 = .ok (.invokevirtual 240, 3) := by decide +kernel
theorem dX11_needOf_17 : decode cX11_needOf 17 = .ok (.lookupswitch 107 #[(17, 51), (20, 71), (178, 93), (179, 93), (184, 100)], 51) := by decide +kernel
theorem dX11_needOf_68 : decode cX11_needOf 68 = .ok (.lload_n 2, 1) := by decide +kernel
theorem dX11_needOf_69 : decode cX11_needOf 69 = .ok (.lload_n 2, 1) := by decide +kernel
theorem dX11_needOf_70 : decode cX11_needOf 70 = .ok (.l2i, 1) := by decide +kernel
theorem dX11_needOf_71 : decode cX11_needOf 71 = .ok (.i2s, 1) := by decide +kernel
theorem dX11_needOf_72 : decode cX11_needOf 72 = .ok (.i2l, 1) := by decide +kernel
theorem dX11_needOf_73 : decode cX11_needOf 73 = .ok (.lcmp, 1) := by decide +kernel
theorem dX11_needOf_74 : decode cX11_needOf 74 = .ok (.ifCond .ne 7, 3) := by decide +kernel
theorem dX11_needOf_77 : decode cX11_needOf 77 = .ok (.iconst 0, 1) := by decide +kernel
theorem dX11_needOf_78 : decode cX11_needOf 78 = .ok (.goto 9, 3) := by decide +kernel
theorem dX11_needOf_81 : decode cX11_needOf 81 = .ok (.aload_n 0, 1) := by decide +kernel
theorem dX11_needOf_82 : decode cX11_needOf 82 = .ok (.lload_n 2, 1) := by decide +kernel
theorem dX11_needOf_83 : decode cX11_needOf 83 = .ok (.l2i, 1) := by decide +kernel
theorem dX11_needOf_84 : decode cX11_needOf 84 = .ok (.invokevirtual 267, 3) := by decide +kernel
theorem dX11_needOf_87 : decode cX11_needOf 87 = .ok (.ireturn, 1) := by decide +kernel
theorem dX11_needOf_88 : decode cX11_needOf 88 = .ok (.lload_n 2, 1) := by decide +kernel
theorem dX11_needOf_89 : decode cX11_needOf 89 = .ok (.lconst 0, 1) := by decide +kernel
theorem dX11_needOf_90 : decode cX11_needOf 90 = .ok (.lcmp, 1) := by decide +kernel
theorem dX11_needOf_91 : decode cX11_needOf 91 = .ok (.ifCond .eq 9, 3) := by decide +kernel
theorem dX11_needOf_94 : decode cX11_needOf 94 = .ok (.lload_n 2, 1) := by decide +kernel
theorem dX11_needOf_95 : decode cX11_needOf 95 = .ok (.lconst 1, 1) := by decide +kernel
theorem dX11_needOf_96 : decode cX11_needOf 96 = .ok (.lcmp, 1) := by decide +kernel
theorem dX11_needOf_97 : decode cX11_needOf 97 = .ok (.ifCond .ne 7, 3) := by decide +kernel
theorem dX11_needOf_100 : decode cX11_needOf 100 = .ok (.iconst 0, 1) := by decide +kernel
theorem dX11_needOf_101 : decode cX11_needOf 101 = .ok (.goto 8, 3) := by decide +kernel
theorem dX11_needOf_104 : decode cX11_needOf 104 = .ok (.aload_n 0, 1) := by decide +kernel
theorem dX11_needOf_105 : decode cX11_needOf 105 = .ok (.lload_n 2, 1) := by decide +kernel
theorem dX11_needOf_106 : decode cX11_needOf 106 = .ok (.invokevirtual 270, 3) := by decide +kernel
theorem dX11_needOf_109 : decode cX11_needOf 109 = .ok (.ireturn, 1) := by decide +kernel
theorem dX11_needOf_110 : decode cX11_needOf 110 = .ok (.aload_n 0, 1) := by decide +kernel
theorem dX11_needOf_111 : decode cX11_needOf 111 = .ok (.lload_n 2, 1) := by decide +kernel
theorem dX11_needOf_112 : decode cX11_needOf 112 = .ok (.l2i, 1) := by decide +kernel
theorem dX11_needOf_113 : decode cX11_needOf 113 = .ok (.invokevirtual 274, 3) := by decide +kernel
theorem dX11_needOf_116 : decode cX11_needOf 116 = .ok (.ireturn, 1) := by decide +kernel
theorem dX11_needOf_117 : decode cX11_needOf 117 = .ok (.aload_n 0, 1) := by decide +kernel
theorem dX11_needOf_118 : decode cX11_needOf 118 = .ok (.lload_n 2, 1) := by decide +kernel
theorem dX11_needOf_119 : decode cX11_needOf 119 = .ok (.l2i, 1) := by decide +kernel
theorem dX11_needOf_120 : decode cX11_needOf 120 = .ok (.invokevirtual 277, 3) := by decide +kernel
theorem dX11_needOf_123 : decode cX11_needOf 123 = .ok (.ireturn, 1) := by decide +kernel
theorem dX11_needOf_124 : decode cX11_needOf 124 = .ok (.iconst 0, 1) := by decide +kernel
theorem dX11_needOf_125 : decode cX11_needOf 125 = .ok (.ireturn, 1) := by decide +kernel
theorem dX11_offsetOf_0 : decode cX11_offsetOf 0 = .ok (.iload_n 1, 1) := by decide +kernel
theorem dX11_offsetOf_1 : decode cX11_offsetOf 1 = .ok (.ifCond .lt 14, 3) := by decide +kernel
theorem dX11_offsetOf_4 : decode cX11_offsetOf 4 = .ok (.iload_n 1, 1) := by decide +kernel
theorem dX11_offsetOf_5 : decode cX11_offsetOf 5 = .ok (.aload_n 0, 1) := by decide +kernel
theorem dX11_offsetOf_6 : decode cX11_offsetOf 6 = .ok (.getfield 180, 3) := by decide +kernel
theorem dX11_offsetOf_9 : decode cX11_offsetOf 9 = .ok (.getfield 205, 3) := by decide +kernel
theorem dX11_offsetOf_12 : decode cX11_offsetOf 12 = .ok (.if_icmp .le 7, 3) := by decide +kernel
theorem dX11_offsetOf_15 : decode cX11_offsetOf 15 = .ok (.iconst 0, 1) := by decide +kernel
theorem dX11_offsetOf_16 : decode cX11_offsetOf 16 = .ok (.goto 9, 3) := by decide +kernel
theorem dX11_offsetOf_19 : decode cX11_offsetOf 19 = .ok (.aload_n 0, 1) := by decide +kernel
theorem dX11_offsetOf_20 : decode cX11_offsetOf 20 = .ok (.getfield 53, 3) := by decide +kernel
theorem dX11_offsetOf_23 : decode cX11_offsetOf 23 = .ok (.iload_n 1, 1) := by decide +kernel
theorem dX11_offsetOf_24 : decode cX11_offsetOf 24 = .ok (.iaload, 1) := by decide +kernel
theorem dX11_offsetOf_25 : decode cX11_offsetOf 25 = .ok (.ireturn, 1) := by decide +kernel
theorem dX11_pointerEntry_0 : decode cX11_pointerEntry 0 = .ok (.aload_n 0, 1) := by decide +kernel
theorem dX11_pointerEntry_1 : decode cX11_pointerEntry 1 = .ok (.iload_n 1, 1) := by decide +kernel
theorem dX11_pointerEntry_2 : decode cX11_pointerEntry 2 = .ok (.invokevirtual 147, 3) := by decide +kernel
theorem dX11_pointerEntry_5 : decode cX11_pointerEntry 5 = .ok (.aload_n 0, 1) := by decide +kernel
theorem dX11_pointerEntry_6 : decode cX11_pointerEntry 6 = .ok (.getfield 21, 3) := by decide +kernel
theorem dX11_pointerEntry_9 : decode cX11_pointerEntry 9 = .ok (.iload_n 2, 1) := by decide +kernel
theorem dX11_pointerEntry_10 : decode cX11_pointerEntry 10 = .ok (.invokevirtual 105, 3) := by decide +kernel
theorem dX11_pointerEntry_13 : decode cX11_pointerEntry 13 = .ok (.aload_n 0, 1) := by decide +kernel
theorem dX11_pointerEntry_14 : decode cX11_pointerEntry 14 = .ok (.invokevirtual 160, 3) := by decide +kernel
theorem dX11_pointerEntry_17 : decode cX11_pointerEntry 17 = .ok (.ireturn, 1) := by decide +kernel
theorem dX11_pointersEntry_0 : decode cX11_pointersEntry 0 = .ok (.aload_n 0, 1) := by decide +kernel
theorem dX11_pointersEntry_1 : decode cX11_pointersEntry 1 = .ok (.iload_n 1, 1) := by decide +kernel
theorem dX11_pointersEntry_2 : decode cX11_pointersEntry 2 = .ok (.invokevirtual 147, 3) := by decide +kernel
theorem dX11_pointersEntry_5 : decode cX11_pointersEntry 5 = .ok (.aload_n 0, 1) := by decide +kernel
theorem dX11_pointersEntry_6 : decode cX11_pointersEntry 6 = .ok (.getfield 21, 3) := by decide +kernel
theorem dX11_pointersEntry_9 : decode cX11_pointersEntry 9 = .ok (.iload_n 2, 1) := by decide +kernel
theorem dX11_pointersEntry_10 : decode cX11_pointersEntry 10 = .ok (.invokevirtual 105, 3) := by decide +kernel
theorem dX11_pointersEntry_13 : decode cX11_pointersEntry 13 = .ok (.aload_n 0, 1) := by decide +kernel
theorem dX11_pointersEntry_14 : decode cX11_pointersEntry 14 = .ok (.getfield 21, 3) := by decide +kernel
theorem dX11_pointersEntry_17 : decode cX11_pointersEntry 17 = .ok (.iload_n 3, 1) := by decide +kernel
theorem dX11_pointersEntry_18 : decode cX11_pointersEntry 18 = .ok (.invokevirtual 105, 3) := by decide +kernel
theorem dX11_pointersEntry_21 : decode cX11_pointersEntry 21 = .ok (.aload_n 0, 1) := by decide +kernel
theorem dX11_pointersEntry_22 : decode cX11_pointersEntry 22 = .ok (.invokevirtual 160, 3) := by decide +kernel
theorem dX11_pointersEntry_25 : decode cX11_pointersEntry 25 = .ok (.ireturn, 1) := by decide +kernel
theorem dX11_putGrow_0 : decode cX11_putGrow 0 = .ok (.iload_n 2, 1) := by decide +kernel
theorem dX11_putGrow_1 : decode cX11_putGrow 1 = .ok (.i2l, 1) := by decide +kernel
theorem dX11_putGrow_2 : decode cX11_putGrow 2 = .ok (.invokestatic 298, 3) := by decide +kernel
theorem dX11_putGrow_5 : decode cX11_putGrow 5 = .ok (.ifCond .eq 32, 3) := by decide +kernel
theorem dX11_putGrow_8 : decode cX11_putGrow 8 = .ok (.aload_n 0, 1) := by decide +kernel
theorem dX11_putGrow_9 : decode cX11_putGrow 9 = .ok (.getfield 18, 3) := by decide +kernel
theorem dX11_putGrow_12 : decode cX11_putGrow 12 = .ok (.sipush 132, 3) := by decide +kernel
theorem dX11_putGrow_15 : decode cX11_putGrow 15 = .ok (.invokevirtual 129, 3) := by decide +kernel
theorem dX11_putGrow_18 : decode cX11_putGrow 18 = .ok (.aload_n 0, 1) := by decide +kernel
theorem dX11_putGrow_19 : decode cX11_putGrow 19 = .ok (.getfield 18, 3) := by decide +kernel
theorem dX11_putGrow_22 : decode cX11_putGrow 22 = .ok (.iload_n 1, 1) := by decide +kernel
theorem dX11_putGrow_23 : decode cX11_putGrow 23 = .ok (.invokevirtual 129, 3) := by decide +kernel
theorem dX11_putGrow_26 : decode cX11_putGrow 26 = .ok (.aload_n 0, 1) := by decide +kernel
theorem dX11_putGrow_27 : decode cX11_putGrow 27 = .ok (.getfield 18, 3) := by decide +kernel
theorem dX11_putGrow_30 : decode cX11_putGrow 30 = .ok (.iload_n 2, 1) := by decide +kernel
theorem dX11_putGrow_31 : decode cX11_putGrow 31 = .ok (.invokevirtual 129, 3) := by decide +kernel
theorem dX11_putGrow_34 : decode cX11_putGrow 34 = .ok (.goto 39, 3) := by decide +kernel
theorem dX11_putGrow_37 : decode cX11_putGrow 37 = .ok (.aload_n 0, 1) := by decide +kernel
theorem dX11_putGrow_38 : decode cX11_putGrow 38 = .ok (.getfield 18, 3) := by decide +kernel
theorem dX11_putGrow_41 : decode cX11_putGrow 41 = .ok (.sipush 196, 3) := by decide +kernel
theorem dX11_putGrow_44 : decode cX11_putGrow 44 = .ok (.invokevirtual 129, 3) := by decide +kernel
theorem dX11_putGrow_47 : decode cX11_putGrow 47 = .ok (.aload_n 0, 1) := by decide +kernel
theorem dX11_putGrow_48 : decode cX11_putGrow 48 = .ok (.getfield 18, 3) := by decide +kernel
theorem dX11_putGrow_51 : decode cX11_putGrow 51 = .ok (.sipush 132, 3) := by decide +kernel
theorem dX11_putGrow_54 : decode cX11_putGrow 54 = .ok (.invokevirtual 129, 3) := by decide +kernel
theorem dX11_putGrow_57 : decode cX11_putGrow 57 = .ok (.aload_n 0, 1) := by decide +kernel
theorem dX11_putGrow_58 : decode cX11_putGrow 58 = .ok (.getfield 18, 3) := by decide +kernel
theorem dX11_putGrow_61 : decode cX11_putGrow 61 = .ok (.iload_n 1, 1) := by decide +kernel
theorem dX11_putGrow_62 : decode cX11_putGrow 62 = .ok (.invokevirtual 105, 3) := by decide +kernel
theorem dX11_putGrow_65 : decode cX11_putGrow 65 = .ok (.aload_n 0, 1) := by decide +kernel
theorem dX11_putGrow_66 : decode cX11_putGrow 66 = .ok (.getfield 18, 3) := by decide +kernel
theorem dX11_putGrow_69 : decode cX11_putGrow 69 = .ok (.iload_n 2, 1) := by decide +kernel
theorem dX11_putGrow_70 : decode cX11_putGrow 70 = .ok (.invokevirtual 105, 3) := by decide +kernel
theorem dX11_putGrow_73 : decode cX11_putGrow 73 = .ok (.return_, 1) := by decide +kernel
theorem dX11_putInstruction_0 : decode cX11_putInstruction 0 = .ok (.aload_n 0, 1) := by decide +kernel
theorem dX11_putInstruction_1 : decode cX11_putInstruction 1 = .ok (.getfield 180, 3) := by decide +kernel
theorem dX11_putInstruction_4 : decode cX11_putInstruction 4 = .ok (.iload_n 1, 1) := by decide +kernel
theorem dX11_putInstruction_5 : decode cX11_putInstruction 5 = .ok (.invokevirtual 240, 3) := by decide +kernel
theorem dX11_putInstruction_8 : decode cX11_putInstruction 8 = .ok (.istore_n 3, 1) := by decide +kernel
theorem dX11_putInstruction_9 : decode cX11_putInstruction 9 = .ok (.aload_n 0, 1) := by decide +kernel
theorem dX11_putInstruction_10 : decode cX11_putInstruction 10 = .ok (.getfield 180, 3) := by decide +kernel
theorem dX11_putInstruction_13 : decode cX11_putInstruction 13 = .ok (.iload_n 1, 1) := by decide +kernel
theorem dX11_putInstruction_14 : decode cX11_putInstruction 14 = .ok (.invokevirtual 263, 3) := by decide +kernel
theorem dX11_putInstruction_17 : decode cX11_putInstruction 17 = .ok (.lstore 4, 2) := by decide +kernel
theorem dX11_putInstruction_19 : decode cX11_putInstruction 19 = .ok (.iload_n 3, 1) := by decide +kernel
theorem dX11_putInstruction_20 : decode cX11_putInstruction 20 = .ok (.invokestatic 280, 3) := by decide +kernel
theorem dX11_putInstruction_23 : decode cX11_putInstruction 23 = .ok (.ifCond .ne 10, 3) := by decide +kernel
theorem dX11_putInstruction_26 : decode cX11_putInstruction 26 = .ok (.iload_n 3, 1) := by decide +kernel
theorem dX11_putInstruction_27 : decode cX11_putInstruction 27 = .ok (.invokestatic 283, 3) := by decide +kernel
theorem dX11_putInstruction_30 : decode cX11_putInstruction 30 = .ok (.ifCond .eq 14, 3) := by decide +kernel
theorem dX11_putInstruction_33 : decode cX11_putInstruction 33 = .ok (.aload_n 0, 1) := by decide +kernel
theorem dX11_putInstruction_34 : decode cX11_putInstruction 34 = .ok (.iload_n 3, 1) := by decide +kernel
theorem dX11_putInstruction_35 : decode cX11_putInstruction 35 = .ok (.lload 4, 2) := by decide +kernel
theorem dX11_putInstruction_37 : decode cX11_putInstruction 37 = .ok (.l2i, 1) := by decide +kernel
theorem dX11_putInstruction_38 : decode cX11_putInstruction 38 = .ok (.invokevirtual 309, 3) := by decide +kernel
theorem dX11_putInstruction_41 : decode cX11_putInstruction 41 = .ok (.goto 191, 3) := by decide +kernel
theorem dX11_putInstruction_44 : decode cX11_putInstruction 44 = .ok (.iload_n 3, 1) := by decide +kernel
theorem dX11_putInstruction_45 : decode cX11_putInstruction 45 = .ok (.invokestatic 288, 3) := by decide +kernel
theorem dX11_putInstruction_48 : decode cX11_putInstruction 48 = .ok (.ifCond .eq 34, 3) := by decide +kernel
theorem dX11_putInstruction_51 : decode cX11_putInstruction 51 = .ok (.aload_n 0, 1) := by decide +kernel
theorem dX11_putInstruction_52 : decode cX11_putInstruction 52 = .ok (.getfield 18, 3) := by decide +kernel
theorem dX11_putInstruction_55 : decode cX11_putInstruction 55 = .ok (.iload_n 3, 1) := by decide +kernel
theorem dX11_putInstruction_56 : decode cX11_putInstruction 56 = .ok (.invokevirtual 129, 3) := by decide +kernel
theorem dX11_putInstruction_59 : decode cX11_putInstruction 59 = .ok (.aload_n 0, 1) := by decide +kernel
theorem dX11_putInstruction_60 : decode cX11_putInstruction 60 = .ok (.getfield 18, 3) := by decide +kernel
theorem dX11_putInstruction_63 : decode cX11_putInstruction 63 = .ok (.aload_n 0, 1) := by decide +kernel
theorem dX11_putInstruction_64 : decode cX11_putInstruction 64 = .ok (.lload 4, 2) := by decide +kernel
theorem dX11_putInstruction_66 : decode cX11_putInstruction 66 = .ok (.l2i, 1) := by decide +kernel
theorem dX11_putInstruction_67 : decode cX11_putInstruction 67 = .ok (.invokevirtual 213, 3) := by decide +kernel
theorem dX11_putInstruction_70 : decode cX11_putInstruction 70 = .ok (.aload_n 0, 1) := by decide +kernel
theorem dX11_putInstruction_71 : decode cX11_putInstruction 71 = .ok (.iload_n 1, 1) := by decide +kernel
theorem dX11_putInstruction_72 : decode cX11_putInstruction 72 = .ok (.invokevirtual 213, 3) := by decide +kernel
theorem dX11_putInstruction_75 : decode cX11_putInstruction 75 = .ok (.isub, 1) := by decide +kernel
theorem dX11_putInstruction_76 : decode cX11_putInstruction 76 = .ok (.invokevirtual 105, 3) := by decide +kernel
theorem dX11_putInstruction_79 : decode cX11_putInstruction 79 = .ok (.goto 153, 3) := by decide +kernel
theorem dX11_putInstruction_82 : decode cX11_putInstruction 82 = .ok (.iload_n 3, 1) := by decide +kernel
theorem dX11_putInstruction_83 : decode cX11_putInstruction 83 = .ok (.invokestatic 312, 3) := by decide +kernel
theorem dX11_putInstruction_86 : decode cX11_putInstruction 86 = .ok (.ifCond .eq 12, 3) := by decide +kernel
theorem dX11_putInstruction_89 : decode cX11_putInstruction 89 = .ok (.aload_n 0, 1) := by decide +kernel
theorem dX11_putInstruction_90 : decode cX11_putInstruction 90 = .ok (.iload_n 1, 1) := by decide +kernel
theorem dX11_putInstruction_91 : decode cX11_putInstruction 91 = .ok (.iload_n 2, 1) := by decide +kernel
theorem dX11_putInstruction_92 : decode cX11_putInstruction 92 = .ok (.invokevirtual 315, 3) := by decide +kernel
theorem dX11_putInstruction_95 : decode cX11_putInstruction 95 = .ok (.goto 137, 3) := by decide +kernel
theorem dX11_putInstruction_98 : decode cX11_putInstruction 98 = .ok (.iload_n 3, 1) := by decide +kernel
theorem dX11_putInstruction_99 : decode cX11_putInstruction 99 = .ok (.bipush 17, 2) := by decide +kernel
theorem dX11_putInstruction_101 : decode cX11_putInstruction 101 = .ok (.if_icmp .ne 19, 3) := by decide +kernel
theorem dX11_putInstruction_104 : decode cX11_putInstruction 104 = .ok (.aload_n 0, 1) := by decide +kernel
theorem dX11_putInstruction_105 : decode cX11_putInstruction 105 = .ok (.lload 4, 2) := by decide +kernel
theorem dX11_putInstruction_107 : decode cX11_putInstruction 107 = .ok (.l2i, 1) := by decide +kernel
theorem dX11_putInstruction_108 : decode cX11_putInstruction 108 = .ok (.aload_n 0, 1) := by decide +kernel
theorem dX11_putInstruction_109 : decode cX11_putInstruction 109 = .ok (.getfield 50, 3) := by decide +kernel
theorem dX11_putInstruction_112 : decode cX11_putInstruction 112 = .ok (.iload_n 1, 1) := by decide +kernel
theorem dX11_putInstruction_113 : decode cX11_putInstruction 113 = .ok (.iaload, 1) := by decide +kernel
theorem dX11_putInstruction_114 : decode cX11_putInstruction 114 = .ok (.invokevirtual 318, 3) := by decide +kernel
theorem dX11_putInstruction_117 : decode cX11_putInstruction 117 = .ok (.goto 115, 3) := by decide +kernel
theorem dX11_putInstruction_120 : decode cX11_putInstruction 120 = .ok (.iload_n 3, 1) := by decide +kernel
theorem dX11_putInstruction_121 : decode cX11_putInstruction 121 = .ok (.bipush 20, 2) := by decide +kernel
theorem dX11_putInstruction_123 : decode cX11_putInstruction 123 = .ok (.if_icmp .ne 18, 3) := by decide +kernel
theorem dX11_putInstruction_126 : decode cX11_putInstruction 126 = .ok (.aload_n 0, 1) := by decide +kernel
theorem dX11_putInstruction_127 : decode cX11_putInstruction 127 = .ok (.lload 4, 2) := by decide +kernel
theorem dX11_putInstruction_129 : decode cX11_putInstruction 129 = .ok (.aload_n 0, 1) := by decide +kernel
theorem dX11_putInstruction_130 : decode cX11_putInstruction 130 = .ok (.getfield 50, 3) := by decide +kernel
theorem dX11_putInstruction_133 : decode cX11_putInstruction 133 = .ok (.iload_n 1, 1) := by decide +kernel
theorem dX11_putInstruction_134 : decode cX11_putInstruction 134 = .ok (.iaload, 1) := by decide +kernel
theorem dX11_putInstruction_135 : decode cX11_putInstruction 135 = .ok (.invokevirtual 321, 3) := by decide +kernel
theorem dX11_putInstruction_138 : decode cX11_putInstruction 138 = .ok (.goto 94, 3) := by decide +kernel
theorem dX11_putInstruction_141 : decode cX11_putInstruction 141 = .ok (.iload_n 3, 1) := by decide +kernel
theorem dX11_putInstruction_142 : decode cX11_putInstruction 142 = .ok (.sipush 132, 3) := by decide +kernel
theorem dX11_putInstruction_145 : decode cX11_putInstruction 145 = .ok (.if_icmp .ne 26, 3) := by decide +kernel
theorem dX11_putInstruction_148 : decode cX11_putInstruction 148 = .ok (.aload_n 0, 1) := by decide +kernel
theorem dX11_putInstruction_149 : decode cX11_putInstruction 149 = .ok (.aload_n 0, 1) := by decide +kernel
theorem dX11_putInstruction_150 : decode cX11_putInstruction 150 = .ok (.getfield 180, 3) := by decide +kernel
theorem dX11_putInstruction_153 : decode cX11_putInstruction 153 = .ok (.iload_n 1, 1) := by decide +kernel
theorem dX11_putInstruction_154 : decode cX11_putInstruction 154 = .ok (.invokevirtual 246, 3) := by decide +kernel
theorem dX11_putInstruction_157 : decode cX11_putInstruction 157 = .ok (.aload_n 0, 1) := by decide +kernel
theorem dX11_putInstruction_158 : decode cX11_putInstruction 158 = .ok (.getfield 180, 3) := by decide +kernel
theorem dX11_putInstruction_161 : decode cX11_putInstruction 161 = .ok (.iload_n 1, 1) := by decide +kernel
theorem dX11_putInstruction_162 : decode cX11_putInstruction 162 = .ok (.invokevirtual 295, 3) := by decide +kernel
theorem dX11_putInstruction_165 : decode cX11_putInstruction 165 = .ok (.invokevirtual 325, 3) := by decide +kernel
theorem dX11_putInstruction_168 : decode cX11_putInstruction 168 = .ok (.goto 64, 3) := by decide +kernel
theorem dX11_putInstruction_171 : decode cX11_putInstruction 171 = .ok (.aload_n 0, 1) := by decide +kernel
theorem dX11_putInstruction_172 : decode cX11_putInstruction 172 = .ok (.getfield 18, 3) := by decide +kernel
theorem dX11_putInstruction_175 : decode cX11_putInstruction 175 = .ok (.iload_n 3, 1) := by decide +kernel
theorem dX11_putInstruction_176 : decode cX11_putInstruction 176 = .ok (.invokevirtual 129, 3) := by decide +kernel
theorem dX11_putInstruction_179 : decode cX11_putInstruction 179 = .ok (.iload_n 3, 1) := by decide +kernel
theorem dX11_putInstruction_180 : decode cX11_putInstruction 180 = .ok (.sipush 178, 3) := by decide +kernel
theorem dX11_putInstruction_183 : decode cX11_putInstruction 183 = .ok (.if_icmp .eq 17, 3) := by decide +kernel
theorem dX11_putInstruction_186 : decode cX11_putInstruction 186 = .ok (.iload_n 3, 1) := by decide +kernel
theorem dX11_putInstruction_187 : decode cX11_putInstruction 187 = .ok (.sipush 179, 3) := by decide +kernel
theorem dX11_putInstruction_190 : decode cX11_putInstruction 190 = .ok (.if_icmp .eq 10, 3) := by decide +kernel
theorem dX11_putInstruction_193 : decode cX11_putInstruction 193 = .ok (.iload_n 3, 1) := by decide +kernel
theorem dX11_putInstruction_194 : decode cX11_putInstruction 194 = .ok (.sipush 184, 3) := by decide +kernel
theorem dX11_putInstruction_197 : decode cX11_putInstruction 197 = .ok (.if_icmp .ne 19, 3) := by decide +kernel
theorem dX11_putInstruction_200 : decode cX11_putInstruction 200 = .ok (.aload_n 0, 1) := by decide +kernel
theorem dX11_putInstruction_201 : decode cX11_putInstruction 201 = .ok (.getfield 18, 3) := by decide +kernel
theorem dX11_putInstruction_204 : decode cX11_putInstruction 204 = .ok (.aload_n 0, 1) := by decide +kernel
theorem dX11_putInstruction_205 : decode cX11_putInstruction 205 = .ok (.getfield 50, 3) := by decide +kernel
theorem dX11_putInstruction_208 : decode cX11_putInstruction 208 = .ok (.iload_n 1, 1) := by decide +kernel
theorem dX11_putInstruction_209 : decode cX11_putInstruction 209 = .ok (.iaload, 1) := by decide +kernel
theorem dX11_putInstruction_210 : decode cX11_putInstruction 210 = .ok (.invokevirtual 105, 3) := by decide +kernel
theorem dX11_putInstruction_213 : decode cX11_putInstruction 213 = .ok (.goto 19, 3) := by decide +kernel
theorem dX11_putInstruction_216 : decode cX11_putInstruction 216 = .ok (.iload_n 3, 1) := by decide +kernel
theorem dX11_putInstruction_217 : decode cX11_putInstruction 217 = .ok (.sipush 188, 3) := by decide +kernel
theorem dX11_putInstruction_220 : decode cX11_putInstruction 220 = .ok (.if_icmp .ne 12, 3) := by decide +kernel
theorem dX11_putInstruction_223 : decode cX11_putInstruction 223 = .ok (.aload_n 0, 1) := by decide +kernel
theorem dX11_putInstruction_224 : decode cX11_putInstruction 224 = .ok (.getfield 18, 3) := by decide +kernel
theorem dX11_putInstruction_227 : decode cX11_putInstruction 227 = .ok (.bipush 10, 2) := by decide +kernel
theorem dX11_putInstruction_229 : decode cX11_putInstruction 229 = .ok (.invokevirtual 129, 3) := by decide +kernel
theorem dX11_putInstruction_232 : decode cX11_putInstruction 232 = .ok (.return_, 1) := by decide +kernel
theorem dX11_putInt_0 : decode cX11_putInt 0 = .ok (.iload_n 1, 1) := by decide +kernel
theorem dX11_putInt_1 : decode cX11_putInt 1 = .ok (.iconst (-1), 1) := by decide +kernel
theorem dX11_putInt_2 : decode cX11_putInt 2 = .ok (.if_icmp .lt 21, 3) := by decide +kernel
theorem dX11_putInt_5 : decode cX11_putInt 5 = .ok (.iload_n 1, 1) := by decide +kernel
theorem dX11_putInt_6 : decode cX11_putInt 6 = .ok (.iconst 5, 1) := by decide +kernel
theorem dX11_putInt_7 : decode cX11_putInt 7 = .ok (.if_icmp .gt 16, 3) := by decide +kernel
theorem dX11_putInt_10 : decode cX11_putInt 10 = .ok (.aload_n 0, 1) := by decide +kernel
theorem dX11_putInt_11 : decode cX11_putInt 11 = .ok (.getfield 18, 3) := by decide +kernel
theorem dX11_putInt_14 : decode cX11_putInt 14 = .ok (.iload_n 1, 1) := by decide +kernel
theorem dX11_putInt_15 : decode cX11_putInt 15 = .ok (.iconst 3, 1) := by decide +kernel
theorem dX11_putInt_16 : decode cX11_putInt 16 = .ok (.iadd, 1) := by decide +kernel
theorem dX11_putInt_17 : decode cX11_putInt 17 = .ok (.invokevirtual 129, 3) := by decide +kernel
theorem dX11_putInt_20 : decode cX11_putInt 20 = .ok (.goto 101, 3) := by decide +kernel
theorem dX11_putInt_23 : decode cX11_putInt 23 = .ok (.iload_n 1, 1) := by decide +kernel
theorem dX11_putInt_24 : decode cX11_putInt 24 = .ok (.i2l, 1) := by decide +kernel
theorem dX11_putInt_25 : decode cX11_putInt 25 = .ok (.invokestatic 298, 3) := by decide +kernel
theorem dX11_putInt_28 : decode cX11_putInt 28 = .ok (.ifCond .eq 23, 3) := by decide +kernel
theorem dX11_putInt_31 : decode cX11_putInt 31 = .ok (.aload_n 0, 1) := by decide +kernel
theorem dX11_putInt_32 : decode cX11_putInt 32 = .ok (.getfield 18, 3) := by decide +kernel
theorem dX11_putInt_35 : decode cX11_putInt 35 = .ok (.bipush 16, 2) := by decide +kernel
theorem dX11_putInt_37 : decode cX11_putInt 37 = .ok (.invokevirtual 129, 3) := by decide +kernel
theorem dX11_putInt_40 : decode cX11_putInt 40 = .ok (.aload_n 0, 1) := by decide +kernel
theorem dX11_putInt_41 : decode cX11_putInt 41 = .ok (.getfield 18, 3) := by decide +kernel
theorem dX11_putInt_44 : decode cX11_putInt 44 = .ok (.iload_n 1, 1) := by decide +kernel
theorem dX11_putInt_45 : decode cX11_putInt 45 = .ok (.invokevirtual 129, 3) := by decide +kernel
theorem dX11_putInt_48 : decode cX11_putInt 48 = .ok (.goto 73, 3) := by decide +kernel
theorem dX11_putInt_51 : decode cX11_putInt 51 = .ok (.iload_n 1, 1) := by decide +kernel
theorem dX11_putInt_52 : decode cX11_putInt 52 = .ok (.iload_n 1, 1) := by decide +kernel
theorem dX11_putInt_53 : decode cX11_putInt 53 = .ok (.i2s, 1) := by decide +kernel
theorem dX11_putInt_54 : decode cX11_putInt 54 = .ok (.if_icmp .ne 23, 3) := by decide +kernel
theorem dX11_putInt_57 : decode cX11_putInt 57 = .ok (.aload_n 0, 1) := by decide +kernel
theorem dX11_putInt_58 : decode cX11_putInt 58 = .ok (.getfield 18, 3) := by decide +kernel
theorem dX11_putInt_61 : decode cX11_putInt 61 = .ok (.bipush 17, 2) := by decide +kernel
theorem dX11_putInt_63 : decode cX11_putInt 63 = .ok (.invokevirtual 129, 3) := by decide +kernel
theorem dX11_putInt_66 : decode cX11_putInt 66 = .ok (.aload_n 0, 1) := by decide +kernel
theorem dX11_putInt_67 : decode cX11_putInt 67 = .ok (.getfield 18, 3) := by decide +kernel
theorem dX11_putInt_70 : decode cX11_putInt 70 = .ok (.iload_n 1, 1) := by decide +kernel
theorem dX11_putInt_71 : decode cX11_putInt 71 = .ok (.invokevirtual 105, 3) := by decide +kernel
theorem dX11_putInt_74 : decode cX11_putInt 74 = .ok (.goto 47, 3) := by decide +kernel
theorem dX11_putInt_77 : decode cX11_putInt 77 = .ok (.iload_n 2, 1) := by decide +kernel
theorem dX11_putInt_78 : decode cX11_putInt 78 = .ok (.sipush 256, 3) := by decide +kernel
theorem dX11_putInt_81 : decode cX11_putInt 81 = .ok (.if_icmp .ge 23, 3) := by decide +kernel
theorem dX11_putInt_84 : decode cX11_putInt 84 = .ok (.aload_n 0, 1) := by decide +kernel
theorem dX11_putInt_85 : decode cX11_putInt 85 = .ok (.getfield 18, 3) := by decide +kernel
theorem dX11_putInt_88 : decode cX11_putInt 88 = .ok (.bipush 18, 2) := by decide +kernel
theorem dX11_putInt_90 : decode cX11_putInt 90 = .ok (.invokevirtual 129, 3) := by decide +kernel
theorem dX11_putInt_93 : decode cX11_putInt 93 = .ok (.aload_n 0, 1) := by decide +kernel
theorem dX11_putInt_94 : decode cX11_putInt 94 = .ok (.getfield 18, 3) := by decide +kernel
theorem dX11_putInt_97 : decode cX11_putInt 97 = .ok (.iload_n 2, 1) := by decide +kernel
theorem dX11_putInt_98 : decode cX11_putInt 98 = .ok (.invokevirtual 129, 3) := by decide +kernel
theorem dX11_putInt_101 : decode cX11_putInt 101 = .ok (.goto 20, 3) := by decide +kernel
theorem dX11_putInt_104 : decode cX11_putInt 104 = .ok (.aload_n 0, 1) := by decide +kernel
theorem dX11_putInt_105 : decode cX11_putInt 105 = .ok (.getfield 18, 3) := by decide +kernel
theorem dX11_putInt_108 : decode cX11_putInt 108 = .ok (.bipush 19, 2) := by decide +kernel
theorem dX11_putInt_110 : decode cX11_putInt 110 = .ok (.invokevirtual 129, 3) := by decide +kernel
theorem dX11_putInt_113 : decode cX11_putInt 113 = .ok (.aload_n 0, 1) := by decide +kernel
theorem dX11_putInt_114 : decode cX11_putInt 114 = .ok (.getfield 18, 3) := by decide +kernel
theorem dX11_putInt_117 : decode cX11_putInt 117 = .ok (.iload_n 2, 1) := by decide +kernel
theorem dX11_putInt_118 : decode cX11_putInt 118 = .ok (.invokevirtual 105, 3) := by decide +kernel
theorem dX11_putInt_121 : decode cX11_putInt 121 = .ok (.return_, 1) := by decide +kernel
theorem dX11_putLocal_0 : decode cX11_putLocal 0 = .ok (.iload_n 2, 1) := by decide +kernel
theorem dX11_putLocal_1 : decode cX11_putLocal 1 = .ok (.iconst 3, 1) := by decide +kernel
theorem dX11_putLocal_2 : decode cX11_putLocal 2 = .ok (.if_icmp .le 20, 3) := by decide +kernel
theorem dX11_putLocal_5 : decode cX11_putLocal 5 = .ok (.aload_n 0, 1) := by decide +kernel
theorem dX11_putLocal_6 : decode cX11_putLocal 6 = .ok (.getfield 18, 3) := by decide +kernel
theorem dX11_putLocal_9 : decode cX11_putLocal 9 = .ok (.iload_n 1, 1) := by decide +kernel
theorem dX11_putLocal_10 : decode cX11_putLocal 10 = .ok (.invokevirtual 129, 3) := by decide +kernel
theorem dX11_putLocal_13 : decode cX11_putLocal 13 = .ok (.aload_n 0, 1) := by decide +kernel
theorem dX11_putLocal_14 : decode cX11_putLocal 14 = .ok (.getfield 18, 3) := by decide +kernel
theorem dX11_putLocal_17 : decode cX11_putLocal 17 = .ok (.iload_n 2, 1) := by decide +kernel
theorem dX11_putLocal_18 : decode cX11_putLocal 18 = .ok (.invokevirtual 129, 3) := by decide +kernel
theorem dX11_putLocal_21 : decode cX11_putLocal 21 = .ok (.return_, 1) := by decide +kernel
theorem dX11_putLocal_22 : decode cX11_putLocal 22 = .ok (.iload_n 1, 1) := by decide +kernel
theorem dX11_putLocal_23 : decode cX11_putLocal 23 = .ok (.lookupswitch 119 #[(21, 49), (22, 63), (25, 77), (54, 91), (55, 105)], 49) := by decide +kernel
theorem dX11_putLocal_72 : decode cX11_putLocal 72 = .ok (.aload_n 0, 1) := by decide +kernel
theorem dX11_putLocal_73 : decode cX11_putLocal 73 = .ok (.getfield 18, 3) := by decide +kernel
theorem dX11_putLocal_76 : decode cX11_putLocal 76 = .ok (.bipush 26, 2) := by decide +kernel
theorem dX11_putLocal_78 : decode cX11_putLocal 78 = .ok (.iload_n 2, 1) := by decide +kernel
theorem dX11_putLocal_79 : decode cX11_putLocal 79 = .ok (.iadd, 1) := by decide +kernel
theorem dX11_putLocal_80 : decode cX11_putLocal 80 = .ok (.invokevirtual 129, 3) := by decide +kernel
theorem dX11_putLocal_83 : decode cX11_putLocal 83 = .ok (.goto 70, 3) := by decide +kernel
theorem dX11_putLocal_86 : decode cX11_putLocal 86 = .ok (.aload_n 0, 1) := by decide +kernel
theorem dX11_putLocal_87 : decode cX11_putLocal 87 = .ok (.getfield 18, 3) := by decide +kernel
theorem dX11_putLocal_90 : decode cX11_putLocal 90 = .ok (.bipush 30, 2) := by decide +kernel
theorem dX11_putLocal_92 : decode cX11_putLocal 92 = .ok (.iload_n 2, 1) := by decide +kernel
theorem dX11_putLocal_93 : decode cX11_putLocal 93 = .ok (.iadd, 1) := by decide +kernel
theorem dX11_putLocal_94 : decode cX11_putLocal 94 = .ok (.invokevirtual 129, 3) := by decide +kernel
theorem dX11_putLocal_97 : decode cX11_putLocal 97 = .ok (.goto 56, 3) := by decide +kernel
theorem dX11_putLocal_100 : decode cX11_putLocal 100 = .ok (.aload_n 0, 1) := by decide +kernel
theorem dX11_putLocal_101 : decode cX11_putLocal 101 = .ok (.getfield 18, 3) := by decide +kernel
theorem dX11_putLocal_104 : decode cX11_putLocal 104 = .ok (.bipush 42, 2) := by decide +kernel
theorem dX11_putLocal_106 : decode cX11_putLocal 106 = .ok (.iload_n 2, 1) := by decide +kernel
theorem dX11_putLocal_107 : decode cX11_putLocal 107 = .ok (.iadd, 1) := by decide +kernel
theorem dX11_putLocal_108 : decode cX11_putLocal 108 = .ok (.invokevirtual 129, 3) := by decide +kernel
theorem dX11_putLocal_111 : decode cX11_putLocal 111 = .ok (.goto 42, 3) := by decide +kernel
theorem dX11_putLocal_114 : decode cX11_putLocal 114 = .ok (.aload_n 0, 1) := by decide +kernel
theorem dX11_putLocal_115 : decode cX11_putLocal 115 = .ok (.getfield 18, 3) := by decide +kernel
theorem dX11_putLocal_118 : decode cX11_putLocal 118 = .ok (.bipush 59, 2) := by decide +kernel
theorem dX11_putLocal_120 : decode cX11_putLocal 120 = .ok (.iload_n 2, 1) := by decide +kernel
theorem dX11_putLocal_121 : decode cX11_putLocal 121 = .ok (.iadd, 1) := by decide +kernel
theorem dX11_putLocal_122 : decode cX11_putLocal 122 = .ok (.invokevirtual 129, 3) := by decide +kernel
theorem dX11_putLocal_125 : decode cX11_putLocal 125 = .ok (.goto 28, 3) := by decide +kernel
theorem dX11_putLocal_128 : decode cX11_putLocal 128 = .ok (.aload_n 0, 1) := by decide +kernel
theorem dX11_putLocal_129 : decode cX11_putLocal 129 = .ok (.getfield 18, 3) := by decide +kernel
theorem dX11_putLocal_132 : decode cX11_putLocal 132 = .ok (.bipush 63, 2) := by decide +kernel
theorem dX11_putLocal_134 : decode cX11_putLocal 134 = .ok (.iload_n 2, 1) := by decide +kernel
theorem dX11_putLocal_135 : decode cX11_putLocal 135 = .ok (.iadd, 1) := by decide +kernel
theorem dX11_putLocal_136 : decode cX11_putLocal 136 = .ok (.invokevirtual 129, 3) := by decide +kernel
theorem dX11_putLocal_139 : decode cX11_putLocal 139 = .ok (.goto 14, 3) := by decide +kernel
theorem dX11_putLocal_142 : decode cX11_putLocal 142 = .ok (.aload_n 0, 1) := by decide +kernel
theorem dX11_putLocal_143 : decode cX11_putLocal 143 = .ok (.getfield 18, 3) := by decide +kernel
theorem dX11_putLocal_146 : decode cX11_putLocal 146 = .ok (.bipush 75, 2) := by decide +kernel
theorem dX11_putLocal_148 : decode cX11_putLocal 148 = .ok (.iload_n 2, 1) := by decide +kernel
theorem dX11_putLocal_149 : decode cX11_putLocal 149 = .ok (.iadd, 1) := by decide +kernel
theorem dX11_putLocal_150 : decode cX11_putLocal 150 = .ok (.invokevirtual 129, 3) := by decide +kernel
theorem dX11_putLocal_153 : decode cX11_putLocal 153 = .ok (.return_, 1) := by decide +kernel
theorem dX11_putLong_0 : decode cX11_putLong 0 = .ok (.lload_n 1, 1) := by decide +kernel
theorem dX11_putLong_1 : decode cX11_putLong 1 = .ok (.lconst 0, 1) := by decide +kernel
theorem dX11_putLong_2 : decode cX11_putLong 2 = .ok (.lcmp, 1) := by decide +kernel
theorem dX11_putLong_3 : decode cX11_putLong 3 = .ok (.ifCond .eq 9, 3) := by decide +kernel
theorem dX11_putLong_6 : decode cX11_putLong 6 = .ok (.lload_n 1, 1) := by decide +kernel
theorem dX11_putLong_7 : decode cX11_putLong 7 = .ok (.lconst 1, 1) := by decide +kernel
theorem dX11_putLong_8 : decode cX11_putLong 8 = .ok (.lcmp, 1) := by decide +kernel
theorem dX11_putLong_9 : decode cX11_putLong 9 = .ok (.ifCond .ne 18, 3) := by decide +kernel
theorem dX11_putLong_12 : decode cX11_putLong 12 = .ok (.aload_n 0, 1) := by decide +kernel
theorem dX11_putLong_13 : decode cX11_putLong 13 = .ok (.getfield 18, 3) := by decide +kernel
theorem dX11_putLong_16 : decode cX11_putLong 16 = .ok (.bipush 9, 2) := by decide +kernel
theorem dX11_putLong_18 : decode cX11_putLong 18 = .ok (.lload_n 1, 1) := by decide +kernel
theorem dX11_putLong_19 : decode cX11_putLong 19 = .ok (.l2i, 1) := by decide +kernel
theorem dX11_putLong_20 : decode cX11_putLong 20 = .ok (.iadd, 1) := by decide +kernel
theorem dX11_putLong_21 : decode cX11_putLong 21 = .ok (.invokevirtual 129, 3) := by decide +kernel
theorem dX11_putLong_24 : decode cX11_putLong 24 = .ok (.goto 20, 3) := by decide +kernel
theorem dX11_putLong_27 : decode cX11_putLong 27 = .ok (.aload_n 0, 1) := by decide +kernel
theorem dX11_putLong_28 : decode cX11_putLong 28 = .ok (.getfield 18, 3) := by decide +kernel
theorem dX11_putLong_31 : decode cX11_putLong 31 = .ok (.bipush 20, 2) := by decide +kernel
theorem dX11_putLong_33 : decode cX11_putLong 33 = .ok (.invokevirtual 129, 3) := by decide +kernel
theorem dX11_putLong_36 : decode cX11_putLong 36 = .ok (.aload_n 0, 1) := by decide +kernel
theorem dX11_putLong_37 : decode cX11_putLong 37 = .ok (.getfield 18, 3) := by decide +kernel
theorem dX11_putLong_40 : decode cX11_putLong 40 = .ok (.iload_n 3, 1) := by decide +kernel
theorem dX11_putLong_41 : decode cX11_putLong 41 = .ok (.invokevirtual 105, 3) := by decide +kernel
theorem dX11_putLong_44 : decode cX11_putLong 44 = .ok (.return_, 1) := by decide +kernel
theorem dX11_putMember_0 : decode cX11_putMember 0 = .ok (.aload_n 0, 1) := by decide +kernel
theorem dX11_putMember_1 : decode cX11_putMember 1 = .ok (.getfield 18, 3) := by decide +kernel
theorem dX11_putMember_4 : decode cX11_putMember 4 = .ok (.bipush 9, 2) := by decide +kernel
theorem dX11_putMember_6 : decode cX11_putMember 6 = .ok (.invokevirtual 105, 3) := by decide +kernel
theorem dX11_putMember_9 : decode cX11_putMember 9 = .ok (.aload_n 0, 1) := by decide +kernel
theorem dX11_putMember_10 : decode cX11_putMember 10 = .ok (.getfield 18, 3) := by decide +kernel
theorem dX11_putMember_13 : decode cX11_putMember 13 = .ok (.iload_n 1, 1) := by decide +kernel
theorem dX11_putMember_14 : decode cX11_putMember 14 = .ok (.invokevirtual 105, 3) := by decide +kernel
theorem dX11_putMember_17 : decode cX11_putMember 17 = .ok (.aload_n 0, 1) := by decide +kernel
theorem dX11_putMember_18 : decode cX11_putMember 18 = .ok (.getfield 18, 3) := by decide +kernel
theorem dX11_putMember_21 : decode cX11_putMember 21 = .ok (.iload_n 2, 1) := by decide +kernel
theorem dX11_putMember_22 : decode cX11_putMember 22 = .ok (.invokevirtual 105, 3) := by decide +kernel
theorem dX11_putMember_25 : decode cX11_putMember 25 = .ok (.aload_n 0, 1) := by decide +kernel
theorem dX11_putMember_26 : decode cX11_putMember 26 = .ok (.getfield 18, 3) := by decide +kernel
theorem dX11_putMember_29 : decode cX11_putMember 29 = .ok (.iload_n 3, 1) := by decide +kernel
theorem dX11_putMember_30 : decode cX11_putMember 30 = .ok (.invokevirtual 105, 3) := by decide +kernel
theorem dX11_putMember_33 : decode cX11_putMember 33 = .ok (.return_, 1) := by decide +kernel
theorem dX11_putSwitch_0 : decode cX11_putSwitch 0 = .ok (.aload_n 0, 1) := by decide +kernel
theorem dX11_putSwitch_1 : decode cX11_putSwitch 1 = .ok (.getfield 180, 3) := by decide +kernel
theorem dX11_putSwitch_4 : decode cX11_putSwitch 4 = .ok (.iload_n 1, 1) := by decide +kernel
theorem dX11_putSwitch_5 : decode cX11_putSwitch 5 = .ok (.invokevirtual 263, 3) := by decide +kernel
theorem dX11_putSwitch_8 : decode cX11_putSwitch 8 = .ok (.l2i, 1) := by decide +kernel
theorem dX11_putSwitch_9 : decode cX11_putSwitch 9 = .ok (.istore_n 3, 1) := by decide +kernel
theorem dX11_putSwitch_10 : decode cX11_putSwitch 10 = .ok (.aload_n 0, 1) := by decide +kernel
theorem dX11_putSwitch_11 : decode cX11_putSwitch 11 = .ok (.getfield 180, 3) := by decide +kernel
theorem dX11_putSwitch_14 : decode cX11_putSwitch 14 = .ok (.iload_n 1, 1) := by decide +kernel
theorem dX11_putSwitch_15 : decode cX11_putSwitch 15 = .ok (.invokevirtual 302, 3) := by decide +kernel
theorem dX11_putSwitch_18 : decode cX11_putSwitch 18 = .ok (.iconst 1, 1) := by decide +kernel
theorem dX11_putSwitch_19 : decode cX11_putSwitch 19 = .ok (.isub, 1) := by decide +kernel
theorem dX11_putSwitch_20 : decode cX11_putSwitch 20 = .ok (.istore 4, 2) := by decide +kernel
theorem dX11_putSwitch_22 : decode cX11_putSwitch 22 = .ok (.aload_n 0, 1) := by decide +kernel
theorem dX11_putSwitch_23 : decode cX11_putSwitch 23 = .ok (.getfield 180, 3) := by decide +kernel
theorem dX11_putSwitch_26 : decode cX11_putSwitch 26 = .ok (.iload_n 1, 1) := by decide +kernel
theorem dX11_putSwitch_27 : decode cX11_putSwitch 27 = .ok (.invokevirtual 240, 3) := by decide +kernel
theorem dX11_putSwitch_30 : decode cX11_putSwitch 30 = .ok (.sipush 170, 3) := by decide +kernel
theorem dX11_putSwitch_33 : decode cX11_putSwitch 33 = .ok (.if_icmp .ne 7, 3) := by decide +kernel
theorem dX11_putSwitch_36 : decode cX11_putSwitch 36 = .ok (.iconst 1, 1) := by decide +kernel
theorem dX11_putSwitch_37 : decode cX11_putSwitch 37 = .ok (.goto 4, 3) := by decide +kernel
theorem dX11_putSwitch_40 : decode cX11_putSwitch 40 = .ok (.iconst 0, 1) := by decide +kernel
theorem dX11_putSwitch_41 : decode cX11_putSwitch 41 = .ok (.istore 5, 2) := by decide +kernel
theorem dX11_putSwitch_43 : decode cX11_putSwitch 43 = .ok (.aload_n 0, 1) := by decide +kernel
theorem dX11_putSwitch_44 : decode cX11_putSwitch 44 = .ok (.getfield 18, 3) := by decide +kernel
theorem dX11_putSwitch_47 : decode cX11_putSwitch 47 = .ok (.aload_n 0, 1) := by decide +kernel
theorem dX11_putSwitch_48 : decode cX11_putSwitch 48 = .ok (.getfield 180, 3) := by decide +kernel
theorem dX11_putSwitch_51 : decode cX11_putSwitch 51 = .ok (.iload_n 1, 1) := by decide +kernel
theorem dX11_putSwitch_52 : decode cX11_putSwitch 52 = .ok (.invokevirtual 240, 3) := by decide +kernel
theorem dX11_putSwitch_55 : decode cX11_putSwitch 55 = .ok (.invokevirtual 129, 3) := by decide +kernel
theorem dX11_putSwitch_58 : decode cX11_putSwitch 58 = .ok (.iconst 0, 1) := by decide +kernel
theorem dX11_putSwitch_59 : decode cX11_putSwitch 59 = .ok (.istore 6, 2) := by decide +kernel
theorem dX11_putSwitch_61 : decode cX11_putSwitch 61 = .ok (.iload 6, 2) := by decide +kernel
theorem dX11_putSwitch_63 : decode cX11_putSwitch 63 = .ok (.iconst 3, 1) := by decide +kernel
theorem dX11_putSwitch_64 : decode cX11_putSwitch 64 = .ok (.if_icmp .ge 31, 3) := by decide +kernel
theorem dX11_putSwitch_67 : decode cX11_putSwitch 67 = .ok (.aload_n 0, 1) := by decide +kernel
theorem dX11_putSwitch_68 : decode cX11_putSwitch 68 = .ok (.getfield 18, 3) := by decide +kernel
theorem dX11_putSwitch_71 : decode cX11_putSwitch 71 = .ok (.getfield 60, 3) := by decide +kernel
theorem dX11_putSwitch_74 : decode cX11_putSwitch 74 = .ok (.iload_n 2, 1) := by decide +kernel
theorem dX11_putSwitch_75 : decode cX11_putSwitch 75 = .ok (.isub, 1) := by decide +kernel
theorem dX11_putSwitch_76 : decode cX11_putSwitch 76 = .ok (.iconst 3, 1) := by decide +kernel
theorem dX11_putSwitch_77 : decode cX11_putSwitch 77 = .ok (.iand, 1) := by decide +kernel
theorem dX11_putSwitch_78 : decode cX11_putSwitch 78 = .ok (.ifCond .eq 17, 3) := by decide +kernel
theorem dX11_putSwitch_81 : decode cX11_putSwitch 81 = .ok (.aload_n 0, 1) := by decide +kernel
theorem dX11_putSwitch_82 : decode cX11_putSwitch 82 = .ok (.getfield 18, 3) := by decide +kernel
theorem dX11_putSwitch_85 : decode cX11_putSwitch 85 = .ok (.iconst 0, 1) := by decide +kernel
theorem dX11_putSwitch_86 : decode cX11_putSwitch 86 = .ok (.invokevirtual 129, 3) := by decide +kernel
theorem dX11_putSwitch_89 : decode cX11_putSwitch 89 = .ok (.iinc 6 1, 3) := by decide +kernel
theorem dX11_putSwitch_92 : decode cX11_putSwitch 92 = .ok (.goto (-31), 3) := by decide +kernel
theorem dX11_putSwitch_95 : decode cX11_putSwitch 95 = .ok (.aload_n 0, 1) := by decide +kernel
theorem dX11_putSwitch_96 : decode cX11_putSwitch 96 = .ok (.getfield 18, 3) := by decide +kernel
theorem dX11_putSwitch_99 : decode cX11_putSwitch 99 = .ok (.aload_n 0, 1) := by decide +kernel
theorem dX11_putSwitch_100 : decode cX11_putSwitch 100 = .ok (.aload_n 0, 1) := by decide +kernel
theorem dX11_putSwitch_101 : decode cX11_putSwitch 101 = .ok (.getfield 180, 3) := by decide +kernel
theorem dX11_putSwitch_104 : decode cX11_putSwitch 104 = .ok (.iload_n 1, 1) := by decide +kernel
theorem dX11_putSwitch_105 : decode cX11_putSwitch 105 = .ok (.iconst 0, 1) := by decide +kernel
theorem dX11_putSwitch_106 : decode cX11_putSwitch 106 = .ok (.invokevirtual 328, 3) := by decide +kernel
theorem dX11_putSwitch_109 : decode cX11_putSwitch 109 = .ok (.invokevirtual 213, 3) := by decide +kernel
theorem dX11_putSwitch_112 : decode cX11_putSwitch 112 = .ok (.aload_n 0, 1) := by decide +kernel
theorem dX11_putSwitch_113 : decode cX11_putSwitch 113 = .ok (.iload_n 1, 1) := by decide +kernel
theorem dX11_putSwitch_114 : decode cX11_putSwitch 114 = .ok (.invokevirtual 213, 3) := by decide +kernel
theorem dX11_putSwitch_117 : decode cX11_putSwitch 117 = .ok (.isub, 1) := by decide +kernel
theorem dX11_putSwitch_118 : decode cX11_putSwitch 118 = .ok (.invokevirtual 167, 3) := by decide +kernel
theorem dX11_putSwitch_121 : decode cX11_putSwitch 121 = .ok (.iload 5, 2) := by decide +kernel
theorem dX11_putSwitch_123 : decode cX11_putSwitch 123 = .ok (.ifCond .eq 45, 3) := by decide +kernel
theorem dX11_putSwitch_126 : decode cX11_putSwitch 126 = .ok (.aload_n 0, 1) := by decide +kernel
theorem dX11_putSwitch_127 : decode cX11_putSwitch 127 = .ok (.getfield 18, 3) := by decide +kernel
theorem dX11_putSwitch_130 : decode cX11_putSwitch 130 = .ok (.aload_n 0, 1) := by decide +kernel
theorem dX11_putSwitch_131 : decode cX11_putSwitch 131 = .ok (.getfield 180, 3) := by decide +kernel
theorem dX11_putSwitch_134 : decode cX11_putSwitch 134 = .ok (.iload_n 3, 1) := by decide +kernel
theorem dX11_putSwitch_135 : decode cX11_putSwitch 135 = .ok (.iconst 1, 1) := by decide +kernel
theorem dX11_putSwitch_136 : decode cX11_putSwitch 136 = .ok (.iadd, 1) := by decide +kernel
theorem dX11_putSwitch_137 : decode cX11_putSwitch 137 = .ok (.invokevirtual 331, 3) := by decide +kernel
theorem dX11_putSwitch_140 : decode cX11_putSwitch 140 = .ok (.invokevirtual 167, 3) := by decide +kernel
theorem dX11_putSwitch_143 : decode cX11_putSwitch 143 = .ok (.aload_n 0, 1) := by decide +kernel
theorem dX11_putSwitch_144 : decode cX11_putSwitch 144 = .ok (.getfield 18, 3) := by decide +kernel
theorem dX11_putSwitch_147 : decode cX11_putSwitch 147 = .ok (.aload_n 0, 1) := by decide +kernel
theorem dX11_putSwitch_148 : decode cX11_putSwitch 148 = .ok (.getfield 180, 3) := by decide +kernel
theorem dX11_putSwitch_151 : decode cX11_putSwitch 151 = .ok (.iload_n 3, 1) := by decide +kernel
theorem dX11_putSwitch_152 : decode cX11_putSwitch 152 = .ok (.iconst 1, 1) := by decide +kernel
theorem dX11_putSwitch_153 : decode cX11_putSwitch 153 = .ok (.iadd, 1) := by decide +kernel
theorem dX11_putSwitch_154 : decode cX11_putSwitch 154 = .ok (.invokevirtual 331, 3) := by decide +kernel
theorem dX11_putSwitch_157 : decode cX11_putSwitch 157 = .ok (.iload 4, 2) := by decide +kernel
theorem dX11_putSwitch_159 : decode cX11_putSwitch 159 = .ok (.iadd, 1) := by decide +kernel
theorem dX11_putSwitch_160 : decode cX11_putSwitch 160 = .ok (.iconst 1, 1) := by decide +kernel
theorem dX11_putSwitch_161 : decode cX11_putSwitch 161 = .ok (.isub, 1) := by decide +kernel
theorem dX11_putSwitch_162 : decode cX11_putSwitch 162 = .ok (.invokevirtual 167, 3) := by decide +kernel
theorem dX11_putSwitch_165 : decode cX11_putSwitch 165 = .ok (.goto 12, 3) := by decide +kernel
theorem dX11_putSwitch_168 : decode cX11_putSwitch 168 = .ok (.aload_n 0, 1) := by decide +kernel
theorem dX11_putSwitch_169 : decode cX11_putSwitch 169 = .ok (.getfield 18, 3) := by decide +kernel
theorem dX11_putSwitch_172 : decode cX11_putSwitch 172 = .ok (.iload 4, 2) := by decide +kernel
theorem dX11_putSwitch_174 : decode cX11_putSwitch 174 = .ok (.invokevirtual 167, 3) := by decide +kernel
theorem dX11_putSwitch_177 : decode cX11_putSwitch 177 = .ok (.iconst 1, 1) := by decide +kernel
theorem dX11_putSwitch_178 : decode cX11_putSwitch 178 = .ok (.istore 6, 2) := by decide +kernel
theorem dX11_putSwitch_180 : decode cX11_putSwitch 180 = .ok (.iload 6, 2) := by decide +kernel
theorem dX11_putSwitch_182 : decode cX11_putSwitch 182 = .ok (.iload 4, 2) := by decide +kernel
theorem dX11_putSwitch_184 : decode cX11_putSwitch 184 = .ok (.if_icmp .gt 64, 3) := by decide +kernel
theorem dX11_putSwitch_187 : decode cX11_putSwitch 187 = .ok (.iload 5, 2) := by decide +kernel
theorem dX11_putSwitch_189 : decode cX11_putSwitch 189 = .ok (.ifCond .ne 26, 3) := by decide +kernel
theorem dX11_putSwitch_192 : decode cX11_putSwitch 192 = .ok (.aload_n 0, 1) := by decide +kernel
theorem dX11_putSwitch_193 : decode cX11_putSwitch 193 = .ok (.getfield 18, 3) := by decide +kernel
theorem dX11_putSwitch_196 : decode cX11_putSwitch 196 = .ok (.aload_n 0, 1) := by decide +kernel
theorem dX11_putSwitch_197 : decode cX11_putSwitch 197 = .ok (.getfield 180, 3) := by decide +kernel
theorem dX11_putSwitch_200 : decode cX11_putSwitch 200 = .ok (.iload_n 3, 1) := by decide +kernel
theorem dX11_putSwitch_201 : decode cX11_putSwitch 201 = .ok (.iconst 2, 1) := by decide +kernel
theorem dX11_putSwitch_202 : decode cX11_putSwitch 202 = .ok (.iadd, 1) := by decide +kernel
theorem dX11_putSwitch_203 : decode cX11_putSwitch 203 = .ok (.iload 4, 2) := by decide +kernel
theorem dX11_putSwitch_205 : decode cX11_putSwitch 205 = .ok (.iadd, 1) := by decide +kernel
theorem dX11_putSwitch_206 : decode cX11_putSwitch 206 = .ok (.iload 6, 2) := by decide +kernel
theorem dX11_putSwitch_208 : decode cX11_putSwitch 208 = .ok (.iadd, 1) := by decide +kernel
theorem dX11_putSwitch_209 : decode cX11_putSwitch 209 = .ok (.invokevirtual 331, 3) := by decide +kernel
theorem dX11_putSwitch_212 : decode cX11_putSwitch 212 = .ok (.invokevirtual 167, 3) := by decide +kernel
theorem dX11_putSwitch_215 : decode cX11_putSwitch 215 = .ok (.aload_n 0, 1) := by decide +kernel
theorem dX11_putSwitch_216 : decode cX11_putSwitch 216 = .ok (.getfield 18, 3) := by decide +kernel
theorem dX11_putSwitch_219 : decode cX11_putSwitch 219 = .ok (.aload_n 0, 1) := by decide +kernel
theorem dX11_putSwitch_220 : decode cX11_putSwitch 220 = .ok (.aload_n 0, 1) := by decide +kernel
theorem dX11_putSwitch_221 : decode cX11_putSwitch 221 = .ok (.getfield 180, 3) := by decide +kernel
theorem dX11_putSwitch_224 : decode cX11_putSwitch 224 = .ok (.iload_n 1, 1) := by decide +kernel
theorem dX11_putSwitch_225 : decode cX11_putSwitch 225 = .ok (.iload 6, 2) := by decide +kernel
theorem dX11_putSwitch_227 : decode cX11_putSwitch 227 = .ok (.invokevirtual 328, 3) := by decide +kernel
theorem dX11_putSwitch_230 : decode cX11_putSwitch 230 = .ok (.invokevirtual 213, 3) := by decide +kernel
theorem dX11_putSwitch_233 : decode cX11_putSwitch 233 = .ok (.aload_n 0, 1) := by decide +kernel
theorem dX11_putSwitch_234 : decode cX11_putSwitch 234 = .ok (.iload_n 1, 1) := by decide +kernel
theorem dX11_putSwitch_235 : decode cX11_putSwitch 235 = .ok (.invokevirtual 213, 3) := by decide +kernel
theorem dX11_putSwitch_238 : decode cX11_putSwitch 238 = .ok (.isub, 1) := by decide +kernel
theorem dX11_putSwitch_239 : decode cX11_putSwitch 239 = .ok (.invokevirtual 167, 3) := by decide +kernel
theorem dX11_putSwitch_242 : decode cX11_putSwitch 242 = .ok (.iinc 6 1, 3) := by decide +kernel
theorem dX11_putSwitch_245 : decode cX11_putSwitch 245 = .ok (.goto (-65), 3) := by decide +kernel
theorem dX11_putSwitch_248 : decode cX11_putSwitch 248 = .ok (.return_, 1) := by decide +kernel
theorem dX11_textEntry_0 : decode cX11_textEntry 0 = .ok (.aload_n 0, 1) := by decide +kernel
theorem dX11_textEntry_1 : decode cX11_textEntry 1 = .ok (.iconst 1, 1) := by decide +kernel
theorem dX11_textEntry_2 : decode cX11_textEntry 2 = .ok (.invokevirtual 147, 3) := by decide +kernel
theorem dX11_textEntry_5 : decode cX11_textEntry 5 = .ok (.aload_n 0, 1) := by decide +kernel
theorem dX11_textEntry_6 : decode cX11_textEntry 6 = .ok (.getfield 21, 3) := by decide +kernel
theorem dX11_textEntry_9 : decode cX11_textEntry 9 = .ok (.aload_n 1, 1) := by decide +kernel
theorem dX11_textEntry_10 : decode cX11_textEntry 10 = .ok (.invokevirtual 150, 3) := by decide +kernel
theorem dX11_textEntry_13 : decode cX11_textEntry 13 = .ok (.invokevirtual 105, 3) := by decide +kernel
theorem dX11_textEntry_16 : decode cX11_textEntry 16 = .ok (.iconst 0, 1) := by decide +kernel
theorem dX11_textEntry_17 : decode cX11_textEntry 17 = .ok (.istore_n 2, 1) := by decide +kernel
theorem dX11_textEntry_18 : decode cX11_textEntry 18 = .ok (.iload_n 2, 1) := by decide +kernel
theorem dX11_textEntry_19 : decode cX11_textEntry 19 = .ok (.aload_n 1, 1) := by decide +kernel
theorem dX11_textEntry_20 : decode cX11_textEntry 20 = .ok (.invokevirtual 150, 3) := by decide +kernel
theorem dX11_textEntry_23 : decode cX11_textEntry 23 = .ok (.if_icmp .ge 21, 3) := by decide +kernel
theorem dX11_textEntry_26 : decode cX11_textEntry 26 = .ok (.aload_n 0, 1) := by decide +kernel
theorem dX11_textEntry_27 : decode cX11_textEntry 27 = .ok (.getfield 21, 3) := by decide +kernel
theorem dX11_textEntry_30 : decode cX11_textEntry 30 = .ok (.aload_n 1, 1) := by decide +kernel
theorem dX11_textEntry_31 : decode cX11_textEntry 31 = .ok (.iload_n 2, 1) := by decide +kernel
theorem dX11_textEntry_32 : decode cX11_textEntry 32 = .ok (.invokevirtual 156, 3) := by decide +kernel
theorem dX11_textEntry_35 : decode cX11_textEntry 35 = .ok (.invokevirtual 129, 3) := by decide +kernel
theorem dX11_textEntry_38 : decode cX11_textEntry 38 = .ok (.iinc 2 1, 3) := by decide +kernel
theorem dX11_textEntry_41 : decode cX11_textEntry 41 = .ok (.goto (-23), 3) := by decide +kernel
theorem dX11_textEntry_44 : decode cX11_textEntry 44 = .ok (.aload_n 0, 1) := by decide +kernel
theorem dX11_textEntry_45 : decode cX11_textEntry 45 = .ok (.invokevirtual 160, 3) := by decide +kernel
theorem dX11_textEntry_48 : decode cX11_textEntry 48 = .ok (.ireturn, 1) := by decide +kernel
theorem dX11_unitByte_0 : decode cX11_unitByte 0 = .ok (.iload_n 1, 1) := by decide +kernel
theorem dX11_unitByte_1 : decode cX11_unitByte 1 = .ok (.ifCond .lt 15, 3) := by decide +kernel
theorem dX11_unitByte_4 : decode cX11_unitByte 4 = .ok (.iload_n 1, 1) := by decide +kernel
theorem dX11_unitByte_5 : decode cX11_unitByte 5 = .ok (.aload_n 0, 1) := by decide +kernel
theorem dX11_unitByte_6 : decode cX11_unitByte 6 = .ok (.getfield 56, 3) := by decide +kernel
theorem dX11_unitByte_9 : decode cX11_unitByte 9 = .ok (.getfield 166, 3) := by decide +kernel
theorem dX11_unitByte_12 : decode cX11_unitByte 12 = .ok (.arraylength, 1) := by decide +kernel
theorem dX11_unitByte_13 : decode cX11_unitByte 13 = .ok (.if_icmp .lt 7, 3) := by decide +kernel
theorem dX11_unitByte_16 : decode cX11_unitByte 16 = .ok (.iconst 0, 1) := by decide +kernel
theorem dX11_unitByte_17 : decode cX11_unitByte 17 = .ok (.goto 16, 3) := by decide +kernel
theorem dX11_unitByte_20 : decode cX11_unitByte 20 = .ok (.aload_n 0, 1) := by decide +kernel
theorem dX11_unitByte_21 : decode cX11_unitByte 21 = .ok (.getfield 56, 3) := by decide +kernel
theorem dX11_unitByte_24 : decode cX11_unitByte 24 = .ok (.getfield 166, 3) := by decide +kernel
theorem dX11_unitByte_27 : decode cX11_unitByte 27 = .ok (.iload_n 1, 1) := by decide +kernel
theorem dX11_unitByte_28 : decode cX11_unitByte 28 = .ok (.baload, 1) := by decide +kernel
theorem dX11_unitByte_29 : decode cX11_unitByte 29 = .ok (.sipush 255, 3) := by decide +kernel
theorem dX11_unitByte_32 : decode cX11_unitByte 32 = .ok (.iand, 1) := by decide +kernel
theorem dX11_unitByte_33 : decode cX11_unitByte 33 = .ok (.ireturn, 1) := by decide +kernel
theorem dX11_want_0 : decode cX11_want 0 = .ok (.aload_n 0, 1) := by decide +kernel
theorem dX11_want_1 : decode cX11_want 1 = .ok (.getfield 21, 3) := by decide +kernel
theorem dX11_want_4 : decode cX11_want 4 = .ok (.iconst 0, 1) := by decide +kernel
theorem dX11_want_5 : decode cX11_want 5 = .ok (.putfield 60, 3) := by decide +kernel
theorem dX11_want_8 : decode cX11_want 8 = .ok (.aload_n 0, 1) := by decide +kernel
theorem dX11_want_9 : decode cX11_want 9 = .ok (.getfield 21, 3) := by decide +kernel
theorem dX11_want_12 : decode cX11_want 12 = .ok (.iload_n 1, 1) := by decide +kernel
theorem dX11_want_13 : decode cX11_want 13 = .ok (.invokevirtual 129, 3) := by decide +kernel
theorem dX11_want_16 : decode cX11_want 16 = .ok (.return_, 1) := by decide +kernel
theorem dX12_applied_0 : decode cX12_applied 0 = .ok (.aload_n 0, 1) := by decide +kernel
theorem dX12_applied_1 : decode cX12_applied 1 = .ok (.getfield 66, 3) := by decide +kernel
theorem dX12_applied_4 : decode cX12_applied 4 = .ok (.iload_n 1, 1) := by decide +kernel
theorem dX12_applied_5 : decode cX12_applied 5 = .ok (.invokevirtual 244, 3) := by decide +kernel
theorem dX12_applied_8 : decode cX12_applied 8 = .ok (.ireturn, 1) := by decide +kernel
theorem dX12_argument_0 : decode cX12_argument 0 = .ok (.aload_n 0, 1) := by decide +kernel
theorem dX12_argument_1 : decode cX12_argument 1 = .ok (.getfield 52, 3) := by decide +kernel
theorem dX12_argument_4 : decode cX12_argument 4 = .ok (.lload_n 1, 1) := by decide +kernel
theorem dX12_argument_5 : decode cX12_argument 5 = .ok (.invokevirtual 182, 3) := by decide +kernel
theorem dX12_argument_8 : decode cX12_argument 8 = .ok (.ireturn, 1) := by decide +kernel
theorem dX12_arrayLength_0 : decode cX12_arrayLength 0 = .ok (.aload_n 0, 1) := by decide +kernel
theorem dX12_arrayLength_1 : decode cX12_arrayLength 1 = .ok (.getfield 52, 3) := by decide +kernel
theorem dX12_arrayLength_4 : decode cX12_arrayLength 4 = .ok (.iload_n 1, 1) := by decide +kernel
theorem dX12_arrayLength_5 : decode cX12_arrayLength 5 = .ok (.invokevirtual 212, 3) := by decide +kernel
theorem dX12_arrayLength_8 : decode cX12_arrayLength 8 = .ok (.ireturn, 1) := by decide +kernel
theorem dX12_at_0 : decode cX12_at 0 = .ok (.aload_n 0, 1) := by decide +kernel
theorem dX12_at_1 : decode cX12_at 1 = .ok (.getfield 77, 3) := by decide +kernel
theorem dX12_at_4 : decode cX12_at 4 = .ok (.ireturn, 1) := by decide +kernel
theorem dX12_block_0 : decode cX12_block 0 = .ok (.aload_n 0, 1) := by decide +kernel
theorem dX12_block_1 : decode cX12_block 1 = .ok (.iload_n 1, 1) := by decide +kernel
theorem dX12_block_2 : decode cX12_block 2 = .ok (.iload_n 2, 1) := by decide +kernel
theorem dX12_block_3 : decode cX12_block 3 = .ok (.invokevirtual 132, 3) := by decide +kernel
theorem dX12_block_6 : decode cX12_block 6 = .ok (.astore 5, 2) := by decide +kernel
theorem dX12_block_8 : decode cX12_block 8 = .ok (.aload 5, 2) := by decide +kernel
theorem dX12_block_10 : decode cX12_block 10 = .ok (.ifnonnull 5, 3) := by decide +kernel
theorem dX12_block_13 : decode cX12_block 13 = .ok (.iconst (-1), 1) := by decide +kernel
theorem dX12_block_14 : decode cX12_block 14 = .ok (.ireturn, 1) := by decide +kernel
theorem dX12_block_15 : decode cX12_block 15 = .ok (.aload_n 0, 1) := by decide +kernel
theorem dX12_block_16 : decode cX12_block 16 = .ok (.getfield 59, 3) := by decide +kernel
theorem dX12_block_19 : decode cX12_block 19 = .ok (.aload 5, 2) := by decide +kernel
theorem dX12_block_21 : decode cX12_block 21 = .ok (.invokevirtual 215, 3) := by decide +kernel
theorem dX12_block_24 : decode cX12_block 24 = .ok (.aload_n 0, 1) := by decide +kernel
theorem dX12_block_25 : decode cX12_block 25 = .ok (.getfield 59, 3) := by decide +kernel
theorem dX12_block_28 : decode cX12_block 28 = .ok (.iload_n 3, 1) := by decide +kernel
theorem dX12_block_29 : decode cX12_block 29 = .ok (.iload 4, 2) := by decide +kernel
theorem dX12_block_31 : decode cX12_block 31 = .ok (.invokevirtual 219, 3) := by decide +kernel
theorem dX12_block_34 : decode cX12_block 34 = .ok (.ireturn, 1) := by decide +kernel
theorem dX12_blocks_0 : decode cX12_blocks 0 = .ok (.aload_n 0, 1) := by decide +kernel
theorem dX12_blocks_1 : decode cX12_blocks 1 = .ok (.iload_n 1, 1) := by decide +kernel
theorem dX12_blocks_2 : decode cX12_blocks 2 = .ok (.iload_n 2, 1) := by decide +kernel
theorem dX12_blocks_3 : decode cX12_blocks 3 = .ok (.invokevirtual 132, 3) := by decide +kernel
theorem dX12_blocks_6 : decode cX12_blocks 6 = .ok (.astore_n 3, 1) := by decide +kernel
theorem dX12_blocks_7 : decode cX12_blocks 7 = .ok (.aload_n 3, 1) := by decide +kernel
theorem dX12_blocks_8 : decode cX12_blocks 8 = .ok (.ifnonnull 5, 3) := by decide +kernel
theorem dX12_blocks_11 : decode cX12_blocks 11 = .ok (.iconst (-1), 1) := by decide +kernel
theorem dX12_blocks_12 : decode cX12_blocks 12 = .ok (.ireturn, 1) := by decide +kernel
theorem dX12_blocks_13 : decode cX12_blocks 13 = .ok (.aload_n 0, 1) := by decide +kernel
theorem dX12_blocks_14 : decode cX12_blocks 14 = .ok (.getfield 59, 3) := by decide +kernel
theorem dX12_blocks_17 : decode cX12_blocks 17 = .ok (.aload_n 3, 1) := by decide +kernel
theorem dX12_blocks_18 : decode cX12_blocks 18 = .ok (.invokevirtual 215, 3) := by decide +kernel
theorem dX12_blocks_21 : decode cX12_blocks 21 = .ok (.aload_n 0, 1) := by decide +kernel
theorem dX12_blocks_22 : decode cX12_blocks 22 = .ok (.getfield 59, 3) := by decide +kernel
theorem dX12_blocks_25 : decode cX12_blocks 25 = .ok (.getfield 218, 3) := by decide +kernel
theorem dX12_blocks_28 : decode cX12_blocks 28 = .ok (.ireturn, 1) := by decide +kernel
theorem dX12_byteAt_0 : decode cX12_byteAt 0 = .ok (.iload_n 1, 1) := by decide +kernel
theorem dX12_byteAt_1 : decode cX12_byteAt 1 = .ok (.ifCond .lt 14, 3) := by decide +kernel
theorem dX12_byteAt_4 : decode cX12_byteAt 4 = .ok (.iload_n 1, 1) := by decide +kernel
theorem dX12_byteAt_5 : decode cX12_byteAt 5 = .ok (.aload_n 0, 1) := by decide +kernel
theorem dX12_byteAt_6 : decode cX12_byteAt 6 = .ok (.getfield 16, 3) := by decide +kernel
theorem dX12_byteAt_9 : decode cX12_byteAt 9 = .ok (.getfield 83, 3) := by decide +kernel
theorem dX12_byteAt_12 : decode cX12_byteAt 12 = .ok (.if_icmp .lt 7, 3) := by decide +kernel
theorem dX12_byteAt_15 : decode cX12_byteAt 15 = .ok (.iconst (-1), 1) := by decide +kernel
theorem dX12_byteAt_16 : decode cX12_byteAt 16 = .ok (.goto 11, 3) := by decide +kernel
theorem dX12_byteAt_19 : decode cX12_byteAt 19 = .ok (.aload_n 0, 1) := by decide +kernel
theorem dX12_byteAt_20 : decode cX12_byteAt 20 = .ok (.getfield 16, 3) := by decide +kernel
theorem dX12_byteAt_23 : decode cX12_byteAt 23 = .ok (.iload_n 1, 1) := by decide +kernel
theorem dX12_byteAt_24 : decode cX12_byteAt 24 = .ok (.invokevirtual 175, 3) := by decide +kernel
theorem dX12_byteAt_27 : decode cX12_byteAt 27 = .ok (.ireturn, 1) := by decide +kernel
theorem dX12_count_0 : decode cX12_count 0 = .ok (.aload_n 0, 1) := by decide +kernel
theorem dX12_count_1 : decode cX12_count 1 = .ok (.iload_n 1, 1) := by decide +kernel
theorem dX12_count_2 : decode cX12_count 2 = .ok (.invokevirtual 152, 3) := by decide +kernel
theorem dX12_count_5 : decode cX12_count 5 = .ok (.astore_n 2, 1) := by decide +kernel
theorem dX12_count_6 : decode cX12_count 6 = .ok (.aload_n 2, 1) := by decide +kernel
theorem dX12_count_7 : decode cX12_count 7 = .ok (.ifnonnull 5, 3) := by decide +kernel
theorem dX12_count_10 : decode cX12_count 10 = .ok (.iconst (-1), 1) := by decide +kernel
theorem dX12_count_11 : decode cX12_count 11 = .ok (.ireturn, 1) := by decide +kernel
theorem dX12_count_12 : decode cX12_count 12 = .ok (.aload_n 0, 1) := by decide +kernel
theorem dX12_count_13 : decode cX12_count 13 = .ok (.getfield 94, 3) := by decide +kernel
theorem dX12_count_16 : decode cX12_count 16 = .ok (.bipush 12, 2) := by decide +kernel
theorem dX12_count_18 : decode cX12_count 18 = .ok (.if_icmp .ge 12, 3) := by decide +kernel
theorem dX12_count_21 : decode cX12_count 21 = .ok (.aload_n 0, 1) := by decide +kernel
theorem dX12_count_22 : decode cX12_count 22 = .ok (.getfield 229, 3) := by decide +kernel
theorem dX12_count_25 : decode cX12_count 25 = .ok (.bipush 16, 2) := by decide +kernel
theorem dX12_count_27 : decode cX12_count 27 = .ok (.if_icmp .lt 6, 3) := by decide +kernel
theorem dX12_count_30 : decode cX12_count 30 = .ok (.bipush (-2), 2) := by decide +kernel
theorem dX12_count_32 : decode cX12_count 32 = .ok (.ireturn, 1) := by decide +kernel
theorem dX12_count_33 : decode cX12_count 33 = .ok (.aload_n 0, 1) := by decide +kernel
theorem dX12_count_34 : decode cX12_count 34 = .ok (.dup, 1) := by decide +kernel
theorem dX12_count_35 : decode cX12_count 35 = .ok (.getfield 229, 3) := by decide +kernel
theorem dX12_count_38 : decode cX12_count 38 = .ok (.iconst 1, 1) := by decide +kernel
theorem dX12_count_39 : decode cX12_count 39 = .ok (.iadd, 1) := by decide +kernel
theorem dX12_count_40 : decode cX12_count 40 = .ok (.putfield 229, 3) := by decide +kernel
theorem dX12_count_43 : decode cX12_count 43 = .ok (.aload_n 0, 1) := by decide +kernel
theorem dX12_count_44 : decode cX12_count 44 = .ok (.aload_n 2, 1) := by decide +kernel
theorem dX12_count_45 : decode cX12_count 45 = .ok (.invokevirtual 247, 3) := by decide +kernel
theorem dX12_count_48 : decode cX12_count 48 = .ok (.istore_n 3, 1) := by decide +kernel
theorem dX12_count_49 : decode cX12_count 49 = .ok (.aload_n 2, 1) := by decide +kernel
theorem dX12_count_50 : decode cX12_count 50 = .ok (.getfield 120, 3) := by decide +kernel
theorem dX12_count_53 : decode cX12_count 53 = .ok (.iload_n 3, 1) := by decide +kernel
theorem dX12_count_54 : decode cX12_count 54 = .ok (.iadd, 1) := by decide +kernel
theorem dX12_count_55 : decode cX12_count 55 = .ok (.bipush 24, 2) := by decide +kernel
theorem dX12_count_57 : decode cX12_count 57 = .ok (.if_icmp .le 6, 3) := by decide +kernel
theorem dX12_count_60 : decode cX12_count 60 = .ok (.bipush (-3), 2) := by decide +kernel
theorem dX12_count_62 : decode cX12_count 62 = .ok (.ireturn, 1) := by decide +kernel
theorem dX12_count_63 : decode cX12_count 63 = .ok (.aload_n 0, 1) := by decide +kernel
theorem dX12_count_64 : decode cX12_count 64 = .ok (.getfield 45, 3) := by decide +kernel
theorem dX12_count_67 : decode cX12_count 67 = .ok (.aload_n 2, 1) := by decide +kernel
theorem dX12_count_68 : decode cX12_count 68 = .ok (.iload_n 3, 1) := by decide +kernel
theorem dX12_count_69 : decode cX12_count 69 = .ok (.invokevirtual 163, 3) := by decide +kernel
theorem dX12_count_72 : decode cX12_count 72 = .ok (.aload_n 2, 1) := by decide +kernel
theorem dX12_count_73 : decode cX12_count 73 = .ok (.getfield 120, 3) := by decide +kernel
theorem dX12_count_76 : decode cX12_count 76 = .ok (.istore 4, 2) := by decide +kernel
theorem dX12_count_78 : decode cX12_count 78 = .ok (.iconst 0, 1) := by decide +kernel
theorem dX12_count_79 : decode cX12_count 79 = .ok (.istore 5, 2) := by decide +kernel
theorem dX12_count_81 : decode cX12_count 81 = .ok (.iload 5, 2) := by decide +kernel
theorem dX12_count_83 : decode cX12_count 83 = .ok (.aload_n 2, 1) := by decide +kernel
theorem dX12_count_84 : decode cX12_count 84 = .ok (.getfield 123, 3) := by decide +kernel
theorem dX12_count_87 : decode cX12_count 87 = .ok (.if_icmp .ge 67, 3) := by decide +kernel
theorem dX12_count_90 : decode cX12_count 90 = .ok (.aload_n 2, 1) := by decide +kernel
theorem dX12_count_91 : decode cX12_count 91 = .ok (.iload 5, 2) := by decide +kernel
theorem dX12_count_93 : decode cX12_count 93 = .ok (.invokevirtual 144, 3) := by decide +kernel
theorem dX12_count_96 : decode cX12_count 96 = .ok (.astore 6, 2) := by decide +kernel
theorem dX12_count_98 : decode cX12_count 98 = .ok (.aload_n 0, 1) := by decide +kernel
theorem dX12_count_99 : decode cX12_count 99 = .ok (.getfield 59, 3) := by decide +kernel
theorem dX12_count_102 : decode cX12_count 102 = .ok (.aload 6, 2) := by decide +kernel
theorem dX12_count_104 : decode cX12_count 104 = .ok (.invokevirtual 215, 3) := by decide +kernel
theorem dX12_count_107 : decode cX12_count 107 = .ok (.aload_n 0, 1) := by decide +kernel
theorem dX12_count_108 : decode cX12_count 108 = .ok (.getfield 66, 3) := by decide +kernel
theorem dX12_count_111 : decode cX12_count 111 = .ok (.aload 6, 2) := by decide +kernel
theorem dX12_count_113 : decode cX12_count 113 = .ok (.aload_n 0, 1) := by decide +kernel
theorem dX12_count_114 : decode cX12_count 114 = .ok (.getfield 59, 3) := by decide +kernel
theorem dX12_count_117 : decode cX12_count 117 = .ok (.iload 4, 2) := by decide +kernel
theorem dX12_count_119 : decode cX12_count 119 = .ok (.invokevirtual 251, 3) := by decide +kernel
theorem dX12_count_122 : decode cX12_count 122 = .ok (.iload 4, 2) := by decide +kernel
theorem dX12_count_124 : decode cX12_count 124 = .ok (.aload_n 0, 1) := by decide +kernel
theorem dX12_count_125 : decode cX12_count 125 = .ok (.getfield 59, 3) := by decide +kernel
theorem dX12_count_128 : decode cX12_count 128 = .ok (.invokevirtual 255, 3) := by decide +kernel
theorem dX12_count_131 : decode cX12_count 131 = .ok (.iadd, 1) := by decide +kernel
theorem dX12_count_132 : decode cX12_count 132 = .ok (.istore 4, 2) := by decide +kernel
theorem dX12_count_134 : decode cX12_count 134 = .ok (.aload_n 0, 1) := by decide +kernel
theorem dX12_count_135 : decode cX12_count 135 = .ok (.getfield 45, 3) := by decide +kernel
theorem dX12_count_138 : decode cX12_count 138 = .ok (.aload_n 0, 1) := by decide +kernel
theorem dX12_count_139 : decode cX12_count 139 = .ok (.getfield 66, 3) := by decide +kernel
theorem dX12_count_142 : decode cX12_count 142 = .ok (.getfield 236, 3) := by decide +kernel
theorem dX12_count_145 : decode cX12_count 145 = .ok (.invokevirtual 167, 3) := by decide +kernel
theorem dX12_count_148 : decode cX12_count 148 = .ok (.iinc 5 1, 3) := by decide +kernel
theorem dX12_count_151 : decode cX12_count 151 = .ok (.goto (-70), 3) := by decide +kernel
theorem dX12_count_154 : decode cX12_count 154 = .ok (.aload_n 0, 1) := by decide +kernel
theorem dX12_count_155 : decode cX12_count 155 = .ok (.getfield 45, 3) := by decide +kernel
theorem dX12_count_158 : decode cX12_count 158 = .ok (.invokevirtual 240, 3) := by decide +kernel
theorem dX12_count_161 : decode cX12_count 161 = .ok (.ifCond .ne 6, 3) := by decide +kernel
theorem dX12_count_164 : decode cX12_count 164 = .ok (.bipush (-3), 2) := by decide +kernel
theorem dX12_count_166 : decode cX12_count 166 = .ok (.ireturn, 1) := by decide +kernel
theorem dX12_count_167 : decode cX12_count 167 = .ok (.aload_n 0, 1) := by decide +kernel
theorem dX12_count_168 : decode cX12_count 168 = .ok (.getfield 45, 3) := by decide +kernel
theorem dX12_count_171 : decode cX12_count 171 = .ok (.aload_n 0, 1) := by decide +kernel
theorem dX12_count_172 : decode cX12_count 172 = .ok (.getfield 19, 3) := by decide +kernel
theorem dX12_count_175 : decode cX12_count 175 = .ok (.invokevirtual 171, 3) := by decide +kernel
theorem dX12_count_178 : decode cX12_count 178 = .ok (.aload_n 0, 1) := by decide +kernel
theorem dX12_count_179 : decode cX12_count 179 = .ok (.aload_n 0, 1) := by decide +kernel
theorem dX12_count_180 : decode cX12_count 180 = .ok (.getfield 31, 3) := by decide +kernel
theorem dX12_count_183 : decode cX12_count 183 = .ok (.aload_n 0, 1) := by decide +kernel
theorem dX12_count_184 : decode cX12_count 184 = .ok (.getfield 19, 3) := by decide +kernel
theorem dX12_count_187 : decode cX12_count 187 = .ok (.invokevirtual 97, 3) := by decide +kernel
theorem dX12_count_190 : decode cX12_count 190 = .ok (.bipush (-3), 2) := by decide +kernel
theorem dX12_count_192 : decode cX12_count 192 = .ok (.invokevirtual 112, 3) := by decide +kernel
theorem dX12_count_195 : decode cX12_count 195 = .ok (.ireturn, 1) := by decide +kernel
theorem dX12_countersOf_0 : decode cX12_countersOf 0 = .ok (.iconst 0, 1) := by decide +kernel
theorem dX12_countersOf_1 : decode cX12_countersOf 1 = .ok (.istore_n 2, 1) := by decide +kernel
theorem dX12_countersOf_2 : decode cX12_countersOf 2 = .ok (.iconst 0, 1) := by decide +kernel
theorem dX12_countersOf_3 : decode cX12_countersOf 3 = .ok (.istore_n 3, 1) := by decide +kernel
theorem dX12_countersOf_4 : decode cX12_countersOf 4 = .ok (.iload_n 3, 1) := by decide +kernel
theorem dX12_countersOf_5 : decode cX12_countersOf 5 = .ok (.aload_n 1, 1) := by decide +kernel
theorem dX12_countersOf_6 : decode cX12_countersOf 6 = .ok (.getfield 123, 3) := by decide +kernel
theorem dX12_countersOf_9 : decode cX12_countersOf 9 = .ok (.if_icmp .ge 31, 3) := by decide +kernel
theorem dX12_countersOf_12 : decode cX12_countersOf 12 = .ok (.aload_n 0, 1) := by decide +kernel
theorem dX12_countersOf_13 : decode cX12_countersOf 13 = .ok (.getfield 59, 3) := by decide +kernel
theorem dX12_countersOf_16 : decode cX12_countersOf 16 = .ok (.aload_n 1, 1) := by decide +kernel
theorem dX12_countersOf_17 : decode cX12_countersOf 17 = .ok (.iload_n 3, 1) := by decide +kernel
theorem dX12_countersOf_18 : decode cX12_countersOf 18 = .ok (.invokevirtual 144, 3) := by decide +kernel
theorem dX12_countersOf_21 : decode cX12_countersOf 21 = .ok (.invokevirtual 215, 3) := by decide +kernel
theorem dX12_countersOf_24 : decode cX12_countersOf 24 = .ok (.iload_n 2, 1) := by decide +kernel
theorem dX12_countersOf_25 : decode cX12_countersOf 25 = .ok (.aload_n 0, 1) := by decide +kernel
theorem dX12_countersOf_26 : decode cX12_countersOf 26 = .ok (.getfield 59, 3) := by decide +kernel
theorem dX12_countersOf_29 : decode cX12_countersOf 29 = .ok (.invokevirtual 255, 3) := by decide +kernel
theorem dX12_countersOf_32 : decode cX12_countersOf 32 = .ok (.iadd, 1) := by decide +kernel
theorem dX12_countersOf_33 : decode cX12_countersOf 33 = .ok (.istore_n 2, 1) := by decide +kernel
theorem dX12_countersOf_34 : decode cX12_countersOf 34 = .ok (.iinc 3 1, 3) := by decide +kernel
theorem dX12_countersOf_37 : decode cX12_countersOf 37 = .ok (.goto (-33), 3) := by decide +kernel
theorem dX12_countersOf_40 : decode cX12_countersOf 40 = .ok (.iload_n 2, 1) := by decide +kernel
theorem dX12_countersOf_41 : decode cX12_countersOf 41 = .ok (.ireturn, 1) := by decide +kernel
theorem dX12_edge_0 : decode cX12_edge 0 = .ok (.aload_n 0, 1) := by decide +kernel
theorem dX12_edge_1 : decode cX12_edge 1 = .ok (.iload_n 1, 1) := by decide +kernel
theorem dX12_edge_2 : decode cX12_edge 2 = .ok (.iload_n 2, 1) := by decide +kernel
theorem dX12_edge_3 : decode cX12_edge 3 = .ok (.invokevirtual 132, 3) := by decide +kernel
theorem dX12_edge_6 : decode cX12_edge 6 = .ok (.astore 5, 2) := by decide +kernel
theorem dX12_edge_8 : decode cX12_edge 8 = .ok (.aload 5, 2) := by decide +kernel
theorem dX12_edge_10 : decode cX12_edge 10 = .ok (.ifnonnull 5, 3) := by decide +kernel
theorem dX12_edge_13 : decode cX12_edge 13 = .ok (.iconst 0, 1) := by decide +kernel
theorem dX12_edge_14 : decode cX12_edge 14 = .ok (.ireturn, 1) := by decide +kernel
theorem dX12_edge_15 : decode cX12_edge 15 = .ok (.aload_n 0, 1) := by decide +kernel
theorem dX12_edge_16 : decode cX12_edge 16 = .ok (.getfield 59, 3) := by decide +kernel
theorem dX12_edge_19 : decode cX12_edge 19 = .ok (.aload 5, 2) := by decide +kernel
theorem dX12_edge_21 : decode cX12_edge 21 = .ok (.invokevirtual 215, 3) := by decide +kernel
theorem dX12_edge_24 : decode cX12_edge 24 = .ok (.aload_n 0, 1) := by decide +kernel
theorem dX12_edge_25 : decode cX12_edge 25 = .ok (.getfield 59, 3) := by decide +kernel
theorem dX12_edge_28 : decode cX12_edge 28 = .ok (.iload_n 3, 1) := by decide +kernel
theorem dX12_edge_29 : decode cX12_edge 29 = .ok (.iload 4, 2) := by decide +kernel
theorem dX12_edge_31 : decode cX12_edge 31 = .ok (.invokevirtual 222, 3) := by decide +kernel
theorem dX12_edge_34 : decode cX12_edge 34 = .ok (.ireturn, 1) := by decide +kernel
theorem dX12_element_0 : decode cX12_element 0 = .ok (.aload_n 0, 1) := by decide +kernel
theorem dX12_element_1 : decode cX12_element 1 = .ok (.getfield 52, 3) := by decide +kernel
theorem dX12_element_4 : decode cX12_element 4 = .ok (.iload_n 1, 1) := by decide +kernel
theorem dX12_element_5 : decode cX12_element 5 = .ok (.iload_n 2, 1) := by decide +kernel
theorem dX12_element_6 : decode cX12_element 6 = .ok (.invokevirtual 209, 3) := by decide +kernel
theorem dX12_element_9 : decode cX12_element 9 = .ok (.ireturn, 1) := by decide +kernel
theorem dX12_end_0 : decode cX12_end 0 = .ok (.iload_n 1, 1) := by decide +kernel
theorem dX12_end_1 : decode cX12_end 1 = .ok (.ifCond .lt 14, 3) := by decide +kernel
theorem dX12_end_4 : decode cX12_end 4 = .ok (.iload_n 1, 1) := by decide +kernel
theorem dX12_end_5 : decode cX12_end 5 = .ok (.aload_n 0, 1) := by decide +kernel
theorem dX12_end_6 : decode cX12_end 6 = .ok (.getfield 10, 3) := by decide +kernel
theorem dX12_end_9 : decode cX12_end 9 = .ok (.getfield 83, 3) := by decide +kernel
theorem dX12_end_12 : decode cX12_end 12 = .ok (.if_icmp .le 5, 3) := by decide +kernel
theorem dX12_end_15 : decode cX12_end 15 = .ok (.iconst 0, 1) := by decide +kernel
theorem dX12_end_16 : decode cX12_end 16 = .ok (.ireturn, 1) := by decide +kernel
theorem dX12_end_17 : decode cX12_end 17 = .ok (.aload_n 0, 1) := by decide +kernel
theorem dX12_end_18 : decode cX12_end 18 = .ok (.getfield 10, 3) := by decide +kernel
theorem dX12_end_21 : decode cX12_end 21 = .ok (.iload_n 1, 1) := by decide +kernel
theorem dX12_end_22 : decode cX12_end 22 = .ok (.putfield 83, 3) := by decide +kernel
theorem dX12_end_25 : decode cX12_end 25 = .ok (.iconst 1, 1) := by decide +kernel
theorem dX12_end_26 : decode cX12_end 26 = .ok (.ireturn, 1) := by decide +kernel
theorem dX12_error_0 : decode cX12_error 0 = .ok (.aload_n 0, 1) := by decide +kernel
theorem dX12_error_1 : decode cX12_error 1 = .ok (.getfield 52, 3) := by decide +kernel
theorem dX12_error_4 : decode cX12_error 4 = .ok (.getfield 199, 3) := by decide +kernel
theorem dX12_error_7 : decode cX12_error 7 = .ok (.ireturn, 1) := by decide +kernel
theorem dX12_feed_0 : decode cX12_feed 0 = .ok (.aload_n 0, 1) := by decide +kernel
theorem dX12_feed_1 : decode cX12_feed 1 = .ok (.getfield 10, 3) := by decide +kernel
theorem dX12_feed_4 : decode cX12_feed 4 = .ok (.getfield 83, 3) := by decide +kernel
theorem dX12_feed_7 : decode cX12_feed 7 = .ok (.bipush 20, 2) := by decide +kernel
theorem dX12_feed_9 : decode cX12_feed 9 = .ok (.iadd, 1) := by decide +kernel
theorem dX12_feed_10 : decode cX12_feed 10 = .ok (.sipush 16000, 3) := by decide +kernel
theorem dX12_feed_13 : decode cX12_feed 13 = .ok (.if_icmp .gt 15, 3) := by decide +kernel
theorem dX12_feed_16 : decode cX12_feed 16 = .ok (.aload_n 0, 1) := by decide +kernel
theorem dX12_feed_17 : decode cX12_feed 17 = .ok (.getfield 86, 3) := by decide +kernel
theorem dX12_feed_20 : decode cX12_feed 20 = .ok (.bipush 20, 2) := by decide +kernel
theorem dX12_feed_22 : decode cX12_feed 22 = .ok (.iadd, 1) := by decide +kernel
theorem dX12_feed_23 : decode cX12_feed 23 = .ok (.ldc 89, 2) := by decide +kernel
theorem dX12_feed_25 : decode cX12_feed 25 = .ok (.if_icmp .le 5, 3) := by decide +kernel
theorem dX12_feed_28 : decode cX12_feed 28 = .ok (.iconst (-1), 1) := by decide +kernel
theorem dX12_feed_29 : decode cX12_feed 29 = .ok (.ireturn, 1) := by decide +kernel
theorem dX12_feed_30 : decode cX12_feed 30 = .ok (.aload_n 0, 1) := by decide +kernel
theorem dX12_feed_31 : decode cX12_feed 31 = .ok (.getfield 10, 3) := by decide +kernel
theorem dX12_feed_34 : decode cX12_feed 34 = .ok (.iload_n 1, 1) := by decide +kernel
theorem dX12_feed_35 : decode cX12_feed 35 = .ok (.invokevirtual 90, 3) := by decide +kernel
theorem dX12_feed_38 : decode cX12_feed 38 = .ok (.aload_n 0, 1) := by decide +kernel
theorem dX12_feed_39 : decode cX12_feed 39 = .ok (.getfield 10, 3) := by decide +kernel
theorem dX12_feed_42 : decode cX12_feed 42 = .ok (.iload_n 2, 1) := by decide +kernel
theorem dX12_feed_43 : decode cX12_feed 43 = .ok (.invokevirtual 90, 3) := by decide +kernel
theorem dX12_feed_46 : decode cX12_feed 46 = .ok (.aload_n 0, 1) := by decide +kernel
theorem dX12_feed_47 : decode cX12_feed 47 = .ok (.getfield 10, 3) := by decide +kernel
theorem dX12_feed_50 : decode cX12_feed 50 = .ok (.iload_n 3, 1) := by decide +kernel
theorem dX12_feed_51 : decode cX12_feed 51 = .ok (.invokevirtual 90, 3) := by decide +kernel
theorem dX12_feed_54 : decode cX12_feed 54 = .ok (.aload_n 0, 1) := by decide +kernel
theorem dX12_feed_55 : decode cX12_feed 55 = .ok (.getfield 10, 3) := by decide +kernel
theorem dX12_feed_58 : decode cX12_feed 58 = .ok (.iload 4, 2) := by decide +kernel
theorem dX12_feed_60 : decode cX12_feed 60 = .ok (.invokevirtual 90, 3) := by decide +kernel
theorem dX12_feed_63 : decode cX12_feed 63 = .ok (.aload_n 0, 1) := by decide +kernel
theorem dX12_feed_64 : decode cX12_feed 64 = .ok (.getfield 10, 3) := by decide +kernel
theorem dX12_feed_67 : decode cX12_feed 67 = .ok (.iload 5, 2) := by decide +kernel
theorem dX12_feed_69 : decode cX12_feed 69 = .ok (.invokevirtual 90, 3) := by decide +kernel
theorem dX12_feed_72 : decode cX12_feed 72 = .ok (.aload_n 0, 1) := by decide +kernel
theorem dX12_feed_73 : decode cX12_feed 73 = .ok (.dup, 1) := by decide +kernel
theorem dX12_feed_74 : decode cX12_feed 74 = .ok (.getfield 86, 3) := by decide +kernel
theorem dX12_feed_77 : decode cX12_feed 77 = .ok (.bipush 20, 2) := by decide +kernel
theorem dX12_feed_79 : decode cX12_feed 79 = .ok (.iadd, 1) := by decide +kernel
theorem dX12_feed_80 : decode cX12_feed 80 = .ok (.putfield 86, 3) := by decide +kernel
theorem dX12_feed_83 : decode cX12_feed 83 = .ok (.aload_n 0, 1) := by decide +kernel
theorem dX12_feed_84 : decode cX12_feed 84 = .ok (.getfield 10, 3) := by decide +kernel
theorem dX12_feed_87 : decode cX12_feed 87 = .ok (.getfield 83, 3) := by decide +kernel
theorem dX12_feed_90 : decode cX12_feed 90 = .ok (.ireturn, 1) := by decide +kernel
theorem dX12_field_0 : decode cX12_field 0 = .ok (.aload_n 0, 1) := by decide +kernel
theorem dX12_field_1 : decode cX12_field 1 = .ok (.getfield 52, 3) := by decide +kernel
theorem dX12_field_4 : decode cX12_field 4 = .ok (.iload_n 1, 1) := by decide +kernel
theorem dX12_field_5 : decode cX12_field 5 = .ok (.invokevirtual 205, 3) := by decide +kernel
theorem dX12_field_8 : decode cX12_field 8 = .ok (.lreturn, 1) := by decide +kernel
theorem dX12_file_0 : decode cX12_file 0 = .ok (.aload_n 0, 1) := by decide +kernel
theorem dX12_file_1 : decode cX12_file 1 = .ok (.getfield 94, 3) := by decide +kernel
theorem dX12_file_4 : decode cX12_file 4 = .ok (.bipush 12, 2) := by decide +kernel
theorem dX12_file_6 : decode cX12_file 6 = .ok (.if_icmp .lt 6, 3) := by decide +kernel
theorem dX12_file_9 : decode cX12_file 9 = .ok (.bipush (-2), 2) := by decide +kernel
theorem dX12_file_11 : decode cX12_file 11 = .ok (.ireturn, 1) := by decide +kernel
theorem dX12_file_12 : decode cX12_file 12 = .ok (.aload_n 0, 1) := by decide +kernel
theorem dX12_file_13 : decode cX12_file 13 = .ok (.getfield 31, 3) := by decide +kernel
theorem dX12_file_16 : decode cX12_file 16 = .ok (.aload_n 0, 1) := by decide +kernel
theorem dX12_file_17 : decode cX12_file 17 = .ok (.getfield 10, 3) := by decide +kernel
theorem dX12_file_20 : decode cX12_file 20 = .ok (.invokevirtual 97, 3) := by decide +kernel
theorem dX12_file_23 : decode cX12_file 23 = .ok (.astore_n 1, 1) := by decide +kernel
theorem dX12_file_24 : decode cX12_file 24 = .ok (.aload_n 0, 1) := by decide +kernel
theorem dX12_file_25 : decode cX12_file 25 = .ok (.getfield 10, 3) := by decide +kernel
theorem dX12_file_28 : decode cX12_file 28 = .ok (.iconst 0, 1) := by decide +kernel
theorem dX12_file_29 : decode cX12_file 29 = .ok (.putfield 83, 3) := by decide +kernel
theorem dX12_file_32 : decode cX12_file 32 = .ok (.aload_n 0, 1) := by decide +kernel
theorem dX12_file_33 : decode cX12_file 33 = .ok (.aload_n 0, 1) := by decide +kernel
theorem dX12_file_34 : decode cX12_file 34 = .ok (.getfield 31, 3) := by decide +kernel
theorem dX12_file_37 : decode cX12_file 37 = .ok (.getfield 101, 3) := by decide +kernel
theorem dX12_file_40 : decode cX12_file 40 = .ok (.getfield 105, 3) := by decide +kernel
theorem dX12_file_43 : decode cX12_file 43 = .ok (.putfield 110, 3) := by decide +kernel
theorem dX12_file_46 : decode cX12_file 46 = .ok (.aload_n 0, 1) := by decide +kernel
theorem dX12_file_47 : decode cX12_file 47 = .ok (.aload_n 0, 1) := by decide +kernel
theorem dX12_file_48 : decode cX12_file 48 = .ok (.getfield 31, 3) := by decide +kernel
theorem dX12_file_51 : decode cX12_file 51 = .ok (.getfield 101, 3) := by decide +kernel
theorem dX12_file_54 : decode cX12_file 54 = .ok (.getfield 111, 3) := by decide +kernel
theorem dX12_file_57 : decode cX12_file 57 = .ok (.putfield 70, 3) := by decide +kernel
theorem dX12_file_60 : decode cX12_file 60 = .ok (.aload_n 0, 1) := by decide +kernel
theorem dX12_file_61 : decode cX12_file 61 = .ok (.aload_n 1, 1) := by decide +kernel
theorem dX12_file_62 : decode cX12_file 62 = .ok (.iconst (-1), 1) := by decide +kernel
theorem dX12_file_63 : decode cX12_file 63 = .ok (.invokevirtual 112, 3) := by decide +kernel
theorem dX12_file_66 : decode cX12_file 66 = .ok (.ireturn, 1) := by decide +kernel
theorem dX12_height_0 : decode cX12_height 0 = .ok (.aload_n 0, 1) := by decide +kernel
theorem dX12_height_1 : decode cX12_height 1 = .ok (.iload_n 1, 1) := by decide +kernel
theorem dX12_height_2 : decode cX12_height 2 = .ok (.invokevirtual 152, 3) := by decide +kernel
theorem dX12_height_5 : decode cX12_height 5 = .ok (.ifnonnull 7, 3) := by decide +kernel
theorem dX12_height_8 : decode cX12_height 8 = .ok (.aconst_null, 1) := by decide +kernel
theorem dX12_height_9 : decode cX12_height 9 = .ok (.goto 9, 3) := by decide +kernel
theorem dX12_height_12 : decode cX12_height 12 = .ok (.aload_n 0, 1) := by decide +kernel
theorem dX12_height_13 : decode cX12_height 13 = .ok (.iload_n 1, 1) := by decide +kernel
theorem dX12_height_14 : decode cX12_height 14 = .ok (.iload_n 2, 1) := by decide +kernel
theorem dX12_height_15 : decode cX12_height 15 = .ok (.invokevirtual 132, 3) := by decide +kernel
theorem dX12_height_18 : decode cX12_height 18 = .ok (.astore 4, 2) := by decide +kernel
theorem dX12_height_20 : decode cX12_height 20 = .ok (.aload 4, 2) := by decide +kernel
theorem dX12_height_22 : decode cX12_height 22 = .ok (.ifnonnull 7, 3) := by decide +kernel
theorem dX12_height_25 : decode cX12_height 25 = .ok (.iconst (-1), 1) := by decide +kernel
theorem dX12_height_26 : decode cX12_height 26 = .ok (.goto 9, 3) := by decide +kernel
theorem dX12_height_29 : decode cX12_height 29 = .ok (.aload 4, 2) := by decide +kernel
theorem dX12_height_31 : decode cX12_height 31 = .ok (.iload_n 3, 1) := by decide +kernel
theorem dX12_height_32 : decode cX12_height 32 = .ok (.invokevirtual 155, 3) := by decide +kernel
theorem dX12_height_35 : decode cX12_height 35 = .ok (.ireturn, 1) := by decide +kernel
theorem dX12_improve_0 : decode cX12_improve 0 = .ok (.aload_n 0, 1) := by decide +kernel
theorem dX12_improve_1 : decode cX12_improve 1 = .ok (.getfield 66, 3) := by decide +kernel
theorem dX12_improve_4 : decode cX12_improve 4 = .ok (.invokevirtual 226, 3) := by decide +kernel
theorem dX12_improve_7 : decode cX12_improve 7 = .ok (.aload_n 0, 1) := by decide +kernel
theorem dX12_improve_8 : decode cX12_improve 8 = .ok (.iload_n 1, 1) := by decide +kernel
theorem dX12_improve_9 : decode cX12_improve 9 = .ok (.invokevirtual 152, 3) := by decide +kernel
theorem dX12_improve_12 : decode cX12_improve 12 = .ok (.astore_n 3, 1) := by decide +kernel
theorem dX12_improve_13 : decode cX12_improve 13 = .ok (.aload_n 3, 1) := by decide +kernel
theorem dX12_improve_14 : decode cX12_improve 14 = .ok (.ifnull 14, 3) := by decide +kernel
theorem dX12_improve_17 : decode cX12_improve 17 = .ok (.iload_n 2, 1) := by decide +kernel
theorem dX12_improve_18 : decode cX12_improve 18 = .ok (.ifCond .lt 10, 3) := by decide +kernel
theorem dX12_improve_21 : decode cX12_improve 21 = .ok (.iload_n 2, 1) := by decide +kernel
theorem dX12_improve_22 : decode cX12_improve 22 = .ok (.sipush 2047, 3) := by decide +kernel
theorem dX12_improve_25 : decode cX12_improve 25 = .ok (.if_icmp .le 5, 3) := by decide +kernel
theorem dX12_improve_28 : decode cX12_improve 28 = .ok (.iconst (-1), 1) := by decide +kernel
theorem dX12_improve_29 : decode cX12_improve 29 = .ok (.ireturn, 1) := by decide +kernel
theorem dX12_improve_30 : decode cX12_improve 30 = .ok (.aload_n 0, 1) := by decide +kernel
theorem dX12_improve_31 : decode cX12_improve 31 = .ok (.getfield 94, 3) := by decide +kernel
theorem dX12_improve_34 : decode cX12_improve 34 = .ok (.bipush 12, 2) := by decide +kernel
theorem dX12_improve_36 : decode cX12_improve 36 = .ok (.if_icmp .ge 12, 3) := by decide +kernel
theorem dX12_improve_39 : decode cX12_improve 39 = .ok (.aload_n 0, 1) := by decide +kernel
theorem dX12_improve_40 : decode cX12_improve 40 = .ok (.getfield 229, 3) := by decide +kernel
theorem dX12_improve_43 : decode cX12_improve 43 = .ok (.bipush 16, 2) := by decide +kernel
theorem dX12_improve_45 : decode cX12_improve 45 = .ok (.if_icmp .lt 6, 3) := by decide +kernel
theorem dX12_improve_48 : decode cX12_improve 48 = .ok (.bipush (-2), 2) := by decide +kernel
theorem dX12_improve_50 : decode cX12_improve 50 = .ok (.ireturn, 1) := by decide +kernel
theorem dX12_improve_51 : decode cX12_improve 51 = .ok (.aload_n 0, 1) := by decide +kernel
theorem dX12_improve_52 : decode cX12_improve 52 = .ok (.dup, 1) := by decide +kernel
theorem dX12_improve_53 : decode cX12_improve 53 = .ok (.getfield 229, 3) := by decide +kernel
theorem dX12_improve_56 : decode cX12_improve 56 = .ok (.iconst 1, 1) := by decide +kernel
theorem dX12_improve_57 : decode cX12_improve 57 = .ok (.iadd, 1) := by decide +kernel
theorem dX12_improve_58 : decode cX12_improve 58 = .ok (.putfield 229, 3) := by decide +kernel
theorem dX12_improve_61 : decode cX12_improve 61 = .ok (.aload_n 0, 1) := by decide +kernel
theorem dX12_improve_62 : decode cX12_improve 62 = .ok (.getfield 45, 3) := by decide +kernel
theorem dX12_improve_65 : decode cX12_improve 65 = .ok (.aload_n 3, 1) := by decide +kernel
theorem dX12_improve_66 : decode cX12_improve 66 = .ok (.iconst 0, 1) := by decide +kernel
theorem dX12_improve_67 : decode cX12_improve 67 = .ok (.invokevirtual 163, 3) := by decide +kernel
theorem dX12_improve_70 : decode cX12_improve 70 = .ok (.iconst 0, 1) := by decide +kernel
theorem dX12_improve_71 : decode cX12_improve 71 = .ok (.istore 4, 2) := by decide +kernel
theorem dX12_improve_73 : decode cX12_improve 73 = .ok (.iload 4, 2) := by decide +kernel
theorem dX12_improve_75 : decode cX12_improve 75 = .ok (.aload_n 3, 1) := by decide +kernel
theorem dX12_improve_76 : decode cX12_improve 76 = .ok (.getfield 123, 3) := by decide +kernel
theorem dX12_improve_79 : decode cX12_improve 79 = .ok (.if_icmp .ge 37, 3) := by decide +kernel
theorem dX12_improve_82 : decode cX12_improve 82 = .ok (.aload_n 0, 1) := by decide +kernel
theorem dX12_improve_83 : decode cX12_improve 83 = .ok (.getfield 66, 3) := by decide +kernel
theorem dX12_improve_86 : decode cX12_improve 86 = .ok (.aload_n 3, 1) := by decide +kernel
theorem dX12_improve_87 : decode cX12_improve 87 = .ok (.iload 4, 2) := by decide +kernel
theorem dX12_improve_89 : decode cX12_improve 89 = .ok (.invokevirtual 144, 3) := by decide +kernel
theorem dX12_improve_92 : decode cX12_improve 92 = .ok (.iload_n 2, 1) := by decide +kernel
theorem dX12_improve_93 : decode cX12_improve 93 = .ok (.invokevirtual 232, 3) := by decide +kernel
theorem dX12_improve_96 : decode cX12_improve 96 = .ok (.aload_n 0, 1) := by decide +kernel
theorem dX12_improve_97 : decode cX12_improve 97 = .ok (.getfield 45, 3) := by decide +kernel
theorem dX12_improve_100 : decode cX12_improve 100 = .ok (.aload_n 0, 1) := by decide +kernel
theorem dX12_improve_101 : decode cX12_improve 101 = .ok (.getfield 66, 3) := by decide +kernel
theorem dX12_improve_104 : decode cX12_improve 104 = .ok (.getfield 236, 3) := by decide +kernel
theorem dX12_improve_107 : decode cX12_improve 107 = .ok (.invokevirtual 167, 3) := by decide +kernel
theorem dX12_improve_110 : decode cX12_improve 110 = .ok (.iinc 4 1, 3) := by decide +kernel
theorem dX12_improve_113 : decode cX12_improve 113 = .ok (.goto (-40), 3) := by decide +kernel
theorem dX12_improve_116 : decode cX12_improve 116 = .ok (.aload_n 0, 1) := by decide +kernel
theorem dX12_improve_117 : decode cX12_improve 117 = .ok (.getfield 45, 3) := by decide +kernel
theorem dX12_improve_120 : decode cX12_improve 120 = .ok (.invokevirtual 240, 3) := by decide +kernel
theorem dX12_improve_123 : decode cX12_improve 123 = .ok (.ifCond .ne 6, 3) := by decide +kernel
theorem dX12_improve_126 : decode cX12_improve 126 = .ok (.bipush (-3), 2) := by decide +kernel
theorem dX12_improve_128 : decode cX12_improve 128 = .ok (.ireturn, 1) := by decide +kernel
theorem dX12_improve_129 : decode cX12_improve 129 = .ok (.aload_n 0, 1) := by decide +kernel
theorem dX12_improve_130 : decode cX12_improve 130 = .ok (.getfield 45, 3) := by decide +kernel
theorem dX12_improve_133 : decode cX12_improve 133 = .ok (.aload_n 0, 1) := by decide +kernel
theorem dX12_improve_134 : decode cX12_improve 134 = .ok (.getfield 19, 3) := by decide +kernel
theorem dX12_improve_137 : decode cX12_improve 137 = .ok (.invokevirtual 171, 3) := by decide +kernel
theorem dX12_improve_140 : decode cX12_improve 140 = .ok (.aload_n 0, 1) := by decide +kernel
theorem dX12_improve_141 : decode cX12_improve 141 = .ok (.aload_n 0, 1) := by decide +kernel
theorem dX12_improve_142 : decode cX12_improve 142 = .ok (.getfield 31, 3) := by decide +kernel
theorem dX12_improve_145 : decode cX12_improve 145 = .ok (.aload_n 0, 1) := by decide +kernel
theorem dX12_improve_146 : decode cX12_improve 146 = .ok (.getfield 19, 3) := by decide +kernel
theorem dX12_improve_149 : decode cX12_improve 149 = .ok (.invokevirtual 97, 3) := by decide +kernel
theorem dX12_improve_152 : decode cX12_improve 152 = .ok (.bipush (-3), 2) := by decide +kernel
theorem dX12_improve_154 : decode cX12_improve 154 = .ok (.invokevirtual 112, 3) := by decide +kernel
theorem dX12_improve_157 : decode cX12_improve 157 = .ok (.ireturn, 1) := by decide +kernel
theorem dX12_init_0 : decode cX12_init 0 = .ok (.aload_n 0, 1) := by decide +kernel
theorem dX12_init_1 : decode cX12_init 1 = .ok (.invokespecial 1, 3) := by decide +kernel
theorem dX12_init_4 : decode cX12_init 4 = .ok (.aload_n 0, 1) := by decide +kernel
theorem dX12_init_5 : decode cX12_init 5 = .ok (.new 7, 3) := by decide +kernel
theorem dX12_init_8 : decode cX12_init 8 = .ok (.dup, 1) := by decide +kernel
theorem dX12_init_9 : decode cX12_init 9 = .ok (.invokespecial 9, 3) := by decide +kernel
theorem dX12_init_12 : decode cX12_init 12 = .ok (.putfield 10, 3) := by decide +kernel
theorem dX12_init_15 : decode cX12_init 15 = .ok (.aload_n 0, 1) := by decide +kernel
theorem dX12_init_16 : decode cX12_init 16 = .ok (.new 7, 3) := by decide +kernel
theorem dX12_init_19 : decode cX12_init 19 = .ok (.dup, 1) := by decide +kernel
theorem dX12_init_20 : decode cX12_init 20 = .ok (.invokespecial 9, 3) := by decide +kernel
theorem dX12_init_23 : decode cX12_init 23 = .ok (.putfield 16, 3) := by decide +kernel
theorem dX12_init_26 : decode cX12_init 26 = .ok (.aload_n 0, 1) := by decide +kernel
theorem dX12_init_27 : decode cX12_init 27 = .ok (.new 7, 3) := by decide +kernel
theorem dX12_init_30 : decode cX12_init 30 = .ok (.dup, 1) := by decide +kernel
theorem dX12_init_31 : decode cX12_init 31 = .ok (.invokespecial 9, 3) := by decide +kernel
theorem dX12_init_34 : decode cX12_init 34 = .ok (.putfield 19, 3) := by decide +kernel
theorem dX12_init_37 : decode cX12_init 37 = .ok (.aload_n 0, 1) := by decide +kernel
theorem dX12_init_38 : decode cX12_init 38 = .ok (.bipush 12, 2) := by decide +kernel
theorem dX12_init_40 : decode cX12_init 40 = .ok (.anewarray 22, 3) := by decide +kernel
theorem dX12_init_43 : decode cX12_init 43 = .ok (.putfield 24, 3) := by decide +kernel
theorem dX12_init_46 : decode cX12_init 46 = .ok (.aload_n 0, 1) := by decide +kernel
theorem dX12_init_47 : decode cX12_init 47 = .ok (.new 28, 3) := by decide +kernel
theorem dX12_init_50 : decode cX12_init 50 = .ok (.dup, 1) := by decide +kernel
theorem dX12_init_51 : decode cX12_init 51 = .ok (.invokespecial 30, 3) := by decide +kernel
theorem dX12_init_54 : decode cX12_init 54 = .ok (.putfield 31, 3) := by decide +kernel
theorem dX12_init_57 : decode cX12_init 57 = .ok (.aload_n 0, 1) := by decide +kernel
theorem dX12_init_58 : decode cX12_init 58 = .ok (.new 35, 3) := by decide +kernel
theorem dX12_init_61 : decode cX12_init 61 = .ok (.dup, 1) := by decide +kernel
theorem dX12_init_62 : decode cX12_init 62 = .ok (.invokespecial 37, 3) := by decide +kernel
theorem dX12_init_65 : decode cX12_init 65 = .ok (.putfield 38, 3) := by decide +kernel
theorem dX12_init_68 : decode cX12_init 68 = .ok (.aload_n 0, 1) := by decide +kernel
theorem dX12_init_69 : decode cX12_init 69 = .ok (.new 42, 3) := by decide +kernel
theorem dX12_init_72 : decode cX12_init 72 = .ok (.dup, 1) := by decide +kernel
theorem dX12_init_73 : decode cX12_init 73 = .ok (.invokespecial 44, 3) := by decide +kernel
theorem dX12_init_76 : decode cX12_init 76 = .ok (.putfield 45, 3) := by decide +kernel
theorem dX12_init_79 : decode cX12_init 79 = .ok (.aload_n 0, 1) := by decide +kernel
theorem dX12_init_80 : decode cX12_init 80 = .ok (.new 49, 3) := by decide +kernel
theorem dX12_init_83 : decode cX12_init 83 = .ok (.dup, 1) := by decide +kernel
theorem dX12_init_84 : decode cX12_init 84 = .ok (.invokespecial 51, 3) := by decide +kernel
theorem dX12_init_87 : decode cX12_init 87 = .ok (.putfield 52, 3) := by decide +kernel
theorem dX12_init_90 : decode cX12_init 90 = .ok (.aload_n 0, 1) := by decide +kernel
theorem dX12_init_91 : decode cX12_init 91 = .ok (.new 56, 3) := by decide +kernel
theorem dX12_init_94 : decode cX12_init 94 = .ok (.dup, 1) := by decide +kernel
theorem dX12_init_95 : decode cX12_init 95 = .ok (.invokespecial 58, 3) := by decide +kernel
theorem dX12_init_98 : decode cX12_init 98 = .ok (.putfield 59, 3) := by decide +kernel
theorem dX12_init_101 : decode cX12_init 101 = .ok (.aload_n 0, 1) := by decide +kernel
theorem dX12_init_102 : decode cX12_init 102 = .ok (.new 63, 3) := by decide +kernel
theorem dX12_init_105 : decode cX12_init 105 = .ok (.dup, 1) := by decide +kernel
theorem dX12_init_106 : decode cX12_init 106 = .ok (.invokespecial 65, 3) := by decide +kernel
theorem dX12_init_109 : decode cX12_init 109 = .ok (.putfield 66, 3) := by decide +kernel
theorem dX12_init_112 : decode cX12_init 112 = .ok (.aload_n 0, 1) := by decide +kernel
theorem dX12_init_113 : decode cX12_init 113 = .ok (.iconst (-1), 1) := by decide +kernel
theorem dX12_init_114 : decode cX12_init 114 = .ok (.putfield 70, 3) := by decide +kernel
theorem dX12_init_117 : decode cX12_init 117 = .ok (.aload_n 0, 1) := by decide +kernel
theorem dX12_init_118 : decode cX12_init 118 = .ok (.iconst (-1), 1) := by decide +kernel
theorem dX12_init_119 : decode cX12_init 119 = .ok (.putfield 74, 3) := by decide +kernel
theorem dX12_init_122 : decode cX12_init 122 = .ok (.aload_n 0, 1) := by decide +kernel
theorem dX12_init_123 : decode cX12_init 123 = .ok (.iconst (-1), 1) := by decide +kernel
theorem dX12_init_124 : decode cX12_init 124 = .ok (.putfield 77, 3) := by decide +kernel
theorem dX12_init_127 : decode cX12_init 127 = .ok (.aload_n 0, 1) := by decide +kernel
theorem dX12_init_128 : decode cX12_init 128 = .ok (.iconst (-1), 1) := by decide +kernel
theorem dX12_init_129 : decode cX12_init 129 = .ok (.putfield 80, 3) := by decide +kernel
theorem dX12_init_132 : decode cX12_init 132 = .ok (.return_, 1) := by decide +kernel
theorem dX12_keep_0 : decode cX12_keep 0 = .ok (.aload_n 1, 1) := by decide +kernel
theorem dX12_keep_1 : decode cX12_keep 1 = .ok (.ifnull 12, 3) := by decide +kernel
theorem dX12_keep_4 : decode cX12_keep 4 = .ok (.aload_n 0, 1) := by decide +kernel
theorem dX12_keep_5 : decode cX12_keep 5 = .ok (.getfield 94, 3) := by decide +kernel
theorem dX12_keep_8 : decode cX12_keep 8 = .ok (.bipush 12, 2) := by decide +kernel
theorem dX12_keep_10 : decode cX12_keep 10 = .ok (.if_icmp .lt 5, 3) := by decide +kernel
theorem dX12_keep_13 : decode cX12_keep 13 = .ok (.iload_n 2, 1) := by decide +kernel
theorem dX12_keep_14 : decode cX12_keep 14 = .ok (.ireturn, 1) := by decide +kernel
theorem dX12_keep_15 : decode cX12_keep 15 = .ok (.aload_n 0, 1) := by decide +kernel
theorem dX12_keep_16 : decode cX12_keep 16 = .ok (.getfield 24, 3) := by decide +kernel
theorem dX12_keep_19 : decode cX12_keep 19 = .ok (.aload_n 0, 1) := by decide +kernel
theorem dX12_keep_20 : decode cX12_keep 20 = .ok (.getfield 94, 3) := by decide +kernel
theorem dX12_keep_23 : decode cX12_keep 23 = .ok (.aload_n 1, 1) := by decide +kernel
theorem dX12_keep_24 : decode cX12_keep 24 = .ok (.aastore, 1) := by decide +kernel
theorem dX12_keep_25 : decode cX12_keep 25 = .ok (.aload_n 0, 1) := by decide +kernel
theorem dX12_keep_26 : decode cX12_keep 26 = .ok (.dup, 1) := by decide +kernel

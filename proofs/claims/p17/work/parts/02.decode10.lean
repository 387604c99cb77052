theorem dX11_lengthOf_48 : decode cX11_lengthOf 48 = .ok (.iload_n 3, 1) := by decide +kernel
theorem dX11_lengthOf_49 : decode cX11_lengthOf 49 = .ok (.invokestatic 288, 3) := by decide +kernel
theorem dX11_lengthOf_52 : decode cX11_lengthOf 52 = .ok (.ifCond .eq 5, 3) := by decide +kernel
theorem dX11_lengthOf_55 : decode cX11_lengthOf 55 = .ok (.iconst 3, 1) := by decide +kernel
theorem dX11_lengthOf_56 : decode cX11_lengthOf 56 = .ok (.ireturn, 1) := by decide +kernel
theorem dX11_lengthOf_57 : decode cX11_lengthOf 57 = .ok (.iload_n 3, 1) := by decide +kernel
theorem dX11_lengthOf_58 : decode cX11_lengthOf 58 = .ok (.lookupswitch 184 #[(17, 82), (20, 94), (132, 114), (170, 136), (171, 159), (178, 180), (179, 180), (184, 180), (188, 182)], 82) := by decide +kernel
theorem dX11_lengthOf_140 : decode cX11_lengthOf 140 = .ok (.lload 4, 2) := by decide +kernel
theorem dX11_lengthOf_142 : decode cX11_lengthOf 142 = .ok (.aload_n 0, 1) := by decide +kernel
theorem dX11_lengthOf_143 : decode cX11_lengthOf 143 = .ok (.getfield 50, 3) := by decide +kernel
theorem dX11_lengthOf_146 : decode cX11_lengthOf 146 = .ok (.iload_n 1, 1) := by decide +kernel
theorem dX11_lengthOf_147 : decode cX11_lengthOf 147 = .ok (.iaload, 1) := by decide +kernel
theorem dX11_lengthOf_148 : decode cX11_lengthOf 148 = .ok (.invokestatic 291, 3) := by decide +kernel
theorem dX11_lengthOf_151 : decode cX11_lengthOf 151 = .ok (.ireturn, 1) := by decide +kernel
theorem dX11_lengthOf_152 : decode cX11_lengthOf 152 = .ok (.lload 4, 2) := by decide +kernel
theorem dX11_lengthOf_154 : decode cX11_lengthOf 154 = .ok (.lconst 0, 1) := by decide +kernel
theorem dX11_lengthOf_155 : decode cX11_lengthOf 155 = .ok (.lcmp, 1) := by decide +kernel
theorem dX11_lengthOf_156 : decode cX11_lengthOf 156 = .ok (.ifCond .eq 10, 3) := by decide +kernel
theorem dX11_lengthOf_159 : decode cX11_lengthOf 159 = .ok (.lload 4, 2) := by decide +kernel
theorem dX11_lengthOf_161 : decode cX11_lengthOf 161 = .ok (.lconst 1, 1) := by decide +kernel
theorem dX11_lengthOf_162 : decode cX11_lengthOf 162 = .ok (.lcmp, 1) := by decide +kernel
theorem dX11_lengthOf_163 : decode cX11_lengthOf 163 = .ok (.ifCond .ne 7, 3) := by decide +kernel
theorem dX11_lengthOf_166 : decode cX11_lengthOf 166 = .ok (.iconst 1, 1) := by decide +kernel
theorem dX11_lengthOf_167 : decode cX11_lengthOf 167 = .ok (.goto 4, 3) := by decide +kernel
theorem dX11_lengthOf_170 : decode cX11_lengthOf 170 = .ok (.iconst 3, 1) := by decide +kernel
theorem dX11_lengthOf_171 : decode cX11_lengthOf 171 = .ok (.ireturn, 1) := by decide +kernel
theorem dX11_lengthOf_172 : decode cX11_lengthOf 172 = .ok (.aload_n 0, 1) := by decide +kernel
theorem dX11_lengthOf_173 : decode cX11_lengthOf 173 = .ok (.getfield 180, 3) := by decide +kernel
theorem dX11_lengthOf_176 : decode cX11_lengthOf 176 = .ok (.iload_n 1, 1) := by decide +kernel
theorem dX11_lengthOf_177 : decode cX11_lengthOf 177 = .ok (.invokevirtual 295, 3) := by decide +kernel
theorem dX11_lengthOf_180 : decode cX11_lengthOf 180 = .ok (.i2l, 1) := by decide +kernel
theorem dX11_lengthOf_181 : decode cX11_lengthOf 181 = .ok (.invokestatic 298, 3) := by decide +kernel
theorem dX11_lengthOf_184 : decode cX11_lengthOf 184 = .ok (.ifCond .eq 7, 3) := by decide +kernel
theorem dX11_lengthOf_187 : decode cX11_lengthOf 187 = .ok (.iconst 3, 1) := by decide +kernel
theorem dX11_lengthOf_188 : decode cX11_lengthOf 188 = .ok (.goto 5, 3) := by decide +kernel
theorem dX11_lengthOf_191 : decode cX11_lengthOf 191 = .ok (.bipush 6, 2) := by decide +kernel
theorem dX11_lengthOf_193 : decode cX11_lengthOf 193 = .ok (.ireturn, 1) := by decide +kernel
theorem dX11_lengthOf_194 : decode cX11_lengthOf 194 = .ok (.iload_n 2, 1) := by decide +kernel
theorem dX11_lengthOf_195 : decode cX11_lengthOf 195 = .ok (.iconst 4, 1) := by decide +kernel
theorem dX11_lengthOf_196 : decode cX11_lengthOf 196 = .ok (.iadd, 1) := by decide +kernel
theorem dX11_lengthOf_197 : decode cX11_lengthOf 197 = .ok (.bipush (-4), 2) := by decide +kernel
theorem dX11_lengthOf_199 : decode cX11_lengthOf 199 = .ok (.iand, 1) := by decide +kernel
theorem dX11_lengthOf_200 : decode cX11_lengthOf 200 = .ok (.iload_n 2, 1) := by decide +kernel
theorem dX11_lengthOf_201 : decode cX11_lengthOf 201 = .ok (.isub, 1) := by decide +kernel
theorem dX11_lengthOf_202 : decode cX11_lengthOf 202 = .ok (.bipush 8, 2) := by decide +kernel
theorem dX11_lengthOf_204 : decode cX11_lengthOf 204 = .ok (.iadd, 1) := by decide +kernel
theorem dX11_lengthOf_205 : decode cX11_lengthOf 205 = .ok (.iconst 4, 1) := by decide +kernel
theorem dX11_lengthOf_206 : decode cX11_lengthOf 206 = .ok (.aload_n 0, 1) := by decide +kernel
theorem dX11_lengthOf_207 : decode cX11_lengthOf 207 = .ok (.getfield 180, 3) := by decide +kernel
theorem dX11_lengthOf_210 : decode cX11_lengthOf 210 = .ok (.iload_n 1, 1) := by decide +kernel
theorem dX11_lengthOf_211 : decode cX11_lengthOf 211 = .ok (.invokevirtual 302, 3) := by decide +kernel
theorem dX11_lengthOf_214 : decode cX11_lengthOf 214 = .ok (.imul, 1) := by decide +kernel
theorem dX11_lengthOf_215 : decode cX11_lengthOf 215 = .ok (.iadd, 1) := by decide +kernel
theorem dX11_lengthOf_216 : decode cX11_lengthOf 216 = .ok (.ireturn, 1) := by decide +kernel
theorem dX11_lengthOf_217 : decode cX11_lengthOf 217 = .ok (.iload_n 2, 1) := by decide +kernel
theorem dX11_lengthOf_218 : decode cX11_lengthOf 218 = .ok (.iconst 4, 1) := by decide +kernel
theorem dX11_lengthOf_219 : decode cX11_lengthOf 219 = .ok (.iadd, 1) := by decide +kernel
theorem dX11_lengthOf_220 : decode cX11_lengthOf 220 = .ok (.bipush (-4), 2) := by decide +kernel
theorem dX11_lengthOf_222 : decode cX11_lengthOf 222 = .ok (.iand, 1) := by decide +kernel
theorem dX11_lengthOf_223 : decode cX11_lengthOf 223 = .ok (.iload_n 2, 1) := by decide +kernel
theorem dX11_lengthOf_224 : decode cX11_lengthOf 224 = .ok (.isub, 1) := by decide +kernel
theorem dX11_lengthOf_225 : decode cX11_lengthOf 225 = .ok (.bipush 8, 2) := by decide +kernel
theorem dX11_lengthOf_227 : decode cX11_lengthOf 227 = .ok (.aload_n 0, 1) := by decide +kernel
theorem dX11_lengthOf_228 : decode cX11_lengthOf 228 = .ok (.getfield 180, 3) := by decide +kernel
theorem dX11_lengthOf_231 : decode cX11_lengthOf 231 = .ok (.iload_n 1, 1) := by decide +kernel
theorem dX11_lengthOf_232 : decode cX11_lengthOf 232 = .ok (.invokevirtual 302, 3) := by decide +kernel
theorem dX11_lengthOf_235 : decode cX11_lengthOf 235 = .ok (.imul, 1) := by decide +kernel
theorem dX11_lengthOf_236 : decode cX11_lengthOf 236 = .ok (.iadd, 1) := by decide +kernel
theorem dX11_lengthOf_237 : decode cX11_lengthOf 237 = .ok (.ireturn, 1) := by decide +kernel
theorem dX11_lengthOf_238 : decode cX11_lengthOf 238 = .ok (.iconst 3, 1) := by decide +kernel
theorem dX11_lengthOf_239 : decode cX11_lengthOf 239 = .ok (.ireturn, 1) := by decide +kernel
theorem dX11_lengthOf_240 : decode cX11_lengthOf 240 = .ok (.iconst 2, 1) := by decide +kernel
theorem dX11_lengthOf_241 : decode cX11_lengthOf 241 = .ok (.ireturn, 1) := by decide +kernel
theorem dX11_lengthOf_242 : decode cX11_lengthOf 242 = .ok (.iconst 1, 1) := by decide +kernel
theorem dX11_lengthOf_243 : decode cX11_lengthOf 243 = .ok (.ireturn, 1) := by decide +kernel
theorem dX11_lengthOfPush_0 : decode cX11_lengthOfPush 0 = .ok (.lload_n 0, 1) := by decide +kernel
theorem dX11_lengthOfPush_1 : decode cX11_lengthOfPush 1 = .ok (.ldc2_w 305, 3) := by decide +kernel
theorem dX11_lengthOfPush_4 : decode cX11_lengthOfPush 4 = .ok (.lcmp, 1) := by decide +kernel
theorem dX11_lengthOfPush_5 : decode cX11_lengthOfPush 5 = .ok (.ifCond .lt 13, 3) := by decide +kernel
theorem dX11_lengthOfPush_8 : decode cX11_lengthOfPush 8 = .ok (.lload_n 0, 1) := by decide +kernel
theorem dX11_lengthOfPush_9 : decode cX11_lengthOfPush 9 = .ok (.ldc2_w 307, 3) := by decide +kernel
theorem dX11_lengthOfPush_12 : decode cX11_lengthOfPush 12 = .ok (.lcmp, 1) := by decide +kernel
theorem dX11_lengthOfPush_13 : decode cX11_lengthOfPush 13 = .ok (.ifCond .gt 5, 3) := by decide +kernel
theorem dX11_lengthOfPush_16 : decode cX11_lengthOfPush 16 = .ok (.iconst 1, 1) := by decide +kernel
theorem dX11_lengthOfPush_17 : decode cX11_lengthOfPush 17 = .ok (.ireturn, 1) := by decide +kernel
theorem dX11_lengthOfPush_18 : decode cX11_lengthOfPush 18 = .ok (.lload_n 0, 1) := by decide +kernel
theorem dX11_lengthOfPush_19 : decode cX11_lengthOfPush 19 = .ok (.invokestatic 298, 3) := by decide +kernel
theorem dX11_lengthOfPush_22 : decode cX11_lengthOfPush 22 = .ok (.ifCond .eq 5, 3) := by decide +kernel
theorem dX11_lengthOfPush_25 : decode cX11_lengthOfPush 25 = .ok (.iconst 2, 1) := by decide +kernel
theorem dX11_lengthOfPush_26 : decode cX11_lengthOfPush 26 = .ok (.ireturn, 1) := by decide +kernel
theorem dX11_lengthOfPush_27 : decode cX11_lengthOfPush 27 = .ok (.lload_n 0, 1) := by decide +kernel
theorem dX11_lengthOfPush_28 : decode cX11_lengthOfPush 28 = .ok (.lload_n 0, 1) := by decide +kernel
theorem dX11_lengthOfPush_29 : decode cX11_lengthOfPush 29 = .ok (.l2i, 1) := by decide +kernel
theorem dX11_lengthOfPush_30 : decode cX11_lengthOfPush 30 = .ok (.i2s, 1) := by decide +kernel
theorem dX11_lengthOfPush_31 : decode cX11_lengthOfPush 31 = .ok (.i2l, 1) := by decide +kernel
theorem dX11_lengthOfPush_32 : decode cX11_lengthOfPush 32 = .ok (.lcmp, 1) := by decide +kernel
theorem dX11_lengthOfPush_33 : decode cX11_lengthOfPush 33 = .ok (.ifCond .eq 10, 3) := by decide +kernel
theorem dX11_lengthOfPush_36 : decode cX11_lengthOfPush 36 = .ok (.iload_n 2, 1) := by decide +kernel
theorem dX11_lengthOfPush_37 : decode cX11_lengthOfPush 37 = .ok (.sipush 255, 3) := by decide +kernel
theorem dX11_lengthOfPush_40 : decode cX11_lengthOfPush 40 = .ok (.if_icmp .le 7, 3) := by decide +kernel
theorem dX11_lengthOfPush_43 : decode cX11_lengthOfPush 43 = .ok (.iconst 3, 1) := by decide +kernel
theorem dX11_lengthOfPush_44 : decode cX11_lengthOfPush 44 = .ok (.goto 4, 3) := by decide +kernel
theorem dX11_lengthOfPush_47 : decode cX11_lengthOfPush 47 = .ok (.iconst 2, 1) := by decide +kernel
theorem dX11_lengthOfPush_48 : decode cX11_lengthOfPush 48 = .ok (.ireturn, 1) := by decide +kernel
theorem dX11_longEntry_0 : decode cX11_longEntry 0 = .ok (.aload_n 0, 1) := by decide +kernel
theorem dX11_longEntry_1 : decode cX11_longEntry 1 = .ok (.iconst 5, 1) := by decide +kernel
theorem dX11_longEntry_2 : decode cX11_longEntry 2 = .ok (.invokevirtual 147, 3) := by decide +kernel
theorem dX11_longEntry_5 : decode cX11_longEntry 5 = .ok (.aload_n 0, 1) := by decide +kernel
theorem dX11_longEntry_6 : decode cX11_longEntry 6 = .ok (.getfield 21, 3) := by decide +kernel
theorem dX11_longEntry_9 : decode cX11_longEntry 9 = .ok (.lload_n 1, 1) := by decide +kernel
theorem dX11_longEntry_10 : decode cX11_longEntry 10 = .ok (.bipush 32, 2) := by decide +kernel
theorem dX11_longEntry_12 : decode cX11_longEntry 12 = .ok (.lshr, 1) := by decide +kernel
theorem dX11_longEntry_13 : decode cX11_longEntry 13 = .ok (.l2i, 1) := by decide +kernel
theorem dX11_longEntry_14 : decode cX11_longEntry 14 = .ok (.invokevirtual 167, 3) := by decide +kernel
theorem dX11_longEntry_17 : decode cX11_longEntry 17 = .ok (.aload_n 0, 1) := by decide +kernel
theorem dX11_longEntry_18 : decode cX11_longEntry 18 = .ok (.getfield 21, 3) := by decide +kernel
theorem dX11_longEntry_21 : decode cX11_longEntry 21 = .ok (.lload_n 1, 1) := by decide +kernel
theorem dX11_longEntry_22 : decode cX11_longEntry 22 = .ok (.l2i, 1) := by decide +kernel
theorem dX11_longEntry_23 : decode cX11_longEntry 23 = .ok (.invokevirtual 167, 3) := by decide +kernel
theorem dX11_longEntry_26 : decode cX11_longEntry 26 = .ok (.aload_n 0, 1) := by decide +kernel
theorem dX11_longEntry_27 : decode cX11_longEntry 27 = .ok (.invokevirtual 160, 3) := by decide +kernel
theorem dX11_longEntry_30 : decode cX11_longEntry 30 = .ok (.ireturn, 1) := by decide +kernel
theorem dX11_methodEntryOf_0 : decode cX11_methodEntryOf 0 = .ok (.iload_n 1, 1) := by decide +kernel
theorem dX11_methodEntryOf_1 : decode cX11_methodEntryOf 1 = .ok (.ifCond .lt 24, 3) := by decide +kernel
theorem dX11_methodEntryOf_4 : decode cX11_methodEntryOf 4 = .ok (.iload_n 1, 1) := by decide +kernel
theorem dX11_methodEntryOf_5 : decode cX11_methodEntryOf 5 = .ok (.aload_n 0, 1) := by decide +kernel
theorem dX11_methodEntryOf_6 : decode cX11_methodEntryOf 6 = .ok (.getfield 40, 3) := by decide +kernel
theorem dX11_methodEntryOf_9 : decode cX11_methodEntryOf 9 = .ok (.arraylength, 1) := by decide +kernel
theorem dX11_methodEntryOf_10 : decode cX11_methodEntryOf 10 = .ok (.if_icmp .ge 15, 3) := by decide +kernel
theorem dX11_methodEntryOf_13 : decode cX11_methodEntryOf 13 = .ok (.iload_n 1, 1) := by decide +kernel
theorem dX11_methodEntryOf_14 : decode cX11_methodEntryOf 14 = .ok (.aload_n 0, 1) := by decide +kernel
theorem dX11_methodEntryOf_15 : decode cX11_methodEntryOf 15 = .ok (.getfield 56, 3) := by decide +kernel
theorem dX11_methodEntryOf_18 : decode cX11_methodEntryOf 18 = .ok (.getfield 174, 3) := by decide +kernel
theorem dX11_methodEntryOf_21 : decode cX11_methodEntryOf 21 = .ok (.arraylength, 1) := by decide +kernel
theorem dX11_methodEntryOf_22 : decode cX11_methodEntryOf 22 = .ok (.if_icmp .lt 5, 3) := by decide +kernel
theorem dX11_methodEntryOf_25 : decode cX11_methodEntryOf 25 = .ok (.iconst 0, 1) := by decide +kernel
theorem dX11_methodEntryOf_26 : decode cX11_methodEntryOf 26 = .ok (.ireturn, 1) := by decide +kernel
theorem dX11_methodEntryOf_27 : decode cX11_methodEntryOf 27 = .ok (.aload_n 0, 1) := by decide +kernel
theorem dX11_methodEntryOf_28 : decode cX11_methodEntryOf 28 = .ok (.getfield 40, 3) := by decide +kernel
theorem dX11_methodEntryOf_31 : decode cX11_methodEntryOf 31 = .ok (.iload_n 1, 1) := by decide +kernel
theorem dX11_methodEntryOf_32 : decode cX11_methodEntryOf 32 = .ok (.iaload, 1) := by decide +kernel
theorem dX11_methodEntryOf_33 : decode cX11_methodEntryOf 33 = .ok (.ifCond .ne 55, 3) := by decide +kernel
theorem dX11_methodEntryOf_36 : decode cX11_methodEntryOf 36 = .ok (.aload_n 0, 1) := by decide +kernel
theorem dX11_methodEntryOf_37 : decode cX11_methodEntryOf 37 = .ok (.aload_n 0, 1) := by decide +kernel
theorem dX11_methodEntryOf_38 : decode cX11_methodEntryOf 38 = .ok (.getfield 56, 3) := by decide +kernel
theorem dX11_methodEntryOf_41 : decode cX11_methodEntryOf 41 = .ok (.getfield 174, 3) := by decide +kernel
theorem dX11_methodEntryOf_44 : decode cX11_methodEntryOf 44 = .ok (.iload_n 1, 1) := by decide +kernel
theorem dX11_methodEntryOf_45 : decode cX11_methodEntryOf 45 = .ok (.iaload, 1) := by decide +kernel
theorem dX11_methodEntryOf_46 : decode cX11_methodEntryOf 46 = .ok (.invokevirtual 91, 3) := by decide +kernel
theorem dX11_methodEntryOf_49 : decode cX11_methodEntryOf 49 = .ok (.istore_n 2, 1) := by decide +kernel

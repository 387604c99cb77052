theorem dX2_decodeLocal_151 : decode cX2_decodeLocal 151 = .ok (.if_icmp .gt 30, 3) := by decide +kernel
theorem dX2_decodeLocal_154 : decode cX2_decodeLocal 154 = .ok (.aload_n 0, 1) := by decide +kernel
theorem dX2_decodeLocal_155 : decode cX2_decodeLocal 155 = .ok (.iload_n 2, 1) := by decide +kernel
theorem dX2_decodeLocal_156 : decode cX2_decodeLocal 156 = .ok (.bipush 30, 2) := by decide +kernel
theorem dX2_decodeLocal_158 : decode cX2_decodeLocal 158 = .ok (.if_icmp .ge 8, 3) := by decide +kernel
theorem dX2_decodeLocal_161 : decode cX2_decodeLocal 161 = .ok (.bipush 21, 2) := by decide +kernel
theorem dX2_decodeLocal_163 : decode cX2_decodeLocal 163 = .ok (.goto 5, 3) := by decide +kernel
theorem dX2_decodeLocal_166 : decode cX2_decodeLocal 166 = .ok (.bipush 22, 2) := by decide +kernel
theorem dX2_decodeLocal_168 : decode cX2_decodeLocal 168 = .ok (.iload_n 2, 1) := by decide +kernel
theorem dX2_decodeLocal_169 : decode cX2_decodeLocal 169 = .ok (.bipush 26, 2) := by decide +kernel
theorem dX2_decodeLocal_171 : decode cX2_decodeLocal 171 = .ok (.isub, 1) := by decide +kernel
theorem dX2_decodeLocal_172 : decode cX2_decodeLocal 172 = .ok (.iconst 3, 1) := by decide +kernel
theorem dX2_decodeLocal_173 : decode cX2_decodeLocal 173 = .ok (.iand, 1) := by decide +kernel
theorem dX2_decodeLocal_174 : decode cX2_decodeLocal 174 = .ok (.i2l, 1) := by decide +kernel
theorem dX2_decodeLocal_175 : decode cX2_decodeLocal 175 = .ok (.invokevirtual 176, 3) := by decide +kernel
theorem dX2_decodeLocal_178 : decode cX2_decodeLocal 178 = .ok (.goto 91, 3) := by decide +kernel
theorem dX2_decodeLocal_181 : decode cX2_decodeLocal 181 = .ok (.iload_n 2, 1) := by decide +kernel
theorem dX2_decodeLocal_182 : decode cX2_decodeLocal 182 = .ok (.bipush 42, 2) := by decide +kernel
theorem dX2_decodeLocal_184 : decode cX2_decodeLocal 184 = .ok (.if_icmp .lt 23, 3) := by decide +kernel
theorem dX2_decodeLocal_187 : decode cX2_decodeLocal 187 = .ok (.iload_n 2, 1) := by decide +kernel
theorem dX2_decodeLocal_188 : decode cX2_decodeLocal 188 = .ok (.bipush 45, 2) := by decide +kernel
theorem dX2_decodeLocal_190 : decode cX2_decodeLocal 190 = .ok (.if_icmp .gt 17, 3) := by decide +kernel
theorem dX2_decodeLocal_193 : decode cX2_decodeLocal 193 = .ok (.aload_n 0, 1) := by decide +kernel
theorem dX2_decodeLocal_194 : decode cX2_decodeLocal 194 = .ok (.bipush 25, 2) := by decide +kernel
theorem dX2_decodeLocal_196 : decode cX2_decodeLocal 196 = .ok (.iload_n 2, 1) := by decide +kernel
theorem dX2_decodeLocal_197 : decode cX2_decodeLocal 197 = .ok (.bipush 42, 2) := by decide +kernel
theorem dX2_decodeLocal_199 : decode cX2_decodeLocal 199 = .ok (.isub, 1) := by decide +kernel
theorem dX2_decodeLocal_200 : decode cX2_decodeLocal 200 = .ok (.i2l, 1) := by decide +kernel
theorem dX2_decodeLocal_201 : decode cX2_decodeLocal 201 = .ok (.invokevirtual 176, 3) := by decide +kernel
theorem dX2_decodeLocal_204 : decode cX2_decodeLocal 204 = .ok (.goto 65, 3) := by decide +kernel
theorem dX2_decodeLocal_207 : decode cX2_decodeLocal 207 = .ok (.iload_n 2, 1) := by decide +kernel
theorem dX2_decodeLocal_208 : decode cX2_decodeLocal 208 = .ok (.bipush 59, 2) := by decide +kernel
theorem dX2_decodeLocal_210 : decode cX2_decodeLocal 210 = .ok (.if_icmp .lt 36, 3) := by decide +kernel
theorem dX2_decodeLocal_213 : decode cX2_decodeLocal 213 = .ok (.iload_n 2, 1) := by decide +kernel
theorem dX2_decodeLocal_214 : decode cX2_decodeLocal 214 = .ok (.bipush 66, 2) := by decide +kernel
theorem dX2_decodeLocal_216 : decode cX2_decodeLocal 216 = .ok (.if_icmp .gt 30, 3) := by decide +kernel
theorem dX2_decodeLocal_219 : decode cX2_decodeLocal 219 = .ok (.aload_n 0, 1) := by decide +kernel
theorem dX2_decodeLocal_220 : decode cX2_decodeLocal 220 = .ok (.iload_n 2, 1) := by decide +kernel
theorem dX2_decodeLocal_221 : decode cX2_decodeLocal 221 = .ok (.bipush 63, 2) := by decide +kernel
theorem dX2_decodeLocal_223 : decode cX2_decodeLocal 223 = .ok (.if_icmp .ge 8, 3) := by decide +kernel
theorem dX2_decodeLocal_226 : decode cX2_decodeLocal 226 = .ok (.bipush 54, 2) := by decide +kernel
theorem dX2_decodeLocal_228 : decode cX2_decodeLocal 228 = .ok (.goto 5, 3) := by decide +kernel
theorem dX2_decodeLocal_231 : decode cX2_decodeLocal 231 = .ok (.bipush 55, 2) := by decide +kernel
theorem dX2_decodeLocal_233 : decode cX2_decodeLocal 233 = .ok (.iload_n 2, 1) := by decide +kernel
theorem dX2_decodeLocal_234 : decode cX2_decodeLocal 234 = .ok (.bipush 59, 2) := by decide +kernel
theorem dX2_decodeLocal_236 : decode cX2_decodeLocal 236 = .ok (.isub, 1) := by decide +kernel
theorem dX2_decodeLocal_237 : decode cX2_decodeLocal 237 = .ok (.iconst 3, 1) := by decide +kernel
theorem dX2_decodeLocal_238 : decode cX2_decodeLocal 238 = .ok (.iand, 1) := by decide +kernel
theorem dX2_decodeLocal_239 : decode cX2_decodeLocal 239 = .ok (.i2l, 1) := by decide +kernel
theorem dX2_decodeLocal_240 : decode cX2_decodeLocal 240 = .ok (.invokevirtual 176, 3) := by decide +kernel
theorem dX2_decodeLocal_243 : decode cX2_decodeLocal 243 = .ok (.goto 26, 3) := by decide +kernel
theorem dX2_decodeLocal_246 : decode cX2_decodeLocal 246 = .ok (.iload_n 2, 1) := by decide +kernel
theorem dX2_decodeLocal_247 : decode cX2_decodeLocal 247 = .ok (.bipush 75, 2) := by decide +kernel
theorem dX2_decodeLocal_249 : decode cX2_decodeLocal 249 = .ok (.if_icmp .lt 20, 3) := by decide +kernel
theorem dX2_decodeLocal_252 : decode cX2_decodeLocal 252 = .ok (.iload_n 2, 1) := by decide +kernel
theorem dX2_decodeLocal_253 : decode cX2_decodeLocal 253 = .ok (.bipush 78, 2) := by decide +kernel
theorem dX2_decodeLocal_255 : decode cX2_decodeLocal 255 = .ok (.if_icmp .gt 14, 3) := by decide +kernel
theorem dX2_decodeLocal_258 : decode cX2_decodeLocal 258 = .ok (.aload_n 0, 1) := by decide +kernel
theorem dX2_decodeLocal_259 : decode cX2_decodeLocal 259 = .ok (.bipush 58, 2) := by decide +kernel
theorem dX2_decodeLocal_261 : decode cX2_decodeLocal 261 = .ok (.iload_n 2, 1) := by decide +kernel
theorem dX2_decodeLocal_262 : decode cX2_decodeLocal 262 = .ok (.bipush 75, 2) := by decide +kernel
theorem dX2_decodeLocal_264 : decode cX2_decodeLocal 264 = .ok (.isub, 1) := by decide +kernel
theorem dX2_decodeLocal_265 : decode cX2_decodeLocal 265 = .ok (.i2l, 1) := by decide +kernel
theorem dX2_decodeLocal_266 : decode cX2_decodeLocal 266 = .ok (.invokevirtual 176, 3) := by decide +kernel
theorem dX2_decodeLocal_269 : decode cX2_decodeLocal 269 = .ok (.return_, 1) := by decide +kernel
theorem dX2_errorOf_0 : decode cX2_errorOf 0 = .ok (.iload_n 1, 1) := by decide +kernel
theorem dX2_errorOf_1 : decode cX2_errorOf 1 = .ok (.ifCond .ne 5, 3) := by decide +kernel
theorem dX2_errorOf_4 : decode cX2_errorOf 4 = .ok (.iconst (-1), 1) := by decide +kernel
theorem dX2_errorOf_5 : decode cX2_errorOf 5 = .ok (.ireturn, 1) := by decide +kernel
theorem dX2_errorOf_6 : decode cX2_errorOf 6 = .ok (.iconst 0, 1) := by decide +kernel
theorem dX2_errorOf_7 : decode cX2_errorOf 7 = .ok (.istore_n 2, 1) := by decide +kernel
theorem dX2_errorOf_8 : decode cX2_errorOf 8 = .ok (.iload_n 2, 1) := by decide +kernel
theorem dX2_errorOf_9 : decode cX2_errorOf 9 = .ok (.iconst 3, 1) := by decide +kernel
theorem dX2_errorOf_10 : decode cX2_errorOf 10 = .ok (.if_icmp .gt 46, 3) := by decide +kernel
theorem dX2_errorOf_13 : decode cX2_errorOf 13 = .ok (.aload_n 0, 1) := by decide +kernel
theorem dX2_errorOf_14 : decode cX2_errorOf 14 = .ok (.getfield 12, 3) := by decide +kernel
theorem dX2_errorOf_17 : decode cX2_errorOf 17 = .ok (.iload_n 1, 1) := by decide +kernel
theorem dX2_errorOf_18 : decode cX2_errorOf 18 = .ok (.invokevirtual 231, 3) := by decide +kernel
theorem dX2_errorOf_21 : decode cX2_errorOf 21 = .ok (.bipush 7, 2) := by decide +kernel
theorem dX2_errorOf_23 : decode cX2_errorOf 23 = .ok (.if_icmp .ne 27, 3) := by decide +kernel
theorem dX2_errorOf_26 : decode cX2_errorOf 26 = .ok (.aload_n 0, 1) := by decide +kernel
theorem dX2_errorOf_27 : decode cX2_errorOf 27 = .ok (.getfield 12, 3) := by decide +kernel
theorem dX2_errorOf_30 : decode cX2_errorOf 30 = .ok (.aload_n 0, 1) := by decide +kernel
theorem dX2_errorOf_31 : decode cX2_errorOf 31 = .ok (.getfield 12, 3) := by decide +kernel
theorem dX2_errorOf_34 : decode cX2_errorOf 34 = .ok (.iload_n 1, 1) := by decide +kernel
theorem dX2_errorOf_35 : decode cX2_errorOf 35 = .ok (.invokevirtual 247, 3) := by decide +kernel
theorem dX2_errorOf_38 : decode cX2_errorOf 38 = .ok (.iload_n 2, 1) := by decide +kernel
theorem dX2_errorOf_39 : decode cX2_errorOf 39 = .ok (.invokestatic 250, 3) := by decide +kernel
theorem dX2_errorOf_42 : decode cX2_errorOf 42 = .ok (.invokevirtual 254, 3) := by decide +kernel
theorem dX2_errorOf_45 : decode cX2_errorOf 45 = .ok (.ifCond .eq 5, 3) := by decide +kernel
theorem dX2_errorOf_48 : decode cX2_errorOf 48 = .ok (.iload_n 2, 1) := by decide +kernel
theorem dX2_errorOf_49 : decode cX2_errorOf 49 = .ok (.ireturn, 1) := by decide +kernel
theorem dX2_errorOf_50 : decode cX2_errorOf 50 = .ok (.iinc 2 1, 3) := by decide +kernel
theorem dX2_errorOf_53 : decode cX2_errorOf 53 = .ok (.goto (-45), 3) := by decide +kernel
theorem dX2_errorOf_56 : decode cX2_errorOf 56 = .ok (.bipush (-2), 2) := by decide +kernel
theorem dX2_errorOf_58 : decode cX2_errorOf 58 = .ok (.ireturn, 1) := by decide +kernel
theorem dX2_headHolds_0 : decode cX2_headHolds 0 = .ok (.iload_n 1, 1) := by decide +kernel
theorem dX2_headHolds_1 : decode cX2_headHolds 1 = .ok (.iconst 2, 1) := by decide +kernel
theorem dX2_headHolds_2 : decode cX2_headHolds 2 = .ok (.iadd, 1) := by decide +kernel
theorem dX2_headHolds_3 : decode cX2_headHolds 3 = .ok (.iload_n 2, 1) := by decide +kernel
theorem dX2_headHolds_4 : decode cX2_headHolds 4 = .ok (.if_icmp .le 14, 3) := by decide +kernel
theorem dX2_headHolds_7 : decode cX2_headHolds 7 = .ok (.aload_n 0, 1) := by decide +kernel
theorem dX2_headHolds_8 : decode cX2_headHolds 8 = .ok (.getfield 12, 3) := by decide +kernel
theorem dX2_headHolds_11 : decode cX2_headHolds 11 = .ok (.bipush 14, 2) := by decide +kernel
theorem dX2_headHolds_13 : decode cX2_headHolds 13 = .ok (.iload_n 2, 1) := by decide +kernel
theorem dX2_headHolds_14 : decode cX2_headHolds 14 = .ok (.invokevirtual 86, 3) := by decide +kernel
theorem dX2_headHolds_17 : decode cX2_headHolds 17 = .ok (.ireturn, 1) := by decide +kernel
theorem dX2_headHolds_18 : decode cX2_headHolds 18 = .ok (.aload_n 0, 1) := by decide +kernel
theorem dX2_headHolds_19 : decode cX2_headHolds 19 = .ok (.getfield 12, 3) := by decide +kernel
theorem dX2_headHolds_22 : decode cX2_headHolds 22 = .ok (.iload_n 1, 1) := by decide +kernel
theorem dX2_headHolds_23 : decode cX2_headHolds 23 = .ok (.invokevirtual 90, 3) := by decide +kernel
theorem dX2_headHolds_26 : decode cX2_headHolds 26 = .ok (.bipush 24, 2) := by decide +kernel
theorem dX2_headHolds_28 : decode cX2_headHolds 28 = .ok (.if_icmp .le 14, 3) := by decide +kernel
theorem dX2_headHolds_31 : decode cX2_headHolds 31 = .ok (.aload_n 0, 1) := by decide +kernel
theorem dX2_headHolds_32 : decode cX2_headHolds 32 = .ok (.getfield 12, 3) := by decide +kernel
theorem dX2_headHolds_35 : decode cX2_headHolds 35 = .ok (.bipush 13, 2) := by decide +kernel
theorem dX2_headHolds_37 : decode cX2_headHolds 37 = .ok (.iload_n 1, 1) := by decide +kernel
theorem dX2_headHolds_38 : decode cX2_headHolds 38 = .ok (.invokevirtual 86, 3) := by decide +kernel
theorem dX2_headHolds_41 : decode cX2_headHolds 41 = .ok (.ireturn, 1) := by decide +kernel
theorem dX2_headHolds_42 : decode cX2_headHolds 42 = .ok (.iload_n 1, 1) := by decide +kernel
theorem dX2_headHolds_43 : decode cX2_headHolds 43 = .ok (.iconst 4, 1) := by decide +kernel
theorem dX2_headHolds_44 : decode cX2_headHolds 44 = .ok (.iadd, 1) := by decide +kernel
theorem dX2_headHolds_45 : decode cX2_headHolds 45 = .ok (.iload_n 2, 1) := by decide +kernel
theorem dX2_headHolds_46 : decode cX2_headHolds 46 = .ok (.if_icmp .le 14, 3) := by decide +kernel
theorem dX2_headHolds_49 : decode cX2_headHolds 49 = .ok (.aload_n 0, 1) := by decide +kernel
theorem dX2_headHolds_50 : decode cX2_headHolds 50 = .ok (.getfield 12, 3) := by decide +kernel
theorem dX2_headHolds_53 : decode cX2_headHolds 53 = .ok (.bipush 14, 2) := by decide +kernel
theorem dX2_headHolds_55 : decode cX2_headHolds 55 = .ok (.iload_n 2, 1) := by decide +kernel
theorem dX2_headHolds_56 : decode cX2_headHolds 56 = .ok (.invokevirtual 86, 3) := by decide +kernel
theorem dX2_headHolds_59 : decode cX2_headHolds 59 = .ok (.ireturn, 1) := by decide +kernel
theorem dX2_headHolds_60 : decode cX2_headHolds 60 = .ok (.aload_n 0, 1) := by decide +kernel
theorem dX2_headHolds_61 : decode cX2_headHolds 61 = .ok (.getfield 12, 3) := by decide +kernel
theorem dX2_headHolds_64 : decode cX2_headHolds 64 = .ok (.iload_n 1, 1) := by decide +kernel
theorem dX2_headHolds_65 : decode cX2_headHolds 65 = .ok (.iconst 2, 1) := by decide +kernel
theorem dX2_headHolds_66 : decode cX2_headHolds 66 = .ok (.iadd, 1) := by decide +kernel
theorem dX2_headHolds_67 : decode cX2_headHolds 67 = .ok (.invokevirtual 90, 3) := by decide +kernel
theorem dX2_headHolds_70 : decode cX2_headHolds 70 = .ok (.bipush 24, 2) := by decide +kernel
theorem dX2_headHolds_72 : decode cX2_headHolds 72 = .ok (.if_icmp .gt 17, 3) := by decide +kernel
theorem dX2_headHolds_75 : decode cX2_headHolds 75 = .ok (.aload_n 0, 1) := by decide +kernel
theorem dX2_headHolds_76 : decode cX2_headHolds 76 = .ok (.getfield 12, 3) := by decide +kernel
theorem dX2_headHolds_79 : decode cX2_headHolds 79 = .ok (.iload_n 1, 1) := by decide +kernel
theorem dX2_headHolds_80 : decode cX2_headHolds 80 = .ok (.iconst 2, 1) := by decide +kernel
theorem dX2_headHolds_81 : decode cX2_headHolds 81 = .ok (.iadd, 1) := by decide +kernel
theorem dX2_headHolds_82 : decode cX2_headHolds 82 = .ok (.invokevirtual 90, 3) := by decide +kernel
theorem dX2_headHolds_85 : decode cX2_headHolds 85 = .ok (.iload_n 3, 1) := by decide +kernel
theorem dX2_headHolds_86 : decode cX2_headHolds 86 = .ok (.if_icmp .ge 16, 3) := by decide +kernel
theorem dX2_headHolds_89 : decode cX2_headHolds 89 = .ok (.aload_n 0, 1) := by decide +kernel
theorem dX2_headHolds_90 : decode cX2_headHolds 90 = .ok (.getfield 12, 3) := by decide +kernel
theorem dX2_headHolds_93 : decode cX2_headHolds 93 = .ok (.bipush 13, 2) := by decide +kernel
theorem dX2_headHolds_95 : decode cX2_headHolds 95 = .ok (.iload_n 1, 1) := by decide +kernel

theorem dX9_isJumpDecided_148 : decode cX9_isJumpDecided 148 = .ok (.iadd, 1) := by decide +kernel
theorem dX9_isJumpDecided_149 : decode cX9_isJumpDecided 149 = .ok (.iload_n 2, 1) := by decide +kernel
theorem dX9_isJumpDecided_150 : decode cX9_isJumpDecided 150 = .ok (.iconst 1, 1) := by decide +kernel
theorem dX9_isJumpDecided_151 : decode cX9_isJumpDecided 151 = .ok (.isub, 1) := by decide +kernel
theorem dX9_isJumpDecided_152 : decode cX9_isJumpDecided 152 = .ok (.invokevirtual 176, 3) := by decide +kernel
theorem dX9_isJumpDecided_155 : decode cX9_isJumpDecided 155 = .ok (.goto 12, 3) := by decide +kernel
theorem dX9_isJumpDecided_158 : decode cX9_isJumpDecided 158 = .ok (.aload_n 0, 1) := by decide +kernel
theorem dX9_isJumpDecided_159 : decode cX9_isJumpDecided 159 = .ok (.getfield 14, 3) := by decide +kernel
theorem dX9_isJumpDecided_162 : decode cX9_isJumpDecided 162 = .ok (.iload_n 1, 1) := by decide +kernel
theorem dX9_isJumpDecided_163 : decode cX9_isJumpDecided 163 = .ok (.iload_n 2, 1) := by decide +kernel
theorem dX9_isJumpDecided_164 : decode cX9_isJumpDecided 164 = .ok (.invokevirtual 176, 3) := by decide +kernel
theorem dX9_isJumpDecided_167 : decode cX9_isJumpDecided 167 = .ok (.iconst 1, 1) := by decide +kernel
theorem dX9_isJumpDecided_168 : decode cX9_isJumpDecided 168 = .ok (.ireturn, 1) := by decide +kernel
theorem dX9_isNeutral_0 : decode cX9_isNeutral 0 = .ok (.aload_n 0, 1) := by decide +kernel
theorem dX9_isNeutral_1 : decode cX9_isNeutral 1 = .ok (.getfield 14, 3) := by decide +kernel
theorem dX9_isNeutral_4 : decode cX9_isNeutral 4 = .ok (.iload_n 1, 1) := by decide +kernel
theorem dX9_isNeutral_5 : decode cX9_isNeutral 5 = .ok (.iconst 1, 1) := by decide +kernel
theorem dX9_isNeutral_6 : decode cX9_isNeutral 6 = .ok (.iadd, 1) := by decide +kernel
theorem dX9_isNeutral_7 : decode cX9_isNeutral 7 = .ok (.invokevirtual 71, 3) := by decide +kernel
theorem dX9_isNeutral_10 : decode cX9_isNeutral 10 = .ok (.istore_n 2, 1) := by decide +kernel
theorem dX9_isNeutral_11 : decode cX9_isNeutral 11 = .ok (.aload_n 0, 1) := by decide +kernel
theorem dX9_isNeutral_12 : decode cX9_isNeutral 12 = .ok (.iload_n 1, 1) := by decide +kernel
theorem dX9_isNeutral_13 : decode cX9_isNeutral 13 = .ok (.invokevirtual 207, 3) := by decide +kernel
theorem dX9_isNeutral_16 : decode cX9_isNeutral 16 = .ok (.istore_n 3, 1) := by decide +kernel
theorem dX9_isNeutral_17 : decode cX9_isNeutral 17 = .ok (.iload_n 3, 1) := by decide +kernel
theorem dX9_isNeutral_18 : decode cX9_isNeutral 18 = .ok (.ifCond .eq 21, 3) := by decide +kernel
theorem dX9_isNeutral_21 : decode cX9_isNeutral 21 = .ok (.iload_n 2, 1) := by decide +kernel
theorem dX9_isNeutral_22 : decode cX9_isNeutral 22 = .ok (.invokestatic 204, 3) := by decide +kernel
theorem dX9_isNeutral_25 : decode cX9_isNeutral 25 = .ok (.ifCond .eq 14, 3) := by decide +kernel
theorem dX9_isNeutral_28 : decode cX9_isNeutral 28 = .ok (.iload_n 3, 1) := by decide +kernel
theorem dX9_isNeutral_29 : decode cX9_isNeutral 29 = .ok (.iload_n 2, 1) := by decide +kernel
theorem dX9_isNeutral_30 : decode cX9_isNeutral 30 = .ok (.invokestatic 210, 3) := by decide +kernel
theorem dX9_isNeutral_33 : decode cX9_isNeutral 33 = .ok (.bipush 15, 2) := by decide +kernel
theorem dX9_isNeutral_35 : decode cX9_isNeutral 35 = .ok (.iand, 1) := by decide +kernel
theorem dX9_isNeutral_36 : decode cX9_isNeutral 36 = .ok (.if_icmp .eq 5, 3) := by decide +kernel
theorem dX9_isNeutral_39 : decode cX9_isNeutral 39 = .ok (.iconst 0, 1) := by decide +kernel
theorem dX9_isNeutral_40 : decode cX9_isNeutral 40 = .ok (.ireturn, 1) := by decide +kernel
theorem dX9_isNeutral_41 : decode cX9_isNeutral 41 = .ok (.iload_n 2, 1) := by decide +kernel
theorem dX9_isNeutral_42 : decode cX9_isNeutral 42 = .ok (.tableswitch 217 96 131 #[158, 158, 217, 217, 158, 158, 217, 217, 177, 177, 217, 217, 177, 177, 217, 217, 217, 217, 217, 217, 217, 217, 217, 217, 217, 217, 217, 217, 217, 217, 196, 196, 158, 158, 158, 158], 158) := by decide +kernel
theorem dX9_isNeutral_200 : decode cX9_isNeutral 200 = .ok (.aload_n 0, 1) := by decide +kernel
theorem dX9_isNeutral_201 : decode cX9_isNeutral 201 = .ok (.getfield 14, 3) := by decide +kernel
theorem dX9_isNeutral_204 : decode cX9_isNeutral 204 = .ok (.iload_n 1, 1) := by decide +kernel
theorem dX9_isNeutral_205 : decode cX9_isNeutral 205 = .ok (.invokevirtual 74, 3) := by decide +kernel
theorem dX9_isNeutral_208 : decode cX9_isNeutral 208 = .ok (.lconst 0, 1) := by decide +kernel
theorem dX9_isNeutral_209 : decode cX9_isNeutral 209 = .ok (.lcmp, 1) := by decide +kernel
theorem dX9_isNeutral_210 : decode cX9_isNeutral 210 = .ok (.ifCond .ne 7, 3) := by decide +kernel
theorem dX9_isNeutral_213 : decode cX9_isNeutral 213 = .ok (.iconst 1, 1) := by decide +kernel
theorem dX9_isNeutral_214 : decode cX9_isNeutral 214 = .ok (.goto 4, 3) := by decide +kernel
theorem dX9_isNeutral_217 : decode cX9_isNeutral 217 = .ok (.iconst 0, 1) := by decide +kernel
theorem dX9_isNeutral_218 : decode cX9_isNeutral 218 = .ok (.ireturn, 1) := by decide +kernel
theorem dX9_isNeutral_219 : decode cX9_isNeutral 219 = .ok (.aload_n 0, 1) := by decide +kernel
theorem dX9_isNeutral_220 : decode cX9_isNeutral 220 = .ok (.getfield 14, 3) := by decide +kernel
theorem dX9_isNeutral_223 : decode cX9_isNeutral 223 = .ok (.iload_n 1, 1) := by decide +kernel
theorem dX9_isNeutral_224 : decode cX9_isNeutral 224 = .ok (.invokevirtual 74, 3) := by decide +kernel
theorem dX9_isNeutral_227 : decode cX9_isNeutral 227 = .ok (.lconst 1, 1) := by decide +kernel
theorem dX9_isNeutral_228 : decode cX9_isNeutral 228 = .ok (.lcmp, 1) := by decide +kernel
theorem dX9_isNeutral_229 : decode cX9_isNeutral 229 = .ok (.ifCond .ne 7, 3) := by decide +kernel
theorem dX9_isNeutral_232 : decode cX9_isNeutral 232 = .ok (.iconst 1, 1) := by decide +kernel
theorem dX9_isNeutral_233 : decode cX9_isNeutral 233 = .ok (.goto 4, 3) := by decide +kernel
theorem dX9_isNeutral_236 : decode cX9_isNeutral 236 = .ok (.iconst 0, 1) := by decide +kernel
theorem dX9_isNeutral_237 : decode cX9_isNeutral 237 = .ok (.ireturn, 1) := by decide +kernel
theorem dX9_isNeutral_238 : decode cX9_isNeutral 238 = .ok (.aload_n 0, 1) := by decide +kernel
theorem dX9_isNeutral_239 : decode cX9_isNeutral 239 = .ok (.getfield 14, 3) := by decide +kernel
theorem dX9_isNeutral_242 : decode cX9_isNeutral 242 = .ok (.iload_n 1, 1) := by decide +kernel
theorem dX9_isNeutral_243 : decode cX9_isNeutral 243 = .ok (.invokevirtual 74, 3) := by decide +kernel
theorem dX9_isNeutral_246 : decode cX9_isNeutral 246 = .ok (.ldc2_w 237, 3) := by decide +kernel
theorem dX9_isNeutral_249 : decode cX9_isNeutral 249 = .ok (.lcmp, 1) := by decide +kernel
theorem dX9_isNeutral_250 : decode cX9_isNeutral 250 = .ok (.ifCond .ne 7, 3) := by decide +kernel
theorem dX9_isNeutral_253 : decode cX9_isNeutral 253 = .ok (.iconst 1, 1) := by decide +kernel
theorem dX9_isNeutral_254 : decode cX9_isNeutral 254 = .ok (.goto 4, 3) := by decide +kernel
theorem dX9_isNeutral_257 : decode cX9_isNeutral 257 = .ok (.iconst 0, 1) := by decide +kernel
theorem dX9_isNeutral_258 : decode cX9_isNeutral 258 = .ok (.ireturn, 1) := by decide +kernel
theorem dX9_isNeutral_259 : decode cX9_isNeutral 259 = .ok (.iload_n 2, 1) := by decide +kernel
theorem dX9_isNeutral_260 : decode cX9_isNeutral 260 = .ok (.invokestatic 239, 3) := by decide +kernel
theorem dX9_isNeutral_263 : decode cX9_isNeutral 263 = .ok (.ifCond .eq 20, 3) := by decide +kernel
theorem dX9_isNeutral_266 : decode cX9_isNeutral 266 = .ok (.aload_n 0, 1) := by decide +kernel
theorem dX9_isNeutral_267 : decode cX9_isNeutral 267 = .ok (.getfield 14, 3) := by decide +kernel
theorem dX9_isNeutral_270 : decode cX9_isNeutral 270 = .ok (.iload_n 1, 1) := by decide +kernel
theorem dX9_isNeutral_271 : decode cX9_isNeutral 271 = .ok (.invokevirtual 74, 3) := by decide +kernel
theorem dX9_isNeutral_274 : decode cX9_isNeutral 274 = .ok (.lconst 0, 1) := by decide +kernel
theorem dX9_isNeutral_275 : decode cX9_isNeutral 275 = .ok (.lcmp, 1) := by decide +kernel
theorem dX9_isNeutral_276 : decode cX9_isNeutral 276 = .ok (.ifCond .ne 7, 3) := by decide +kernel
theorem dX9_isNeutral_279 : decode cX9_isNeutral 279 = .ok (.iconst 1, 1) := by decide +kernel
theorem dX9_isNeutral_280 : decode cX9_isNeutral 280 = .ok (.goto 4, 3) := by decide +kernel
theorem dX9_isNeutral_283 : decode cX9_isNeutral 283 = .ok (.iconst 0, 1) := by decide +kernel
theorem dX9_isNeutral_284 : decode cX9_isNeutral 284 = .ok (.ireturn, 1) := by decide +kernel
theorem dX9_isNewlyReached_0 : decode cX9_isNewlyReached 0 = .ok (.iload_n 1, 1) := by decide +kernel
theorem dX9_isNewlyReached_1 : decode cX9_isNewlyReached 1 = .ok (.ifCond .lt 23, 3) := by decide +kernel
theorem dX9_isNewlyReached_4 : decode cX9_isNewlyReached 4 = .ok (.iload_n 1, 1) := by decide +kernel
theorem dX9_isNewlyReached_5 : decode cX9_isNewlyReached 5 = .ok (.aload_n 0, 1) := by decide +kernel
theorem dX9_isNewlyReached_6 : decode cX9_isNewlyReached 6 = .ok (.getfield 14, 3) := by decide +kernel
theorem dX9_isNewlyReached_9 : decode cX9_isNewlyReached 9 = .ok (.getfield 54, 3) := by decide +kernel
theorem dX9_isNewlyReached_12 : decode cX9_isNewlyReached 12 = .ok (.if_icmp .ge 12, 3) := by decide +kernel
theorem dX9_isNewlyReached_15 : decode cX9_isNewlyReached 15 = .ok (.aload_n 0, 1) := by decide +kernel
theorem dX9_isNewlyReached_16 : decode cX9_isNewlyReached 16 = .ok (.getfield 28, 3) := by decide +kernel
theorem dX9_isNewlyReached_19 : decode cX9_isNewlyReached 19 = .ok (.iload_n 1, 1) := by decide +kernel
theorem dX9_isNewlyReached_20 : decode cX9_isNewlyReached 20 = .ok (.baload, 1) := by decide +kernel
theorem dX9_isNewlyReached_21 : decode cX9_isNewlyReached 21 = .ok (.ifCond .eq 5, 3) := by decide +kernel
theorem dX9_isNewlyReached_24 : decode cX9_isNewlyReached 24 = .ok (.iconst 0, 1) := by decide +kernel
theorem dX9_isNewlyReached_25 : decode cX9_isNewlyReached 25 = .ok (.ireturn, 1) := by decide +kernel
theorem dX9_isNewlyReached_26 : decode cX9_isNewlyReached 26 = .ok (.aload_n 0, 1) := by decide +kernel
theorem dX9_isNewlyReached_27 : decode cX9_isNewlyReached 27 = .ok (.getfield 28, 3) := by decide +kernel
theorem dX9_isNewlyReached_30 : decode cX9_isNewlyReached 30 = .ok (.iload_n 1, 1) := by decide +kernel
theorem dX9_isNewlyReached_31 : decode cX9_isNewlyReached 31 = .ok (.iconst 1, 1) := by decide +kernel
theorem dX9_isNewlyReached_32 : decode cX9_isNewlyReached 32 = .ok (.bastore, 1) := by decide +kernel
theorem dX9_isNewlyReached_33 : decode cX9_isNewlyReached 33 = .ok (.iconst 1, 1) := by decide +kernel
theorem dX9_isNewlyReached_34 : decode cX9_isNewlyReached 34 = .ok (.ireturn, 1) := by decide +kernel
theorem dX9_isPassedOn_0 : decode cX9_isPassedOn 0 = .ok (.aload_n 0, 1) := by decide +kernel
theorem dX9_isPassedOn_1 : decode cX9_isPassedOn 1 = .ok (.getfield 14, 3) := by decide +kernel
theorem dX9_isPassedOn_4 : decode cX9_isPassedOn 4 = .ok (.iload_n 1, 1) := by decide +kernel
theorem dX9_isPassedOn_5 : decode cX9_isPassedOn 5 = .ok (.invokevirtual 71, 3) := by decide +kernel
theorem dX9_isPassedOn_8 : decode cX9_isPassedOn 8 = .ok (.istore_n 2, 1) := by decide +kernel
theorem dX9_isPassedOn_9 : decode cX9_isPassedOn 9 = .ok (.aload_n 0, 1) := by decide +kernel
theorem dX9_isPassedOn_10 : decode cX9_isPassedOn 10 = .ok (.getfield 14, 3) := by decide +kernel
theorem dX9_isPassedOn_13 : decode cX9_isPassedOn 13 = .ok (.iload_n 1, 1) := by decide +kernel
theorem dX9_isPassedOn_14 : decode cX9_isPassedOn 14 = .ok (.iconst 1, 1) := by decide +kernel
theorem dX9_isPassedOn_15 : decode cX9_isPassedOn 15 = .ok (.iadd, 1) := by decide +kernel
theorem dX9_isPassedOn_16 : decode cX9_isPassedOn 16 = .ok (.invokevirtual 71, 3) := by decide +kernel
theorem dX9_isPassedOn_19 : decode cX9_isPassedOn 19 = .ok (.istore_n 3, 1) := by decide +kernel
theorem dX9_isPassedOn_20 : decode cX9_isPassedOn 20 = .ok (.iload_n 2, 1) := by decide +kernel
theorem dX9_isPassedOn_21 : decode cX9_isPassedOn 21 = .ok (.bipush 54, 2) := by decide +kernel
theorem dX9_isPassedOn_23 : decode cX9_isPassedOn 23 = .ok (.if_icmp .ne 9, 3) := by decide +kernel
theorem dX9_isPassedOn_26 : decode cX9_isPassedOn 26 = .ok (.iload_n 3, 1) := by decide +kernel
theorem dX9_isPassedOn_27 : decode cX9_isPassedOn 27 = .ok (.bipush 21, 2) := by decide +kernel
theorem dX9_isPassedOn_29 : decode cX9_isPassedOn 29 = .ok (.if_icmp .eq 27, 3) := by decide +kernel
theorem dX9_isPassedOn_32 : decode cX9_isPassedOn 32 = .ok (.iload_n 2, 1) := by decide +kernel
theorem dX9_isPassedOn_33 : decode cX9_isPassedOn 33 = .ok (.bipush 55, 2) := by decide +kernel
theorem dX9_isPassedOn_35 : decode cX9_isPassedOn 35 = .ok (.if_icmp .ne 9, 3) := by decide +kernel
theorem dX9_isPassedOn_38 : decode cX9_isPassedOn 38 = .ok (.iload_n 3, 1) := by decide +kernel
theorem dX9_isPassedOn_39 : decode cX9_isPassedOn 39 = .ok (.bipush 22, 2) := by decide +kernel
theorem dX9_isPassedOn_41 : decode cX9_isPassedOn 41 = .ok (.if_icmp .eq 15, 3) := by decide +kernel
theorem dX9_isPassedOn_44 : decode cX9_isPassedOn 44 = .ok (.iload_n 2, 1) := by decide +kernel
theorem dX9_isPassedOn_45 : decode cX9_isPassedOn 45 = .ok (.bipush 58, 2) := by decide +kernel
theorem dX9_isPassedOn_47 : decode cX9_isPassedOn 47 = .ok (.if_icmp .ne 13, 3) := by decide +kernel
theorem dX9_isPassedOn_50 : decode cX9_isPassedOn 50 = .ok (.iload_n 3, 1) := by decide +kernel
theorem dX9_isPassedOn_51 : decode cX9_isPassedOn 51 = .ok (.bipush 25, 2) := by decide +kernel
theorem dX9_isPassedOn_53 : decode cX9_isPassedOn 53 = .ok (.if_icmp .ne 7, 3) := by decide +kernel
theorem dX9_isPassedOn_56 : decode cX9_isPassedOn 56 = .ok (.iconst 1, 1) := by decide +kernel
theorem dX9_isPassedOn_57 : decode cX9_isPassedOn 57 = .ok (.goto 4, 3) := by decide +kernel
theorem dX9_isPassedOn_60 : decode cX9_isPassedOn 60 = .ok (.iconst 0, 1) := by decide +kernel
theorem dX9_isPassedOn_61 : decode cX9_isPassedOn 61 = .ok (.istore 4, 2) := by decide +kernel
theorem dX9_isPassedOn_63 : decode cX9_isPassedOn 63 = .ok (.iload 4, 2) := by decide +kernel
theorem dX9_isPassedOn_65 : decode cX9_isPassedOn 65 = .ok (.ifCond .eq 44, 3) := by decide +kernel
theorem dX9_isPassedOn_68 : decode cX9_isPassedOn 68 = .ok (.aload_n 0, 1) := by decide +kernel
theorem dX9_isPassedOn_69 : decode cX9_isPassedOn 69 = .ok (.getfield 14, 3) := by decide +kernel
theorem dX9_isPassedOn_72 : decode cX9_isPassedOn 72 = .ok (.iload_n 1, 1) := by decide +kernel
theorem dX9_isPassedOn_73 : decode cX9_isPassedOn 73 = .ok (.invokevirtual 248, 3) := by decide +kernel
theorem dX9_isPassedOn_76 : decode cX9_isPassedOn 76 = .ok (.aload_n 0, 1) := by decide +kernel
theorem dX9_isPassedOn_77 : decode cX9_isPassedOn 77 = .ok (.getfield 14, 3) := by decide +kernel
theorem dX9_isPassedOn_80 : decode cX9_isPassedOn 80 = .ok (.iload_n 1, 1) := by decide +kernel

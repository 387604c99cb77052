theorem dX4_spread_145 : decode cX4_spread 145 = .ok (.iload 4, 2) := by decide +kernel
theorem dX4_spread_147 : decode cX4_spread 147 = .ok (.invokevirtual 46, 3) := by decide +kernel
theorem dX4_spread_150 : decode cX4_spread 150 = .ok (.aload_n 0, 1) := by decide +kernel
theorem dX4_spread_151 : decode cX4_spread 151 = .ok (.getfield 26, 3) := by decide +kernel
theorem dX4_spread_154 : decode cX4_spread 154 = .ok (.iload_n 1, 1) := by decide +kernel
theorem dX4_spread_155 : decode cX4_spread 155 = .ok (.invokevirtual 95, 3) := by decide +kernel
theorem dX4_spread_158 : decode cX4_spread 158 = .ok (.istore 7, 2) := by decide +kernel
theorem dX4_spread_160 : decode cX4_spread 160 = .ok (.iconst 0, 1) := by decide +kernel
theorem dX4_spread_161 : decode cX4_spread 161 = .ok (.istore 8, 2) := by decide +kernel
theorem dX4_spread_163 : decode cX4_spread 163 = .ok (.iload 8, 2) := by decide +kernel
theorem dX4_spread_165 : decode cX4_spread 165 = .ok (.iload 7, 2) := by decide +kernel
theorem dX4_spread_167 : decode cX4_spread 167 = .ok (.if_icmp .ge 25, 3) := by decide +kernel
theorem dX4_spread_170 : decode cX4_spread 170 = .ok (.aload_n 0, 1) := by decide +kernel
theorem dX4_spread_171 : decode cX4_spread 171 = .ok (.aload_n 0, 1) := by decide +kernel
theorem dX4_spread_172 : decode cX4_spread 172 = .ok (.getfield 26, 3) := by decide +kernel
theorem dX4_spread_175 : decode cX4_spread 175 = .ok (.iload_n 1, 1) := by decide +kernel
theorem dX4_spread_176 : decode cX4_spread 176 = .ok (.iload 8, 2) := by decide +kernel
theorem dX4_spread_178 : decode cX4_spread 178 = .ok (.invokevirtual 98, 3) := by decide +kernel
theorem dX4_spread_181 : decode cX4_spread 181 = .ok (.iload 4, 2) := by decide +kernel
theorem dX4_spread_183 : decode cX4_spread 183 = .ok (.invokevirtual 46, 3) := by decide +kernel
theorem dX4_spread_186 : decode cX4_spread 186 = .ok (.iinc 8 1, 3) := by decide +kernel
theorem dX4_spread_189 : decode cX4_spread 189 = .ok (.goto (-26), 3) := by decide +kernel
theorem dX4_spread_192 : decode cX4_spread 192 = .ok (.iconst 0, 1) := by decide +kernel
theorem dX4_spread_193 : decode cX4_spread 193 = .ok (.istore 8, 2) := by decide +kernel
theorem dX4_spread_195 : decode cX4_spread 195 = .ok (.iload 5, 2) := by decide +kernel
theorem dX4_spread_197 : decode cX4_spread 197 = .ok (.ifCond .eq 49, 3) := by decide +kernel
theorem dX4_spread_200 : decode cX4_spread 200 = .ok (.iload 8, 2) := by decide +kernel
theorem dX4_spread_202 : decode cX4_spread 202 = .ok (.aload_n 0, 1) := by decide +kernel
theorem dX4_spread_203 : decode cX4_spread 203 = .ok (.getfield 26, 3) := by decide +kernel
theorem dX4_spread_206 : decode cX4_spread 206 = .ok (.getfield 101, 3) := by decide +kernel
theorem dX4_spread_209 : decode cX4_spread 209 = .ok (.if_icmp .ge 37, 3) := by decide +kernel
theorem dX4_spread_212 : decode cX4_spread 212 = .ok (.aload_n 0, 1) := by decide +kernel
theorem dX4_spread_213 : decode cX4_spread 213 = .ok (.getfield 26, 3) := by decide +kernel
theorem dX4_spread_216 : decode cX4_spread 216 = .ok (.iload 8, 2) := by decide +kernel
theorem dX4_spread_218 : decode cX4_spread 218 = .ok (.iload_n 1, 1) := by decide +kernel
theorem dX4_spread_219 : decode cX4_spread 219 = .ok (.invokevirtual 104, 3) := by decide +kernel
theorem dX4_spread_222 : decode cX4_spread 222 = .ok (.ifCond .eq 18, 3) := by decide +kernel
theorem dX4_spread_225 : decode cX4_spread 225 = .ok (.aload_n 0, 1) := by decide +kernel
theorem dX4_spread_226 : decode cX4_spread 226 = .ok (.aload_n 0, 1) := by decide +kernel
theorem dX4_spread_227 : decode cX4_spread 227 = .ok (.getfield 26, 3) := by decide +kernel
theorem dX4_spread_230 : decode cX4_spread 230 = .ok (.getfield 108, 3) := by decide +kernel
theorem dX4_spread_233 : decode cX4_spread 233 = .ok (.iload 8, 2) := by decide +kernel
theorem dX4_spread_235 : decode cX4_spread 235 = .ok (.iaload, 1) := by decide +kernel
theorem dX4_spread_236 : decode cX4_spread 236 = .ok (.iconst 1, 1) := by decide +kernel
theorem dX4_spread_237 : decode cX4_spread 237 = .ok (.invokevirtual 46, 3) := by decide +kernel
theorem dX4_spread_240 : decode cX4_spread 240 = .ok (.iinc 8 1, 3) := by decide +kernel
theorem dX4_spread_243 : decode cX4_spread 243 = .ok (.goto (-48), 3) := by decide +kernel
theorem dX4_spread_246 : decode cX4_spread 246 = .ok (.return_, 1) := by decide +kernel
theorem dX5_addArgument_0 : decode cX5_addArgument 0 = .ok (.aload_n 0, 1) := by decide +kernel
theorem dX5_addArgument_1 : decode cX5_addArgument 1 = .ok (.getfield 54, 3) := by decide +kernel
theorem dX5_addArgument_4 : decode cX5_addArgument 4 = .ok (.bipush 8, 2) := by decide +kernel
theorem dX5_addArgument_6 : decode cX5_addArgument 6 = .ok (.if_icmp .lt 5, 3) := by decide +kernel
theorem dX5_addArgument_9 : decode cX5_addArgument 9 = .ok (.iconst (-1), 1) := by decide +kernel
theorem dX5_addArgument_10 : decode cX5_addArgument 10 = .ok (.ireturn, 1) := by decide +kernel
theorem dX5_addArgument_11 : decode cX5_addArgument 11 = .ok (.aload_n 0, 1) := by decide +kernel
theorem dX5_addArgument_12 : decode cX5_addArgument 12 = .ok (.getfield 22, 3) := by decide +kernel
theorem dX5_addArgument_15 : decode cX5_addArgument 15 = .ok (.aload_n 0, 1) := by decide +kernel
theorem dX5_addArgument_16 : decode cX5_addArgument 16 = .ok (.getfield 54, 3) := by decide +kernel
theorem dX5_addArgument_19 : decode cX5_addArgument 19 = .ok (.lload_n 1, 1) := by decide +kernel
theorem dX5_addArgument_20 : decode cX5_addArgument 20 = .ok (.lastore, 1) := by decide +kernel
theorem dX5_addArgument_21 : decode cX5_addArgument 21 = .ok (.aload_n 0, 1) := by decide +kernel
theorem dX5_addArgument_22 : decode cX5_addArgument 22 = .ok (.dup, 1) := by decide +kernel
theorem dX5_addArgument_23 : decode cX5_addArgument 23 = .ok (.getfield 54, 3) := by decide +kernel
theorem dX5_addArgument_26 : decode cX5_addArgument 26 = .ok (.iconst 1, 1) := by decide +kernel
theorem dX5_addArgument_27 : decode cX5_addArgument 27 = .ok (.iadd, 1) := by decide +kernel
theorem dX5_addArgument_28 : decode cX5_addArgument 28 = .ok (.putfield 54, 3) := by decide +kernel
theorem dX5_addArgument_31 : decode cX5_addArgument 31 = .ok (.aload_n 0, 1) := by decide +kernel
theorem dX5_addArgument_32 : decode cX5_addArgument 32 = .ok (.getfield 54, 3) := by decide +kernel
theorem dX5_addArgument_35 : decode cX5_addArgument 35 = .ok (.ireturn, 1) := by decide +kernel
theorem dX5_arrayStart_0 : decode cX5_arrayStart 0 = .ok (.iload_n 1, 1) := by decide +kernel
theorem dX5_arrayStart_1 : decode cX5_arrayStart 1 = .ok (.aload_n 0, 1) := by decide +kernel
theorem dX5_arrayStart_2 : decode cX5_arrayStart 2 = .ok (.getfield 51, 3) := by decide +kernel
theorem dX5_arrayStart_5 : decode cX5_arrayStart 5 = .ok (.if_icmp .le 8, 3) := by decide +kernel
theorem dX5_arrayStart_8 : decode cX5_arrayStart 8 = .ok (.aload_n 0, 1) := by decide +kernel
theorem dX5_arrayStart_9 : decode cX5_arrayStart 9 = .ok (.getfield 48, 3) := by decide +kernel
theorem dX5_arrayStart_12 : decode cX5_arrayStart 12 = .ok (.ireturn, 1) := by decide +kernel
theorem dX5_arrayStart_13 : decode cX5_arrayStart 13 = .ok (.iload_n 1, 1) := by decide +kernel
theorem dX5_arrayStart_14 : decode cX5_arrayStart 14 = .ok (.ifCond .lt 12, 3) := by decide +kernel
theorem dX5_arrayStart_17 : decode cX5_arrayStart 17 = .ok (.iload_n 1, 1) := by decide +kernel
theorem dX5_arrayStart_18 : decode cX5_arrayStart 18 = .ok (.aload_n 0, 1) := by decide +kernel
theorem dX5_arrayStart_19 : decode cX5_arrayStart 19 = .ok (.getfield 19, 3) := by decide +kernel
theorem dX5_arrayStart_22 : decode cX5_arrayStart 22 = .ok (.arraylength, 1) := by decide +kernel
theorem dX5_arrayStart_23 : decode cX5_arrayStart 23 = .ok (.if_icmp .lt 7, 3) := by decide +kernel
theorem dX5_arrayStart_26 : decode cX5_arrayStart 26 = .ok (.iconst 0, 1) := by decide +kernel
theorem dX5_arrayStart_27 : decode cX5_arrayStart 27 = .ok (.goto 9, 3) := by decide +kernel
theorem dX5_arrayStart_30 : decode cX5_arrayStart 30 = .ok (.aload_n 0, 1) := by decide +kernel
theorem dX5_arrayStart_31 : decode cX5_arrayStart 31 = .ok (.getfield 19, 3) := by decide +kernel
theorem dX5_arrayStart_34 : decode cX5_arrayStart 34 = .ok (.iload_n 1, 1) := by decide +kernel
theorem dX5_arrayStart_35 : decode cX5_arrayStart 35 = .ok (.iaload, 1) := by decide +kernel
theorem dX5_arrayStart_36 : decode cX5_arrayStart 36 = .ok (.ireturn, 1) := by decide +kernel
theorem dX5_calculate_0 : decode cX5_calculate 0 = .ok (.iload_n 1, 1) := by decide +kernel
theorem dX5_calculate_1 : decode cX5_calculate 1 = .ok (.invokestatic 166, 3) := by decide +kernel
theorem dX5_calculate_4 : decode cX5_calculate 4 = .ok (.istore_n 2, 1) := by decide +kernel
theorem dX5_calculate_5 : decode cX5_calculate 5 = .ok (.aload_n 0, 1) := by decide +kernel
theorem dX5_calculate_6 : decode cX5_calculate 6 = .ok (.iload_n 2, 1) := by decide +kernel
theorem dX5_calculate_7 : decode cX5_calculate 7 = .ok (.bipush 15, 2) := by decide +kernel
theorem dX5_calculate_9 : decode cX5_calculate 9 = .ok (.iand, 1) := by decide +kernel
theorem dX5_calculate_10 : decode cX5_calculate 10 = .ok (.invokevirtual 169, 3) := by decide +kernel
theorem dX5_calculate_13 : decode cX5_calculate 13 = .ok (.lstore_n 3, 1) := by decide +kernel
theorem dX5_calculate_14 : decode cX5_calculate 14 = .ok (.aload_n 0, 1) := by decide +kernel
theorem dX5_calculate_15 : decode cX5_calculate 15 = .ok (.iload_n 2, 1) := by decide +kernel
theorem dX5_calculate_16 : decode cX5_calculate 16 = .ok (.iconst 4, 1) := by decide +kernel
theorem dX5_calculate_17 : decode cX5_calculate 17 = .ok (.ishr, 1) := by decide +kernel
theorem dX5_calculate_18 : decode cX5_calculate 18 = .ok (.invokevirtual 169, 3) := by decide +kernel
theorem dX5_calculate_21 : decode cX5_calculate 21 = .ok (.lstore 5, 2) := by decide +kernel
theorem dX5_calculate_23 : decode cX5_calculate 23 = .ok (.iload_n 1, 1) := by decide +kernel
theorem dX5_calculate_24 : decode cX5_calculate 24 = .ok (.invokestatic 208, 3) := by decide +kernel
theorem dX5_calculate_27 : decode cX5_calculate 27 = .ok (.ifCond .eq 15, 3) := by decide +kernel
theorem dX5_calculate_30 : decode cX5_calculate 30 = .ok (.lload_n 3, 1) := by decide +kernel
theorem dX5_calculate_31 : decode cX5_calculate 31 = .ok (.lconst 0, 1) := by decide +kernel
theorem dX5_calculate_32 : decode cX5_calculate 32 = .ok (.lcmp, 1) := by decide +kernel
theorem dX5_calculate_33 : decode cX5_calculate 33 = .ok (.ifCond .ne 9, 3) := by decide +kernel
theorem dX5_calculate_36 : decode cX5_calculate 36 = .ok (.aload_n 0, 1) := by decide +kernel
theorem dX5_calculate_37 : decode cX5_calculate 37 = .ok (.iconst 0, 1) := by decide +kernel
theorem dX5_calculate_38 : decode cX5_calculate 38 = .ok (.invokevirtual 211, 3) := by decide +kernel
theorem dX5_calculate_41 : decode cX5_calculate 41 = .ok (.return_, 1) := by decide +kernel
theorem dX5_calculate_42 : decode cX5_calculate 42 = .ok (.aload_n 0, 1) := by decide +kernel
theorem dX5_calculate_43 : decode cX5_calculate 43 = .ok (.iload_n 1, 1) := by decide +kernel
theorem dX5_calculate_44 : decode cX5_calculate 44 = .ok (.invokestatic 163, 3) := by decide +kernel
theorem dX5_calculate_47 : decode cX5_calculate 47 = .ok (.iload_n 1, 1) := by decide +kernel
theorem dX5_calculate_48 : decode cX5_calculate 48 = .ok (.lload 5, 2) := by decide +kernel
theorem dX5_calculate_50 : decode cX5_calculate 50 = .ok (.lload_n 3, 1) := by decide +kernel
theorem dX5_calculate_51 : decode cX5_calculate 51 = .ok (.invokestatic 214, 3) := by decide +kernel
theorem dX5_calculate_54 : decode cX5_calculate 54 = .ok (.invokevirtual 176, 3) := by decide +kernel
theorem dX5_calculate_57 : decode cX5_calculate 57 = .ok (.aload_n 0, 1) := by decide +kernel
theorem dX5_calculate_58 : decode cX5_calculate 58 = .ok (.dup, 1) := by decide +kernel
theorem dX5_calculate_59 : decode cX5_calculate 59 = .ok (.getfield 123, 3) := by decide +kernel
theorem dX5_calculate_62 : decode cX5_calculate 62 = .ok (.iconst 1, 1) := by decide +kernel
theorem dX5_calculate_63 : decode cX5_calculate 63 = .ok (.iadd, 1) := by decide +kernel
theorem dX5_calculate_64 : decode cX5_calculate 64 = .ok (.putfield 123, 3) := by decide +kernel
theorem dX5_calculate_67 : decode cX5_calculate 67 = .ok (.return_, 1) := by decide +kernel
theorem dX5_closeFrame_0 : decode cX5_closeFrame 0 = .ok (.aload_n 0, 1) := by decide +kernel
theorem dX5_closeFrame_1 : decode cX5_closeFrame 1 = .ok (.iconst 0, 1) := by decide +kernel
theorem dX5_closeFrame_2 : decode cX5_closeFrame 2 = .ok (.aload_n 0, 1) := by decide +kernel
theorem dX5_closeFrame_3 : decode cX5_closeFrame 3 = .ok (.getfield 106, 3) := by decide +kernel
theorem dX5_closeFrame_6 : decode cX5_closeFrame 6 = .ok (.iconst 1, 1) := by decide +kernel
theorem dX5_closeFrame_7 : decode cX5_closeFrame 7 = .ok (.isub, 1) := by decide +kernel
theorem dX5_closeFrame_8 : decode cX5_closeFrame 8 = .ok (.invokestatic 279, 3) := by decide +kernel
theorem dX5_closeFrame_11 : decode cX5_closeFrame 11 = .ok (.putfield 106, 3) := by decide +kernel
theorem dX5_closeFrame_14 : decode cX5_closeFrame 14 = .ok (.aload_n 0, 1) := by decide +kernel
theorem dX5_closeFrame_15 : decode cX5_closeFrame 15 = .ok (.aload_n 0, 1) := by decide +kernel
theorem dX5_closeFrame_16 : decode cX5_closeFrame 16 = .ok (.getfield 38, 3) := by decide +kernel
theorem dX5_closeFrame_19 : decode cX5_closeFrame 19 = .ok (.aload_n 0, 1) := by decide +kernel
theorem dX5_closeFrame_20 : decode cX5_closeFrame 20 = .ok (.iconst 0, 1) := by decide +kernel
theorem dX5_closeFrame_21 : decode cX5_closeFrame 21 = .ok (.invokevirtual 284, 3) := by decide +kernel
theorem dX5_closeFrame_24 : decode cX5_closeFrame 24 = .ok (.invokevirtual 79, 3) := by decide +kernel
theorem dX5_closeFrame_27 : decode cX5_closeFrame 27 = .ok (.putfield 119, 3) := by decide +kernel
theorem dX5_closeFrame_30 : decode cX5_closeFrame 30 = .ok (.aload_n 0, 1) := by decide +kernel
theorem dX5_closeFrame_31 : decode cX5_closeFrame 31 = .ok (.aload_n 0, 1) := by decide +kernel
theorem dX5_closeFrame_32 : decode cX5_closeFrame 32 = .ok (.iconst 1, 1) := by decide +kernel

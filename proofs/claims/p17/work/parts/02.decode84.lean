theorem dX9_isNeutral_246 : decode cX9_isNeutral 246 = .ok (.ldc2_w 237, 3) := by decide +kernel
theorem dX9_isNeutral_249 : decode cX9_isNeutral 249 = .ok (.lcmp, 1) := by decide +kernel
theorem dX9_isNeutral_250 : decode cX9_isNeutral 250 = .ok (.ifCond .ne 7, 3) := by decide +kernel
theorem dX9_isNeutral_253 : decode cX9_isNeutral 253 = .ok (.iconst 1, 1) := by decide +kernel
theorem dX9_isNeutral_254 : decode cX9_isNeutral 254 = .ok (.goto 4, 3) := by decide +kernel
theorem dX9_isNeutral_257 : decode cX9_isNeutral 257 = .ok (.iconst 0, 1) := by decide +kernel
theorem dX9_isNeutral_258 : decode cX9_isNeutral 258 = .ok (.ireturn, 1) := by decide +kernel
theorem dX9_isNeutral_259 : decode cX9_isNeutral 259 = .ok (.iload_n 2, 1) := by decide +kernel
theorem dX9_isNeutral_260 : decode cX9_isNeutral 260 = .ok (.invokestatic 239, 3) := by decide +kernel
theorem dX9_isNeutral_263 : decode cX9_isNeutral 263 = .ok (.ifCond .eq 20, 3) := by decide +kernel
theorem dX9_isNeutral_266 : decode cX9_isNeutral 266 = .ok (.aload_n 0, 1) := by decide +kernel
theorem dX9_isNeutral_267 : decode cX9_isNeutral 267 = .ok (.getfield 14, 3) := by decide +kernel
theorem dX9_isNeutral_270 : decode cX9_isNeutral 270 = .ok (.iload_n 1, 1) := by decide +kernel
theorem dX9_isNeutral_271 : decode cX9_isNeutral 271 = .ok (.invokevirtual 74, 3) := by decide +kernel
theorem dX9_isNeutral_274 : decode cX9_isNeutral 274 = .ok (.lconst 0, 1) := by decide +kernel
theorem dX9_isNeutral_275 : decode cX9_isNeutral 275 = .ok (.lcmp, 1) := by decide +kernel
theorem dX9_isNeutral_276 : decode cX9_isNeutral 276 = .ok (.ifCond .ne 7, 3) := by decide +kernel
theorem dX9_isNeutral_279 : decode cX9_isNeutral 279 = .ok (.iconst 1, 1) := by decide +kernel
theorem dX9_isNeutral_280 : decode cX9_isNeutral 280 = .ok (.goto 4, 3) := by decide +kernel
theorem dX9_isNeutral_283 : decode cX9_isNeutral 283 = .ok (.iconst 0, 1) := by decide +kernel
theorem dX9_isNeutral_284 : decode cX9_isNeutral 284 = .ok (.ireturn, 1) := by decide +kernel
theorem dX9_isNewlyReached_0 : decode cX9_isNewlyReached 0 = .ok (.iload_n 1, 1) := by decide +kernel
theorem dX9_isNewlyReached_1 : decode cX9_isNewlyReached 1 = .ok (.ifCond .lt 23, 3) := by decide +kernel
theorem dX9_isNewlyReached_4 : decode cX9_isNewlyReached 4 = .ok (.iload_n 1, 1) := by decide +kernel
theorem dX9_isNewlyReached_5 : decode cX9_isNewlyReached 5 = .ok (.aload_n 0, 1) := by decide +kernel
theorem dX9_isNewlyReached_6 : decode cX9_isNewlyReached 6 = .ok (.getfield 14, 3) := by decide +kernel
theorem dX9_isNewlyReached_9 : decode cX9_isNewlyReached 9 = .ok (.getfield 54, 3) := by decide +kernel
theorem dX9_isNewlyReached_12 : decode cX9_isNewlyReached 12 = .ok (.if_icmp .ge 12, 3) := by decide +kernel
theorem dX9_isNewlyReached_15 : decode cX9_isNewlyReached 15 = .ok (.aload_n 0, 1) := by decide +kernel
theorem dX9_isNewlyReached_16 : decode cX9_isNewlyReached 16 = .ok (.getfield 28, 3) := by decide +kernel
theorem dX9_isNewlyReached_19 : decode cX9_isNewlyReached 19 = .ok (.iload_n 1, 1) := by decide +kernel
theorem dX9_isNewlyReached_20 : decode cX9_isNewlyReached 20 = .ok (.baload, 1) := by decide +kernel
theorem dX9_isNewlyReached_21 : decode cX9_isNewlyReached 21 = .ok (.ifCond .eq 5, 3) := by decide +kernel
theorem dX9_isNewlyReached_24 : decode cX9_isNewlyReached 24 = .ok (.iconst 0, 1) := by decide +kernel
theorem dX9_isNewlyReached_25 : decode cX9_isNewlyReached 25 = .ok (.ireturn, 1) := by decide +kernel
theorem dX9_isNewlyReached_26 : decode cX9_isNewlyReached 26 = .ok (.aload_n 0, 1) := by decide +kernel
theorem dX9_isNewlyReached_27 : decode cX9_isNewlyReached 27 = .ok (.getfield 28, 3) := by decide +kernel
theorem dX9_isNewlyReached_30 : decode cX9_isNewlyReached 30 = .ok (.iload_n 1, 1) := by decide +kernel
theorem dX9_isNewlyReached_31 : decode cX9_isNewlyReached 31 = .ok (.iconst 1, 1) := by decide +kernel
theorem dX9_isNewlyReached_32 : decode cX9_isNewlyReached 32 = .ok (.bastore, 1) := by decide +kernel
theorem dX9_isNewlyReached_33 : decode cX9_isNewlyReached 33 = .ok (.iconst 1, 1) := by decide +kernel
theorem dX9_isNewlyReached_34 : decode cX9_isNewlyReached 34 = .ok (.ireturn, 1) := by decide +kernel
theorem dX9_isPassedOn_0 : decode cX9_isPassedOn 0 = .ok (.aload_n 0, 1) := by decide +kernel
theorem dX9_isPassedOn_1 : decode cX9_isPassedOn 1 = .ok (.getfield 14, 3) := by decide +kernel
theorem dX9_isPassedOn_4 : decode cX9_isPassedOn 4 = .ok (.iload_n 1, 1) := by decide +kernel
theorem dX9_isPassedOn_5 : decode cX9_isPassedOn 5 = .ok (.invokevirtual 71, 3) := by decide +kernel
theorem dX9_isPassedOn_8 : decode cX9_isPassedOn 8 = .ok (.istore_n 2, 1) := by decide +kernel
theorem dX9_isPassedOn_9 : decode cX9_isPassedOn 9 = .ok (.aload_n 0, 1) := by decide +kernel
theorem dX9_isPassedOn_10 : decode cX9_isPassedOn 10 = .ok (.getfield 14, 3) := by decide +kernel
theorem dX9_isPassedOn_13 : decode cX9_isPassedOn 13 = .ok (.iload_n 1, 1) := by decide +kernel
theorem dX9_isPassedOn_14 : decode cX9_isPassedOn 14 = .ok (.iconst 1, 1) := by decide +kernel
theorem dX9_isPassedOn_15 : decode cX9_isPassedOn 15 = .ok (.iadd, 1) := by decide +kernel
theorem dX9_isPassedOn_16 : decode cX9_isPassedOn 16 = .ok (.invokevirtual 71, 3) := by decide +kernel
theorem dX9_isPassedOn_19 : decode cX9_isPassedOn 19 = .ok (.istore_n 3, 1) := by decide +kernel
theorem dX9_isPassedOn_20 : decode cX9_isPassedOn 20 = .ok (.iload_n 2, 1) := by decide +kernel
theorem dX9_isPassedOn_21 : decode cX9_isPassedOn 21 = .ok (.bipush 54, 2) := by decide +kernel
theorem dX9_isPassedOn_23 : decode cX9_isPassedOn 23 = .ok (.if_icmp .ne 9, 3) := by decide +kernel
theorem dX9_isPassedOn_26 : decode cX9_isPassedOn 26 = .ok (.iload_n 3, 1) := by decide +kernel
theorem dX9_isPassedOn_27 : decode cX9_isPassedOn 27 = .ok (.bipush 21, 2) := by decide +kernel
theorem dX9_isPassedOn_29 : decode cX9_isPassedOn 29 = .ok (.if_icmp .eq 27, 3) := by decide +kernel
theorem dX9_isPassedOn_32 : decode cX9_isPassedOn 32 = .ok (.iload_n 2, 1) := by decide +kernel
theorem dX9_isPassedOn_33 : decode cX9_isPassedOn 33 = .ok (.bipush 55, 2) := by decide +kernel
theorem dX9_isPassedOn_35 : decode cX9_isPassedOn 35 = .ok (.if_icmp .ne 9, 3) := by decide +kernel
theorem dX9_isPassedOn_38 : decode cX9_isPassedOn 38 = .ok (.iload_n 3, 1) := by decide +kernel
theorem dX9_isPassedOn_39 : decode cX9_isPassedOn 39 = .ok (.bipush 22, 2) := by decide +kernel
theorem dX9_isPassedOn_41 : decode cX9_isPassedOn 41 = .ok (.if_icmp .eq 15, 3) := by decide +kernel
theorem dX9_isPassedOn_44 : decode cX9_isPassedOn 44 = .ok (.iload_n 2, 1) := by decide +kernel
theorem dX9_isPassedOn_45 : decode cX9_isPassedOn 45 = .ok (.bipush 58, 2) := by decide +kernel
theorem dX9_isPassedOn_47 : decode cX9_isPassedOn 47 = .ok (.if_icmp .ne 13, 3) := by decide +kernel
theorem dX9_isPassedOn_50 : decode cX9_isPassedOn 50 = .ok (.iload_n 3, 1) := by decide +kernel
theorem dX9_isPassedOn_51 : decode cX9_isPassedOn 51 = .ok (.bipush 25, 2) := by decide +kernel
theorem dX9_isPassedOn_53 : decode cX9_isPassedOn 53 = .ok (.if_icmp .ne 7, 3) := by decide +kernel
theorem dX9_isPassedOn_56 : decode cX9_isPassedOn 56 = .ok (.iconst 1, 1) := by decide +kernel
theorem dX9_isPassedOn_57 : decode cX9_isPassedOn 57 = .ok (.goto 4, 3) := by decide +kernel
theorem dX9_isPassedOn_60 : decode cX9_isPassedOn 60 = .ok (.iconst 0, 1) := by decide +kernel
theorem dX9_isPassedOn_61 : decode cX9_isPassedOn 61 = .ok (.istore 4, 2) := by decide +kernel
theorem dX9_isPassedOn_63 : decode cX9_isPassedOn 63 = .ok (.iload 4, 2) := by decide +kernel
theorem dX9_isPassedOn_65 : decode cX9_isPassedOn 65 = .ok (.ifCond .eq 44, 3) := by decide +kernel
theorem dX9_isPassedOn_68 : decode cX9_isPassedOn 68 = .ok (.aload_n 0, 1) := by decide +kernel
theorem dX9_isPassedOn_69 : decode cX9_isPassedOn 69 = .ok (.getfield 14, 3) := by decide +kernel
theorem dX9_isPassedOn_72 : decode cX9_isPassedOn 72 = .ok (.iload_n 1, 1) := by decide +kernel
theorem dX9_isPassedOn_73 : decode cX9_isPassedOn 73 = .ok (.invokevirtual 248, 3) := by decide +kernel
theorem dX9_isPassedOn_76 : decode cX9_isPassedOn 76 = .ok (.aload_n 0, 1) := by decide +kernel
theorem dX9_isPassedOn_77 : decode cX9_isPassedOn 77 = .ok (.getfield 14, 3) := by decide +kernel
theorem dX9_isPassedOn_80 : decode cX9_isPassedOn 80 = .ok (.iload_n 1, 1) := by decide +kernel
theorem dX9_isPassedOn_81 : decode cX9_isPassedOn 81 = .ok (.iconst 1, 1) := by decide +kernel
theorem dX9_isPassedOn_82 : decode cX9_isPassedOn 82 = .ok (.iadd, 1) := by decide +kernel
theorem dX9_isPassedOn_83 : decode cX9_isPassedOn 83 = .ok (.invokevirtual 248, 3) := by decide +kernel
theorem dX9_isPassedOn_86 : decode cX9_isPassedOn 86 = .ok (.if_icmp .ne 23, 3) := by decide +kernel
theorem dX9_isPassedOn_89 : decode cX9_isPassedOn 89 = .ok (.aload_n 0, 1) := by decide +kernel
theorem dX9_isPassedOn_90 : decode cX9_isPassedOn 90 = .ok (.iload_n 1, 1) := by decide +kernel
theorem dX9_isPassedOn_91 : decode cX9_isPassedOn 91 = .ok (.iconst 1, 1) := by decide +kernel
theorem dX9_isPassedOn_92 : decode cX9_isPassedOn 92 = .ok (.iadd, 1) := by decide +kernel
theorem dX9_isPassedOn_93 : decode cX9_isPassedOn 93 = .ok (.invokevirtual 251, 3) := by decide +kernel
theorem dX9_isPassedOn_96 : decode cX9_isPassedOn 96 = .ok (.aload_n 0, 1) := by decide +kernel
theorem dX9_isPassedOn_97 : decode cX9_isPassedOn 97 = .ok (.iload_n 1, 1) := by decide +kernel
theorem dX9_isPassedOn_98 : decode cX9_isPassedOn 98 = .ok (.invokevirtual 254, 3) := by decide +kernel
theorem dX9_isPassedOn_101 : decode cX9_isPassedOn 101 = .ok (.iand, 1) := by decide +kernel
theorem dX9_isPassedOn_102 : decode cX9_isPassedOn 102 = .ok (.ifCond .ne 7, 3) := by decide +kernel
theorem dX9_isPassedOn_105 : decode cX9_isPassedOn 105 = .ok (.iconst 1, 1) := by decide +kernel
theorem dX9_isPassedOn_106 : decode cX9_isPassedOn 106 = .ok (.goto 4, 3) := by decide +kernel
theorem dX9_isPassedOn_109 : decode cX9_isPassedOn 109 = .ok (.iconst 0, 1) := by decide +kernel
theorem dX9_isPassedOn_110 : decode cX9_isPassedOn 110 = .ok (.ireturn, 1) := by decide +kernel
theorem dX9_isPopped_0 : decode cX9_isPopped 0 = .ok (.aload_n 0, 1) := by decide +kernel
theorem dX9_isPopped_1 : decode cX9_isPopped 1 = .ok (.getfield 14, 3) := by decide +kernel
theorem dX9_isPopped_4 : decode cX9_isPopped 4 = .ok (.iload_n 1, 1) := by decide +kernel
theorem dX9_isPopped_5 : decode cX9_isPopped 5 = .ok (.invokevirtual 71, 3) := by decide +kernel
theorem dX9_isPopped_8 : decode cX9_isPopped 8 = .ok (.istore_n 2, 1) := by decide +kernel
theorem dX9_isPopped_9 : decode cX9_isPopped 9 = .ok (.aload_n 0, 1) := by decide +kernel
theorem dX9_isPopped_10 : decode cX9_isPopped 10 = .ok (.iload_n 1, 1) := by decide +kernel
theorem dX9_isPopped_11 : decode cX9_isPopped 11 = .ok (.invokevirtual 207, 3) := by decide +kernel
theorem dX9_isPopped_14 : decode cX9_isPopped 14 = .ok (.ifCond .ne 17, 3) := by decide +kernel
theorem dX9_isPopped_17 : decode cX9_isPopped 17 = .ok (.iload_n 2, 1) := by decide +kernel
theorem dX9_isPopped_18 : decode cX9_isPopped 18 = .ok (.iconst 1, 1) := by decide +kernel
theorem dX9_isPopped_19 : decode cX9_isPopped 19 = .ok (.if_icmp .eq 12, 3) := by decide +kernel
theorem dX9_isPopped_22 : decode cX9_isPopped 22 = .ok (.iload_n 2, 1) := by decide +kernel
theorem dX9_isPopped_23 : decode cX9_isPopped 23 = .ok (.invokestatic 242, 3) := by decide +kernel
theorem dX9_isPopped_26 : decode cX9_isPopped 26 = .ok (.ifCond .ne 5, 3) := by decide +kernel
theorem dX9_isPopped_29 : decode cX9_isPopped 29 = .ok (.iconst 0, 1) := by decide +kernel
theorem dX9_isPopped_30 : decode cX9_isPopped 30 = .ok (.ireturn, 1) := by decide +kernel
theorem dX9_isPopped_31 : decode cX9_isPopped 31 = .ok (.aload_n 0, 1) := by decide +kernel
theorem dX9_isPopped_32 : decode cX9_isPopped 32 = .ok (.getfield 14, 3) := by decide +kernel
theorem dX9_isPopped_35 : decode cX9_isPopped 35 = .ok (.iload_n 1, 1) := by decide +kernel
theorem dX9_isPopped_36 : decode cX9_isPopped 36 = .ok (.iconst 1, 1) := by decide +kernel
theorem dX9_isPopped_37 : decode cX9_isPopped 37 = .ok (.iadd, 1) := by decide +kernel
theorem dX9_isPopped_38 : decode cX9_isPopped 38 = .ok (.invokevirtual 71, 3) := by decide +kernel
theorem dX9_isPopped_41 : decode cX9_isPopped 41 = .ok (.iload_n 2, 1) := by decide +kernel
theorem dX9_isPopped_42 : decode cX9_isPopped 42 = .ok (.invokestatic 216, 3) := by decide +kernel
theorem dX9_isPopped_45 : decode cX9_isPopped 45 = .ok (.iconst 2, 1) := by decide +kernel
theorem dX9_isPopped_46 : decode cX9_isPopped 46 = .ok (.if_icmp .ne 8, 3) := by decide +kernel
theorem dX9_isPopped_49 : decode cX9_isPopped 49 = .ok (.bipush 88, 2) := by decide +kernel
theorem dX9_isPopped_51 : decode cX9_isPopped 51 = .ok (.goto 5, 3) := by decide +kernel
theorem dX9_isPopped_54 : decode cX9_isPopped 54 = .ok (.bipush 87, 2) := by decide +kernel
theorem dX9_isPopped_56 : decode cX9_isPopped 56 = .ok (.if_icmp .ne 7, 3) := by decide +kernel
theorem dX9_isPopped_59 : decode cX9_isPopped 59 = .ok (.iconst 1, 1) := by decide +kernel
theorem dX9_isPopped_60 : decode cX9_isPopped 60 = .ok (.goto 4, 3) := by decide +kernel
theorem dX9_isPopped_63 : decode cX9_isPopped 63 = .ok (.iconst 0, 1) := by decide +kernel
theorem dX9_isPopped_64 : decode cX9_isPopped 64 = .ok (.ireturn, 1) := by decide +kernel
theorem dX9_isRedirected_0 : decode cX9_isRedirected 0 = .ok (.aload_n 0, 1) := by decide +kernel
theorem dX9_isRedirected_1 : decode cX9_isRedirected 1 = .ok (.getfield 14, 3) := by decide +kernel
theorem dX9_isRedirected_4 : decode cX9_isRedirected 4 = .ok (.iload_n 1, 1) := by decide +kernel
theorem dX9_isRedirected_5 : decode cX9_isRedirected 5 = .ok (.invokevirtual 94, 3) := by decide +kernel
theorem dX9_isRedirected_8 : decode cX9_isRedirected 8 = .ok (.istore_n 2, 1) := by decide +kernel
theorem dX9_isRedirected_9 : decode cX9_isRedirected 9 = .ok (.iconst 0, 1) := by decide +kernel
theorem dX9_isRedirected_10 : decode cX9_isRedirected 10 = .ok (.istore_n 3, 1) := by decide +kernel
theorem dX9_isRedirected_11 : decode cX9_isRedirected 11 = .ok (.iload_n 3, 1) := by decide +kernel
theorem dX9_isRedirected_12 : decode cX9_isRedirected 12 = .ok (.iload_n 2, 1) := by decide +kernel
theorem dX9_isRedirected_13 : decode cX9_isRedirected 13 = .ok (.if_icmp .ge 110, 3) := by decide +kernel
theorem dX9_isRedirected_16 : decode cX9_isRedirected 16 = .ok (.aload_n 0, 1) := by decide +kernel
theorem dX9_isRedirected_17 : decode cX9_isRedirected 17 = .ok (.getfield 14, 3) := by decide +kernel

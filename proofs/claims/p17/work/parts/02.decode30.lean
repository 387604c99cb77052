theorem dX2_build_198 : decode cX2_build 198 = .ok (.iconst 0, 1) := by decide +kernel
theorem dX2_build_199 : decode cX2_build 199 = .ok (.istore_n 2, 1) := by decide +kernel
theorem dX2_build_200 : decode cX2_build 200 = .ok (.iload_n 2, 1) := by decide +kernel
theorem dX2_build_201 : decode cX2_build 201 = .ok (.aload_n 1, 1) := by decide +kernel
theorem dX2_build_202 : decode cX2_build 202 = .ok (.getfield 40, 3) := by decide +kernel
theorem dX2_build_205 : decode cX2_build 205 = .ok (.arraylength, 1) := by decide +kernel
theorem dX2_build_206 : decode cX2_build 206 = .ok (.if_icmp .ge 103, 3) := by decide +kernel
theorem dX2_build_209 : decode cX2_build 209 = .ok (.aload_n 0, 1) := by decide +kernel
theorem dX2_build_210 : decode cX2_build 210 = .ok (.getfield 12, 3) := by decide +kernel
theorem dX2_build_213 : decode cX2_build 213 = .ok (.getfield 62, 3) := by decide +kernel
theorem dX2_build_216 : decode cX2_build 216 = .ok (.iload_n 2, 1) := by decide +kernel
theorem dX2_build_217 : decode cX2_build 217 = .ok (.iadd, 1) := by decide +kernel
theorem dX2_build_218 : decode cX2_build 218 = .ok (.istore_n 3, 1) := by decide +kernel
theorem dX2_build_219 : decode cX2_build 219 = .ok (.aload_n 1, 1) := by decide +kernel
theorem dX2_build_220 : decode cX2_build 220 = .ok (.getfield 309, 3) := by decide +kernel
theorem dX2_build_223 : decode cX2_build 223 = .ok (.iload_n 2, 1) := by decide +kernel
theorem dX2_build_224 : decode cX2_build 224 = .ok (.aload_n 0, 1) := by decide +kernel
theorem dX2_build_225 : decode cX2_build 225 = .ok (.getfield 12, 3) := by decide +kernel
theorem dX2_build_228 : decode cX2_build 228 = .ok (.aload_n 0, 1) := by decide +kernel
theorem dX2_build_229 : decode cX2_build 229 = .ok (.getfield 12, 3) := by decide +kernel
theorem dX2_build_232 : decode cX2_build 232 = .ok (.iload_n 3, 1) := by decide +kernel
theorem dX2_build_233 : decode cX2_build 233 = .ok (.invokevirtual 267, 3) := by decide +kernel
theorem dX2_build_236 : decode cX2_build 236 = .ok (.invokevirtual 288, 3) := by decide +kernel
theorem dX2_build_239 : decode cX2_build 239 = .ok (.iastore, 1) := by decide +kernel
theorem dX2_build_240 : decode cX2_build 240 = .ok (.aload_n 1, 1) := by decide +kernel
theorem dX2_build_241 : decode cX2_build 241 = .ok (.getfield 312, 3) := by decide +kernel
theorem dX2_build_244 : decode cX2_build 244 = .ok (.iload_n 2, 1) := by decide +kernel
theorem dX2_build_245 : decode cX2_build 245 = .ok (.aload_n 0, 1) := by decide +kernel
theorem dX2_build_246 : decode cX2_build 246 = .ok (.getfield 12, 3) := by decide +kernel
theorem dX2_build_249 : decode cX2_build 249 = .ok (.aload_n 0, 1) := by decide +kernel
theorem dX2_build_250 : decode cX2_build 250 = .ok (.getfield 12, 3) := by decide +kernel
theorem dX2_build_253 : decode cX2_build 253 = .ok (.iload_n 3, 1) := by decide +kernel
theorem dX2_build_254 : decode cX2_build 254 = .ok (.invokevirtual 65, 3) := by decide +kernel
theorem dX2_build_257 : decode cX2_build 257 = .ok (.invokevirtual 288, 3) := by decide +kernel
theorem dX2_build_260 : decode cX2_build 260 = .ok (.iastore, 1) := by decide +kernel
theorem dX2_build_261 : decode cX2_build 261 = .ok (.aload_n 0, 1) := by decide +kernel
theorem dX2_build_262 : decode cX2_build 262 = .ok (.getfield 12, 3) := by decide +kernel
theorem dX2_build_265 : decode cX2_build 265 = .ok (.aload_n 0, 1) := by decide +kernel
theorem dX2_build_266 : decode cX2_build 266 = .ok (.getfield 12, 3) := by decide +kernel
theorem dX2_build_269 : decode cX2_build 269 = .ok (.iload_n 3, 1) := by decide +kernel
theorem dX2_build_270 : decode cX2_build 270 = .ok (.invokevirtual 65, 3) := by decide +kernel
theorem dX2_build_273 : decode cX2_build 273 = .ok (.invokevirtual 69, 3) := by decide +kernel
theorem dX2_build_276 : decode cX2_build 276 = .ok (.pop, 1) := by decide +kernel
theorem dX2_build_277 : decode cX2_build 277 = .ok (.aload_n 1, 1) := by decide +kernel
theorem dX2_build_278 : decode cX2_build 278 = .ok (.getfield 315, 3) := by decide +kernel
theorem dX2_build_281 : decode cX2_build 281 = .ok (.iload_n 2, 1) := by decide +kernel
theorem dX2_build_282 : decode cX2_build 282 = .ok (.aload_n 0, 1) := by decide +kernel
theorem dX2_build_283 : decode cX2_build 283 = .ok (.getfield 12, 3) := by decide +kernel
theorem dX2_build_286 : decode cX2_build 286 = .ok (.getfield 318, 3) := by decide +kernel
theorem dX2_build_289 : decode cX2_build 289 = .ok (.iastore, 1) := by decide +kernel
theorem dX2_build_290 : decode cX2_build 290 = .ok (.aload_n 1, 1) := by decide +kernel
theorem dX2_build_291 : decode cX2_build 291 = .ok (.getfield 321, 3) := by decide +kernel
theorem dX2_build_294 : decode cX2_build 294 = .ok (.iload_n 2, 1) := by decide +kernel
theorem dX2_build_295 : decode cX2_build 295 = .ok (.aload_n 0, 1) := by decide +kernel
theorem dX2_build_296 : decode cX2_build 296 = .ok (.getfield 12, 3) := by decide +kernel
theorem dX2_build_299 : decode cX2_build 299 = .ok (.getfield 324, 3) := by decide +kernel
theorem dX2_build_302 : decode cX2_build 302 = .ok (.iastore, 1) := by decide +kernel
theorem dX2_build_303 : decode cX2_build 303 = .ok (.iinc 2 1, 3) := by decide +kernel
theorem dX2_build_306 : decode cX2_build 306 = .ok (.goto (-106), 3) := by decide +kernel
theorem dX2_build_309 : decode cX2_build 309 = .ok (.aload_n 1, 1) := by decide +kernel
theorem dX2_build_310 : decode cX2_build 310 = .ok (.areturn, 1) := by decide +kernel
theorem dX2_catchHolds_0 : decode cX2_catchHolds 0 = .ok (.aload_n 0, 1) := by decide +kernel
theorem dX2_catchHolds_1 : decode cX2_catchHolds 1 = .ok (.getfield 12, 3) := by decide +kernel
theorem dX2_catchHolds_4 : decode cX2_catchHolds 4 = .ok (.iload_n 1, 1) := by decide +kernel
theorem dX2_catchHolds_5 : decode cX2_catchHolds 5 = .ok (.invokevirtual 90, 3) := by decide +kernel
theorem dX2_catchHolds_8 : decode cX2_catchHolds 8 = .ok (.istore_n 2, 1) := by decide +kernel
theorem dX2_catchHolds_9 : decode cX2_catchHolds 9 = .ok (.aload_n 0, 1) := by decide +kernel
theorem dX2_catchHolds_10 : decode cX2_catchHolds 10 = .ok (.getfield 12, 3) := by decide +kernel
theorem dX2_catchHolds_13 : decode cX2_catchHolds 13 = .ok (.iload_n 1, 1) := by decide +kernel
theorem dX2_catchHolds_14 : decode cX2_catchHolds 14 = .ok (.iconst 2, 1) := by decide +kernel
theorem dX2_catchHolds_15 : decode cX2_catchHolds 15 = .ok (.iadd, 1) := by decide +kernel
theorem dX2_catchHolds_16 : decode cX2_catchHolds 16 = .ok (.invokevirtual 90, 3) := by decide +kernel
theorem dX2_catchHolds_19 : decode cX2_catchHolds 19 = .ok (.istore_n 3, 1) := by decide +kernel
theorem dX2_catchHolds_20 : decode cX2_catchHolds 20 = .ok (.aload_n 0, 1) := by decide +kernel
theorem dX2_catchHolds_21 : decode cX2_catchHolds 21 = .ok (.iload_n 2, 1) := by decide +kernel
theorem dX2_catchHolds_22 : decode cX2_catchHolds 22 = .ok (.i2l, 1) := by decide +kernel
theorem dX2_catchHolds_23 : decode cX2_catchHolds 23 = .ok (.invokevirtual 221, 3) := by decide +kernel
theorem dX2_catchHolds_26 : decode cX2_catchHolds 26 = .ok (.ifCond .eq 58, 3) := by decide +kernel
theorem dX2_catchHolds_29 : decode cX2_catchHolds 29 = .ok (.aload_n 0, 1) := by decide +kernel
theorem dX2_catchHolds_30 : decode cX2_catchHolds 30 = .ok (.iload_n 3, 1) := by decide +kernel
theorem dX2_catchHolds_31 : decode cX2_catchHolds 31 = .ok (.i2l, 1) := by decide +kernel
theorem dX2_catchHolds_32 : decode cX2_catchHolds 32 = .ok (.invokevirtual 217, 3) := by decide +kernel
theorem dX2_catchHolds_35 : decode cX2_catchHolds 35 = .ok (.ifCond .lt 49, 3) := by decide +kernel
theorem dX2_catchHolds_38 : decode cX2_catchHolds 38 = .ok (.iload_n 2, 1) := by decide +kernel
theorem dX2_catchHolds_39 : decode cX2_catchHolds 39 = .ok (.iload_n 3, 1) := by decide +kernel
theorem dX2_catchHolds_40 : decode cX2_catchHolds 40 = .ok (.if_icmp .ge 44, 3) := by decide +kernel
theorem dX2_catchHolds_43 : decode cX2_catchHolds 43 = .ok (.aload_n 0, 1) := by decide +kernel
theorem dX2_catchHolds_44 : decode cX2_catchHolds 44 = .ok (.aload_n 0, 1) := by decide +kernel
theorem dX2_catchHolds_45 : decode cX2_catchHolds 45 = .ok (.getfield 12, 3) := by decide +kernel
theorem dX2_catchHolds_48 : decode cX2_catchHolds 48 = .ok (.iload_n 1, 1) := by decide +kernel
theorem dX2_catchHolds_49 : decode cX2_catchHolds 49 = .ok (.iconst 4, 1) := by decide +kernel
theorem dX2_catchHolds_50 : decode cX2_catchHolds 50 = .ok (.iadd, 1) := by decide +kernel
theorem dX2_catchHolds_51 : decode cX2_catchHolds 51 = .ok (.invokevirtual 90, 3) := by decide +kernel
theorem dX2_catchHolds_54 : decode cX2_catchHolds 54 = .ok (.i2l, 1) := by decide +kernel
theorem dX2_catchHolds_55 : decode cX2_catchHolds 55 = .ok (.invokevirtual 221, 3) := by decide +kernel
theorem dX2_catchHolds_58 : decode cX2_catchHolds 58 = .ok (.ifCond .eq 26, 3) := by decide +kernel
theorem dX2_catchHolds_61 : decode cX2_catchHolds 61 = .ok (.aload_n 0, 1) := by decide +kernel
theorem dX2_catchHolds_62 : decode cX2_catchHolds 62 = .ok (.aload_n 0, 1) := by decide +kernel
theorem dX2_catchHolds_63 : decode cX2_catchHolds 63 = .ok (.getfield 12, 3) := by decide +kernel
theorem dX2_catchHolds_66 : decode cX2_catchHolds 66 = .ok (.iload_n 1, 1) := by decide +kernel
theorem dX2_catchHolds_67 : decode cX2_catchHolds 67 = .ok (.bipush 6, 2) := by decide +kernel
theorem dX2_catchHolds_69 : decode cX2_catchHolds 69 = .ok (.iadd, 1) := by decide +kernel
theorem dX2_catchHolds_70 : decode cX2_catchHolds 70 = .ok (.invokevirtual 90, 3) := by decide +kernel
theorem dX2_catchHolds_73 : decode cX2_catchHolds 73 = .ok (.invokevirtual 244, 3) := by decide +kernel
theorem dX2_catchHolds_76 : decode cX2_catchHolds 76 = .ok (.iconst (-1), 1) := by decide +kernel
theorem dX2_catchHolds_77 : decode cX2_catchHolds 77 = .ok (.if_icmp .lt 7, 3) := by decide +kernel
theorem dX2_catchHolds_80 : decode cX2_catchHolds 80 = .ok (.iconst 1, 1) := by decide +kernel
theorem dX2_catchHolds_81 : decode cX2_catchHolds 81 = .ok (.goto 4, 3) := by decide +kernel
theorem dX2_catchHolds_84 : decode cX2_catchHolds 84 = .ok (.iconst 0, 1) := by decide +kernel
theorem dX2_catchHolds_85 : decode cX2_catchHolds 85 = .ok (.ireturn, 1) := by decide +kernel
theorem dX2_catchesHold_0 : decode cX2_catchesHold 0 = .ok (.iload_n 1, 1) := by decide +kernel
theorem dX2_catchesHold_1 : decode cX2_catchesHold 1 = .ok (.iconst 2, 1) := by decide +kernel
theorem dX2_catchesHold_2 : decode cX2_catchesHold 2 = .ok (.iadd, 1) := by decide +kernel
theorem dX2_catchesHold_3 : decode cX2_catchesHold 3 = .ok (.iload_n 2, 1) := by decide +kernel
theorem dX2_catchesHold_4 : decode cX2_catchesHold 4 = .ok (.if_icmp .le 14, 3) := by decide +kernel
theorem dX2_catchesHold_7 : decode cX2_catchesHold 7 = .ok (.aload_n 0, 1) := by decide +kernel
theorem dX2_catchesHold_8 : decode cX2_catchesHold 8 = .ok (.getfield 12, 3) := by decide +kernel
theorem dX2_catchesHold_11 : decode cX2_catchesHold 11 = .ok (.bipush 14, 2) := by decide +kernel
theorem dX2_catchesHold_13 : decode cX2_catchesHold 13 = .ok (.iload_n 2, 1) := by decide +kernel
theorem dX2_catchesHold_14 : decode cX2_catchesHold 14 = .ok (.invokevirtual 86, 3) := by decide +kernel
theorem dX2_catchesHold_17 : decode cX2_catchesHold 17 = .ok (.ireturn, 1) := by decide +kernel
theorem dX2_catchesHold_18 : decode cX2_catchesHold 18 = .ok (.aload_n 0, 1) := by decide +kernel
theorem dX2_catchesHold_19 : decode cX2_catchesHold 19 = .ok (.getfield 12, 3) := by decide +kernel
theorem dX2_catchesHold_22 : decode cX2_catchesHold 22 = .ok (.iload_n 1, 1) := by decide +kernel
theorem dX2_catchesHold_23 : decode cX2_catchesHold 23 = .ok (.invokevirtual 90, 3) := by decide +kernel
theorem dX2_catchesHold_26 : decode cX2_catchesHold 26 = .ok (.istore_n 3, 1) := by decide +kernel
theorem dX2_catchesHold_27 : decode cX2_catchesHold 27 = .ok (.iload_n 3, 1) := by decide +kernel
theorem dX2_catchesHold_28 : decode cX2_catchesHold 28 = .ok (.bipush 16, 2) := by decide +kernel
theorem dX2_catchesHold_30 : decode cX2_catchesHold 30 = .ok (.if_icmp .le 14, 3) := by decide +kernel
theorem dX2_catchesHold_33 : decode cX2_catchesHold 33 = .ok (.aload_n 0, 1) := by decide +kernel
theorem dX2_catchesHold_34 : decode cX2_catchesHold 34 = .ok (.getfield 12, 3) := by decide +kernel
theorem dX2_catchesHold_37 : decode cX2_catchesHold 37 = .ok (.bipush 13, 2) := by decide +kernel
theorem dX2_catchesHold_39 : decode cX2_catchesHold 39 = .ok (.iload_n 1, 1) := by decide +kernel
theorem dX2_catchesHold_40 : decode cX2_catchesHold 40 = .ok (.invokevirtual 86, 3) := by decide +kernel
theorem dX2_catchesHold_43 : decode cX2_catchesHold 43 = .ok (.ireturn, 1) := by decide +kernel
theorem dX2_catchesHold_44 : decode cX2_catchesHold 44 = .ok (.iload_n 1, 1) := by decide +kernel
theorem dX2_catchesHold_45 : decode cX2_catchesHold 45 = .ok (.iconst 2, 1) := by decide +kernel
theorem dX2_catchesHold_46 : decode cX2_catchesHold 46 = .ok (.iadd, 1) := by decide +kernel
theorem dX2_catchesHold_47 : decode cX2_catchesHold 47 = .ok (.bipush 8, 2) := by decide +kernel
theorem dX2_catchesHold_49 : decode cX2_catchesHold 49 = .ok (.iload_n 3, 1) := by decide +kernel
theorem dX2_catchesHold_50 : decode cX2_catchesHold 50 = .ok (.imul, 1) := by decide +kernel
theorem dX2_catchesHold_51 : decode cX2_catchesHold 51 = .ok (.iadd, 1) := by decide +kernel
theorem dX2_catchesHold_52 : decode cX2_catchesHold 52 = .ok (.istore 4, 2) := by decide +kernel
theorem dX2_catchesHold_54 : decode cX2_catchesHold 54 = .ok (.iload 4, 2) := by decide +kernel
theorem dX2_catchesHold_56 : decode cX2_catchesHold 56 = .ok (.iconst 2, 1) := by decide +kernel
theorem dX2_catchesHold_57 : decode cX2_catchesHold 57 = .ok (.iadd, 1) := by decide +kernel
theorem dX2_catchesHold_58 : decode cX2_catchesHold 58 = .ok (.iload_n 2, 1) := by decide +kernel
theorem dX2_catchesHold_59 : decode cX2_catchesHold 59 = .ok (.if_icmp .le 14, 3) := by decide +kernel
theorem dX2_catchesHold_62 : decode cX2_catchesHold 62 = .ok (.aload_n 0, 1) := by decide +kernel
theorem dX2_catchesHold_63 : decode cX2_catchesHold 63 = .ok (.getfield 12, 3) := by decide +kernel

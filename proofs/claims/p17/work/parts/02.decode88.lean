theorem dX9_putCounters_148 : decode cX9_putCounters 148 = .ok (.getfield 34, 3) := by decide +kernel
theorem dX9_putCounters_151 : decode cX9_putCounters 151 = .ok (.arraylength, 1) := by decide +kernel
theorem dX9_putCounters_152 : decode cX9_putCounters 152 = .ok (.iconst 1, 1) := by decide +kernel
theorem dX9_putCounters_153 : decode cX9_putCounters 153 = .ok (.isub, 1) := by decide +kernel
theorem dX9_putCounters_154 : decode cX9_putCounters 154 = .ok (.invokestatic 78, 3) := by decide +kernel
theorem dX9_putCounters_157 : decode cX9_putCounters 157 = .ok (.aload_n 0, 1) := by decide +kernel
theorem dX9_putCounters_158 : decode cX9_putCounters 158 = .ok (.getfield 14, 3) := by decide +kernel
theorem dX9_putCounters_161 : decode cX9_putCounters 161 = .ok (.getfield 54, 3) := by decide +kernel
theorem dX9_putCounters_164 : decode cX9_putCounters 164 = .ok (.iastore, 1) := by decide +kernel
theorem dX9_putCounters_165 : decode cX9_putCounters 165 = .ok (.aload_n 0, 1) := by decide +kernel
theorem dX9_putCounters_166 : decode cX9_putCounters 166 = .ok (.getfield 14, 3) := by decide +kernel
theorem dX9_putCounters_169 : decode cX9_putCounters 169 = .ok (.iconst 0, 1) := by decide +kernel
theorem dX9_putCounters_170 : decode cX9_putCounters 170 = .ok (.putfield 84, 3) := by decide +kernel
theorem dX9_putCounters_173 : decode cX9_putCounters 173 = .ok (.iconst 0, 1) := by decide +kernel
theorem dX9_putCounters_174 : decode cX9_putCounters 174 = .ok (.istore 5, 2) := by decide +kernel
theorem dX9_putCounters_176 : decode cX9_putCounters 176 = .ok (.iload 5, 2) := by decide +kernel
theorem dX9_putCounters_178 : decode cX9_putCounters 178 = .ok (.aload_n 1, 1) := by decide +kernel
theorem dX9_putCounters_179 : decode cX9_putCounters 179 = .ok (.getfield 84, 3) := by decide +kernel
theorem dX9_putCounters_182 : decode cX9_putCounters 182 = .ok (.if_icmp .ge 23, 3) := by decide +kernel
theorem dX9_putCounters_185 : decode cX9_putCounters 185 = .ok (.aload_n 0, 1) := by decide +kernel
theorem dX9_putCounters_186 : decode cX9_putCounters 186 = .ok (.getfield 14, 3) := by decide +kernel
theorem dX9_putCounters_189 : decode cX9_putCounters 189 = .ok (.aload_n 1, 1) := by decide +kernel
theorem dX9_putCounters_190 : decode cX9_putCounters 190 = .ok (.getfield 87, 3) := by decide +kernel
theorem dX9_putCounters_193 : decode cX9_putCounters 193 = .ok (.iload 5, 2) := by decide +kernel
theorem dX9_putCounters_195 : decode cX9_putCounters 195 = .ok (.iaload, 1) := by decide +kernel
theorem dX9_putCounters_196 : decode cX9_putCounters 196 = .ok (.invokevirtual 90, 3) := by decide +kernel
theorem dX9_putCounters_199 : decode cX9_putCounters 199 = .ok (.iinc 5 1, 3) := by decide +kernel
theorem dX9_putCounters_202 : decode cX9_putCounters 202 = .ok (.goto (-26), 3) := by decide +kernel
theorem dX9_putCounters_205 : decode cX9_putCounters 205 = .ok (.iconst 0, 1) := by decide +kernel
theorem dX9_putCounters_206 : decode cX9_putCounters 206 = .ok (.istore 5, 2) := by decide +kernel
theorem dX9_putCounters_208 : decode cX9_putCounters 208 = .ok (.iload 5, 2) := by decide +kernel
theorem dX9_putCounters_210 : decode cX9_putCounters 210 = .ok (.aload_n 0, 1) := by decide +kernel
theorem dX9_putCounters_211 : decode cX9_putCounters 211 = .ok (.getfield 14, 3) := by decide +kernel
theorem dX9_putCounters_214 : decode cX9_putCounters 214 = .ok (.getfield 54, 3) := by decide +kernel
theorem dX9_putCounters_217 : decode cX9_putCounters 217 = .ok (.if_icmp .ge 62, 3) := by decide +kernel
theorem dX9_putCounters_220 : decode cX9_putCounters 220 = .ok (.aload_n 0, 1) := by decide +kernel
theorem dX9_putCounters_221 : decode cX9_putCounters 221 = .ok (.getfield 14, 3) := by decide +kernel
theorem dX9_putCounters_224 : decode cX9_putCounters 224 = .ok (.iload 5, 2) := by decide +kernel
theorem dX9_putCounters_226 : decode cX9_putCounters 226 = .ok (.invokevirtual 94, 3) := by decide +kernel
theorem dX9_putCounters_229 : decode cX9_putCounters 229 = .ok (.istore 6, 2) := by decide +kernel
theorem dX9_putCounters_231 : decode cX9_putCounters 231 = .ok (.iconst 0, 1) := by decide +kernel
theorem dX9_putCounters_232 : decode cX9_putCounters 232 = .ok (.istore 7, 2) := by decide +kernel
theorem dX9_putCounters_234 : decode cX9_putCounters 234 = .ok (.iload 7, 2) := by decide +kernel
theorem dX9_putCounters_236 : decode cX9_putCounters 236 = .ok (.iload 6, 2) := by decide +kernel
theorem dX9_putCounters_238 : decode cX9_putCounters 238 = .ok (.if_icmp .ge 35, 3) := by decide +kernel
theorem dX9_putCounters_241 : decode cX9_putCounters 241 = .ok (.aload_n 0, 1) := by decide +kernel
theorem dX9_putCounters_242 : decode cX9_putCounters 242 = .ok (.getfield 14, 3) := by decide +kernel
theorem dX9_putCounters_245 : decode cX9_putCounters 245 = .ok (.iload 5, 2) := by decide +kernel
theorem dX9_putCounters_247 : decode cX9_putCounters 247 = .ok (.iload 7, 2) := by decide +kernel
theorem dX9_putCounters_249 : decode cX9_putCounters 249 = .ok (.aload_n 0, 1) := by decide +kernel
theorem dX9_putCounters_250 : decode cX9_putCounters 250 = .ok (.aload_n 0, 1) := by decide +kernel
theorem dX9_putCounters_251 : decode cX9_putCounters 251 = .ok (.getfield 14, 3) := by decide +kernel
theorem dX9_putCounters_254 : decode cX9_putCounters 254 = .ok (.iload 5, 2) := by decide +kernel
theorem dX9_putCounters_256 : decode cX9_putCounters 256 = .ok (.iload 7, 2) := by decide +kernel
theorem dX9_putCounters_258 : decode cX9_putCounters 258 = .ok (.invokevirtual 97, 3) := by decide +kernel
theorem dX9_putCounters_261 : decode cX9_putCounters 261 = .ok (.invokevirtual 100, 3) := by decide +kernel
theorem dX9_putCounters_264 : decode cX9_putCounters 264 = .ok (.invokevirtual 103, 3) := by decide +kernel
theorem dX9_putCounters_267 : decode cX9_putCounters 267 = .ok (.iinc 7 1, 3) := by decide +kernel
theorem dX9_putCounters_270 : decode cX9_putCounters 270 = .ok (.goto (-36), 3) := by decide +kernel
theorem dX9_putCounters_273 : decode cX9_putCounters 273 = .ok (.iinc 5 1, 3) := by decide +kernel
theorem dX9_putCounters_276 : decode cX9_putCounters 276 = .ok (.goto (-68), 3) := by decide +kernel
theorem dX9_putCounters_279 : decode cX9_putCounters 279 = .ok (.aload_n 0, 1) := by decide +kernel
theorem dX9_putCounters_280 : decode cX9_putCounters 280 = .ok (.getfield 14, 3) := by decide +kernel
theorem dX9_putCounters_283 : decode cX9_putCounters 283 = .ok (.iconst 0, 1) := by decide +kernel
theorem dX9_putCounters_284 : decode cX9_putCounters 284 = .ok (.putfield 106, 3) := by decide +kernel
theorem dX9_putCounters_287 : decode cX9_putCounters 287 = .ok (.iconst 0, 1) := by decide +kernel
theorem dX9_putCounters_288 : decode cX9_putCounters 288 = .ok (.istore 5, 2) := by decide +kernel
theorem dX9_putCounters_290 : decode cX9_putCounters 290 = .ok (.iload 5, 2) := by decide +kernel
theorem dX9_putCounters_292 : decode cX9_putCounters 292 = .ok (.aload_n 1, 1) := by decide +kernel
theorem dX9_putCounters_293 : decode cX9_putCounters 293 = .ok (.getfield 106, 3) := by decide +kernel
theorem dX9_putCounters_296 : decode cX9_putCounters 296 = .ok (.if_icmp .ge 56, 3) := by decide +kernel
theorem dX9_putCounters_299 : decode cX9_putCounters 299 = .ok (.aload_n 0, 1) := by decide +kernel
theorem dX9_putCounters_300 : decode cX9_putCounters 300 = .ok (.getfield 14, 3) := by decide +kernel
theorem dX9_putCounters_303 : decode cX9_putCounters 303 = .ok (.aload_n 0, 1) := by decide +kernel
theorem dX9_putCounters_304 : decode cX9_putCounters 304 = .ok (.aload_n 1, 1) := by decide +kernel
theorem dX9_putCounters_305 : decode cX9_putCounters 305 = .ok (.getfield 109, 3) := by decide +kernel
theorem dX9_putCounters_308 : decode cX9_putCounters 308 = .ok (.iload 5, 2) := by decide +kernel
theorem dX9_putCounters_310 : decode cX9_putCounters 310 = .ok (.iaload, 1) := by decide +kernel
theorem dX9_putCounters_311 : decode cX9_putCounters 311 = .ok (.invokevirtual 100, 3) := by decide +kernel
theorem dX9_putCounters_314 : decode cX9_putCounters 314 = .ok (.aload_n 0, 1) := by decide +kernel
theorem dX9_putCounters_315 : decode cX9_putCounters 315 = .ok (.aload_n 1, 1) := by decide +kernel
theorem dX9_putCounters_316 : decode cX9_putCounters 316 = .ok (.getfield 112, 3) := by decide +kernel
theorem dX9_putCounters_319 : decode cX9_putCounters 319 = .ok (.iload 5, 2) := by decide +kernel
theorem dX9_putCounters_321 : decode cX9_putCounters 321 = .ok (.iaload, 1) := by decide +kernel
theorem dX9_putCounters_322 : decode cX9_putCounters 322 = .ok (.invokevirtual 100, 3) := by decide +kernel
theorem dX9_putCounters_325 : decode cX9_putCounters 325 = .ok (.aload_n 0, 1) := by decide +kernel
theorem dX9_putCounters_326 : decode cX9_putCounters 326 = .ok (.aload_n 1, 1) := by decide +kernel
theorem dX9_putCounters_327 : decode cX9_putCounters 327 = .ok (.getfield 115, 3) := by decide +kernel
theorem dX9_putCounters_330 : decode cX9_putCounters 330 = .ok (.iload 5, 2) := by decide +kernel
theorem dX9_putCounters_332 : decode cX9_putCounters 332 = .ok (.iaload, 1) := by decide +kernel
theorem dX9_putCounters_333 : decode cX9_putCounters 333 = .ok (.invokevirtual 100, 3) := by decide +kernel
theorem dX9_putCounters_336 : decode cX9_putCounters 336 = .ok (.aload_n 1, 1) := by decide +kernel
theorem dX9_putCounters_337 : decode cX9_putCounters 337 = .ok (.getfield 118, 3) := by decide +kernel
theorem dX9_putCounters_340 : decode cX9_putCounters 340 = .ok (.iload 5, 2) := by decide +kernel
theorem dX9_putCounters_342 : decode cX9_putCounters 342 = .ok (.iaload, 1) := by decide +kernel
theorem dX9_putCounters_343 : decode cX9_putCounters 343 = .ok (.invokevirtual 121, 3) := by decide +kernel
theorem dX9_putCounters_346 : decode cX9_putCounters 346 = .ok (.iinc 5 1, 3) := by decide +kernel
theorem dX9_putCounters_349 : decode cX9_putCounters 349 = .ok (.goto (-59), 3) := by decide +kernel
theorem dX9_putCounters_352 : decode cX9_putCounters 352 = .ok (.return_, 1) := by decide +kernel
theorem dX9_putPush_0 : decode cX9_putPush 0 = .ok (.aload_n 0, 1) := by decide +kernel
theorem dX9_putPush_1 : decode cX9_putPush 1 = .ok (.getfield 14, 3) := by decide +kernel
theorem dX9_putPush_4 : decode cX9_putPush 4 = .ok (.iload_n 1, 1) := by decide +kernel
theorem dX9_putPush_5 : decode cX9_putPush 5 = .ok (.iload_n 2, 1) := by decide +kernel
theorem dX9_putPush_6 : decode cX9_putPush 6 = .ok (.iconst 2, 1) := by decide +kernel
theorem dX9_putPush_7 : decode cX9_putPush 7 = .ok (.if_icmp .ne 8, 3) := by decide +kernel
theorem dX9_putPush_10 : decode cX9_putPush 10 = .ok (.bipush 20, 2) := by decide +kernel
theorem dX9_putPush_12 : decode cX9_putPush 12 = .ok (.goto 5, 3) := by decide +kernel
theorem dX9_putPush_15 : decode cX9_putPush 15 = .ok (.bipush 17, 2) := by decide +kernel
theorem dX9_putPush_17 : decode cX9_putPush 17 = .ok (.lload_n 3, 1) := by decide +kernel
theorem dX9_putPush_18 : decode cX9_putPush 18 = .ok (.invokevirtual 200, 3) := by decide +kernel
theorem dX9_putPush_21 : decode cX9_putPush 21 = .ok (.return_, 1) := by decide +kernel
theorem dX9_reachFrom_0 : decode cX9_reachFrom 0 = .ok (.aload_n 0, 1) := by decide +kernel
theorem dX9_reachFrom_1 : decode cX9_reachFrom 1 = .ok (.getfield 14, 3) := by decide +kernel
theorem dX9_reachFrom_4 : decode cX9_reachFrom 4 = .ok (.iload_n 1, 1) := by decide +kernel
theorem dX9_reachFrom_5 : decode cX9_reachFrom 5 = .ok (.invokevirtual 71, 3) := by decide +kernel
theorem dX9_reachFrom_8 : decode cX9_reachFrom 8 = .ok (.invokestatic 186, 3) := by decide +kernel
theorem dX9_reachFrom_11 : decode cX9_reachFrom 11 = .ok (.ifCond .eq 17, 3) := by decide +kernel
theorem dX9_reachFrom_14 : decode cX9_reachFrom 14 = .ok (.aload_n 0, 1) := by decide +kernel
theorem dX9_reachFrom_15 : decode cX9_reachFrom 15 = .ok (.iload_n 1, 1) := by decide +kernel
theorem dX9_reachFrom_16 : decode cX9_reachFrom 16 = .ok (.iconst 1, 1) := by decide +kernel
theorem dX9_reachFrom_17 : decode cX9_reachFrom 17 = .ok (.iadd, 1) := by decide +kernel
theorem dX9_reachFrom_18 : decode cX9_reachFrom 18 = .ok (.invokevirtual 191, 3) := by decide +kernel
theorem dX9_reachFrom_21 : decode cX9_reachFrom 21 = .ok (.ifCond .eq 7, 3) := by decide +kernel
theorem dX9_reachFrom_24 : decode cX9_reachFrom 24 = .ok (.iconst 1, 1) := by decide +kernel
theorem dX9_reachFrom_25 : decode cX9_reachFrom 25 = .ok (.goto 4, 3) := by decide +kernel
theorem dX9_reachFrom_28 : decode cX9_reachFrom 28 = .ok (.iconst 0, 1) := by decide +kernel
theorem dX9_reachFrom_29 : decode cX9_reachFrom 29 = .ok (.istore_n 2, 1) := by decide +kernel
theorem dX9_reachFrom_30 : decode cX9_reachFrom 30 = .ok (.aload_n 0, 1) := by decide +kernel
theorem dX9_reachFrom_31 : decode cX9_reachFrom 31 = .ok (.getfield 14, 3) := by decide +kernel
theorem dX9_reachFrom_34 : decode cX9_reachFrom 34 = .ok (.iload_n 1, 1) := by decide +kernel
theorem dX9_reachFrom_35 : decode cX9_reachFrom 35 = .ok (.invokevirtual 94, 3) := by decide +kernel
theorem dX9_reachFrom_38 : decode cX9_reachFrom 38 = .ok (.istore_n 3, 1) := by decide +kernel
theorem dX9_reachFrom_39 : decode cX9_reachFrom 39 = .ok (.iconst 0, 1) := by decide +kernel
theorem dX9_reachFrom_40 : decode cX9_reachFrom 40 = .ok (.istore 4, 2) := by decide +kernel
theorem dX9_reachFrom_42 : decode cX9_reachFrom 42 = .ok (.iload 4, 2) := by decide +kernel
theorem dX9_reachFrom_44 : decode cX9_reachFrom 44 = .ok (.iload_n 3, 1) := by decide +kernel
theorem dX9_reachFrom_45 : decode cX9_reachFrom 45 = .ok (.if_icmp .ge 26, 3) := by decide +kernel
theorem dX9_reachFrom_48 : decode cX9_reachFrom 48 = .ok (.iload_n 2, 1) := by decide +kernel
theorem dX9_reachFrom_49 : decode cX9_reachFrom 49 = .ok (.aload_n 0, 1) := by decide +kernel
theorem dX9_reachFrom_50 : decode cX9_reachFrom 50 = .ok (.aload_n 0, 1) := by decide +kernel
theorem dX9_reachFrom_51 : decode cX9_reachFrom 51 = .ok (.getfield 14, 3) := by decide +kernel
theorem dX9_reachFrom_54 : decode cX9_reachFrom 54 = .ok (.iload_n 1, 1) := by decide +kernel
theorem dX9_reachFrom_55 : decode cX9_reachFrom 55 = .ok (.iload 4, 2) := by decide +kernel
theorem dX9_reachFrom_57 : decode cX9_reachFrom 57 = .ok (.invokevirtual 97, 3) := by decide +kernel
theorem dX9_reachFrom_60 : decode cX9_reachFrom 60 = .ok (.invokevirtual 191, 3) := by decide +kernel
theorem dX9_reachFrom_63 : decode cX9_reachFrom 63 = .ok (.ior, 1) := by decide +kernel
theorem dX9_reachFrom_64 : decode cX9_reachFrom 64 = .ok (.istore_n 2, 1) := by decide +kernel
theorem dX9_reachFrom_65 : decode cX9_reachFrom 65 = .ok (.iinc 4 1, 3) := by decide +kernel
theorem dX9_reachFrom_68 : decode cX9_reachFrom 68 = .ok (.goto (-26), 3) := by decide +kernel
theorem dX9_reachFrom_71 : decode cX9_reachFrom 71 = .ok (.iconst 0, 1) := by decide +kernel

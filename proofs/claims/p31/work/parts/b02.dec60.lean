theorem dX14_pass_26 : decode cX14_pass 26 = .ok (.aload_n 0, 1) := by decide +kernel
theorem dX14_pass_27 : decode cX14_pass 27 = .ok (.iconst 0, 1) := by decide +kernel
theorem dX14_pass_28 : decode cX14_pass 28 = .ok (.invokevirtual 1133, 3) := by decide +kernel
theorem dX14_pass_31 : decode cX14_pass 31 = .ok (.istore_n 3, 1) := by decide +kernel
theorem dX14_pass_32 : decode cX14_pass 32 = .ok (.iload_n 3, 1) := by decide +kernel
theorem dX14_pass_33 : decode cX14_pass 33 = .ok (.aload_n 0, 1) := by decide +kernel
theorem dX14_pass_34 : decode cX14_pass 34 = .ok (.getfield 1130, 3) := by decide +kernel
theorem dX14_pass_37 : decode cX14_pass 37 = .ok (.if_icmp .ge 46, 3) := by decide +kernel
theorem dX14_pass_40 : decode cX14_pass 40 = .ok (.aload_n 0, 1) := by decide +kernel
theorem dX14_pass_41 : decode cX14_pass 41 = .ok (.iload_n 1, 1) := by decide +kernel
theorem dX14_pass_42 : decode cX14_pass 42 = .ok (.iload_n 3, 1) := by decide +kernel
theorem dX14_pass_43 : decode cX14_pass 43 = .ok (.invokevirtual 1158, 3) := by decide +kernel
theorem dX14_pass_46 : decode cX14_pass 46 = .ok (.ifCond .eq 28, 3) := by decide +kernel
theorem dX14_pass_49 : decode cX14_pass 49 = .ok (.iconst 1, 1) := by decide +kernel
theorem dX14_pass_50 : decode cX14_pass 50 = .ok (.istore_n 2, 1) := by decide +kernel
theorem dX14_pass_51 : decode cX14_pass 51 = .ok (.aload_n 0, 1) := by decide +kernel
theorem dX14_pass_52 : decode cX14_pass 52 = .ok (.invokevirtual 1148, 3) := by decide +kernel
theorem dX14_pass_55 : decode cX14_pass 55 = .ok (.iload_n 1, 1) := by decide +kernel
theorem dX14_pass_56 : decode cX14_pass 56 = .ok (.bipush 10, 2) := by decide +kernel
theorem dX14_pass_58 : decode cX14_pass 58 = .ok (.if_icmp .lt 7, 3) := by decide +kernel
theorem dX14_pass_61 : decode cX14_pass 61 = .ok (.aload_n 0, 1) := by decide +kernel
theorem dX14_pass_62 : decode cX14_pass 62 = .ok (.invokevirtual 1155, 3) := by decide +kernel
theorem dX14_pass_65 : decode cX14_pass 65 = .ok (.aload_n 0, 1) := by decide +kernel
theorem dX14_pass_66 : decode cX14_pass 66 = .ok (.iload_n 3, 1) := by decide +kernel
theorem dX14_pass_67 : decode cX14_pass 67 = .ok (.invokevirtual 1133, 3) := by decide +kernel
theorem dX14_pass_70 : decode cX14_pass 70 = .ok (.istore_n 3, 1) := by decide +kernel
theorem dX14_pass_71 : decode cX14_pass 71 = .ok (.goto (-39), 3) := by decide +kernel
theorem dX14_pass_74 : decode cX14_pass 74 = .ok (.aload_n 0, 1) := by decide +kernel
theorem dX14_pass_75 : decode cX14_pass 75 = .ok (.iload_n 3, 1) := by decide +kernel
theorem dX14_pass_76 : decode cX14_pass 76 = .ok (.invokevirtual 1161, 3) := by decide +kernel
theorem dX14_pass_79 : decode cX14_pass 79 = .ok (.istore_n 3, 1) := by decide +kernel
theorem dX14_pass_80 : decode cX14_pass 80 = .ok (.goto (-48), 3) := by decide +kernel
theorem dX14_pass_83 : decode cX14_pass 83 = .ok (.iload_n 2, 1) := by decide +kernel
theorem dX14_pass_84 : decode cX14_pass 84 = .ok (.ireturn, 1) := by decide +kernel
theorem dX14_place_0 : decode cX14_place 0 = .ok (.aload_n 0, 1) := by decide +kernel
theorem dX14_place_1 : decode cX14_place 1 = .ok (.getfield 26, 3) := by decide +kernel
theorem dX14_place_4 : decode cX14_place 4 = .ok (.ireturn, 1) := by decide +kernel
theorem dX14_placesOf_0 : decode cX14_placesOf 0 = .ok (.iconst 0, 1) := by decide +kernel
theorem dX14_placesOf_1 : decode cX14_placesOf 1 = .ok (.istore_n 1, 1) := by decide +kernel
theorem dX14_placesOf_2 : decode cX14_placesOf 2 = .ok (.iconst 0, 1) := by decide +kernel
theorem dX14_placesOf_3 : decode cX14_placesOf 3 = .ok (.istore_n 2, 1) := by decide +kernel
theorem dX14_placesOf_4 : decode cX14_placesOf 4 = .ok (.iload_n 2, 1) := by decide +kernel
theorem dX14_placesOf_5 : decode cX14_placesOf 5 = .ok (.aload_n 0, 1) := by decide +kernel
theorem dX14_placesOf_6 : decode cX14_placesOf 6 = .ok (.invokevirtual 404, 3) := by decide +kernel
theorem dX14_placesOf_9 : decode cX14_placesOf 9 = .ok (.if_icmp .ge 27, 3) := by decide +kernel
theorem dX14_placesOf_12 : decode cX14_placesOf 12 = .ok (.iload_n 1, 1) := by decide +kernel
theorem dX14_placesOf_13 : decode cX14_placesOf 13 = .ok (.aload_n 0, 1) := by decide +kernel
theorem dX14_placesOf_14 : decode cX14_placesOf 14 = .ok (.iload_n 2, 1) := by decide +kernel
theorem dX14_placesOf_15 : decode cX14_placesOf 15 = .ok (.invokevirtual 408, 3) := by decide +kernel
theorem dX14_placesOf_18 : decode cX14_placesOf 18 = .ok (.bipush 74, 2) := by decide +kernel
theorem dX14_placesOf_20 : decode cX14_placesOf 20 = .ok (.if_icmp .ne 7, 3) := by decide +kernel
theorem dX14_placesOf_23 : decode cX14_placesOf 23 = .ok (.iconst 2, 1) := by decide +kernel
theorem dX14_placesOf_24 : decode cX14_placesOf 24 = .ok (.goto 4, 3) := by decide +kernel
theorem dX14_placesOf_27 : decode cX14_placesOf 27 = .ok (.iconst 1, 1) := by decide +kernel
theorem dX14_placesOf_28 : decode cX14_placesOf 28 = .ok (.iadd, 1) := by decide +kernel
theorem dX14_placesOf_29 : decode cX14_placesOf 29 = .ok (.istore_n 1, 1) := by decide +kernel
theorem dX14_placesOf_30 : decode cX14_placesOf 30 = .ok (.iinc 2 1, 3) := by decide +kernel
theorem dX14_placesOf_33 : decode cX14_placesOf 33 = .ok (.goto (-29), 3) := by decide +kernel
theorem dX14_placesOf_36 : decode cX14_placesOf 36 = .ok (.iload_n 1, 1) := by decide +kernel
theorem dX14_placesOf_37 : decode cX14_placesOf 37 = .ok (.ireturn, 1) := by decide +kernel
theorem dX14_plain_0 : decode cX14_plain 0 = .ok (.iload_n 2, 1) := by decide +kernel
theorem dX14_plain_1 : decode cX14_plain 1 = .ok (.lookupswitch 581 #[(0, 203), (1, 205), (18, 213), (20, 220), (21, 232), (22, 259), (25, 232), (54, 276), (55, 309), (58, 276), (87, 390), (88, 407), (89, 424), (90, 424), (92, 424), (95, 424), (132, 360), (133, 431), (136, 447), (145, 463), (146, 463), (147, 463), (178, 479), (179, 546)], 203) := by decide +kernel
theorem dX14_plain_204 : decode cX14_plain 204 = .ok (.iconst 1, 1) := by decide +kernel
theorem dX14_plain_205 : decode cX14_plain 205 = .ok (.ireturn, 1) := by decide +kernel
theorem dX14_plain_206 : decode cX14_plain 206 = .ok (.aload_n 0, 1) := by decide +kernel
theorem dX14_plain_207 : decode cX14_plain 207 = .ok (.lconst 0, 1) := by decide +kernel
theorem dX14_plain_208 : decode cX14_plain 208 = .ok (.iconst 1, 1) := by decide +kernel
theorem dX14_plain_209 : decode cX14_plain 209 = .ok (.invokevirtual 1003, 3) := by decide +kernel
theorem dX14_plain_212 : decode cX14_plain 212 = .ok (.iconst 1, 1) := by decide +kernel
theorem dX14_plain_213 : decode cX14_plain 213 = .ok (.ireturn, 1) := by decide +kernel
theorem dX14_plain_214 : decode cX14_plain 214 = .ok (.aload_n 0, 1) := by decide +kernel
theorem dX14_plain_215 : decode cX14_plain 215 = .ok (.iload_n 3, 1) := by decide +kernel
theorem dX14_plain_216 : decode cX14_plain 216 = .ok (.invokevirtual 1056, 3) := by decide +kernel
theorem dX14_plain_219 : decode cX14_plain 219 = .ok (.iconst 1, 1) := by decide +kernel
theorem dX14_plain_220 : decode cX14_plain 220 = .ok (.ireturn, 1) := by decide +kernel
theorem dX14_plain_221 : decode cX14_plain 221 = .ok (.aload_n 0, 1) := by decide +kernel
theorem dX14_plain_222 : decode cX14_plain 222 = .ok (.aload_n 0, 1) := by decide +kernel
theorem dX14_plain_223 : decode cX14_plain 223 = .ok (.iload_n 1, 1) := by decide +kernel
theorem dX14_plain_224 : decode cX14_plain 224 = .ok (.invokevirtual 886, 3) := by decide +kernel
theorem dX14_plain_227 : decode cX14_plain 227 = .ok (.iconst 2, 1) := by decide +kernel
theorem dX14_plain_228 : decode cX14_plain 228 = .ok (.invokevirtual 1003, 3) := by decide +kernel
theorem dX14_plain_231 : decode cX14_plain 231 = .ok (.iconst 1, 1) := by decide +kernel
theorem dX14_plain_232 : decode cX14_plain 232 = .ok (.ireturn, 1) := by decide +kernel
theorem dX14_plain_233 : decode cX14_plain 233 = .ok (.aload_n 0, 1) := by decide +kernel
theorem dX14_plain_234 : decode cX14_plain 234 = .ok (.aload_n 0, 1) := by decide +kernel
theorem dX14_plain_235 : decode cX14_plain 235 = .ok (.getfield 170, 3) := by decide +kernel
theorem dX14_plain_238 : decode cX14_plain 238 = .ok (.aload_n 0, 1) := by decide +kernel
theorem dX14_plain_239 : decode cX14_plain 239 = .ok (.iload_n 3, 1) := by decide +kernel
theorem dX14_plain_240 : decode cX14_plain 240 = .ok (.invokevirtual 1034, 3) := by decide +kernel
theorem dX14_plain_243 : decode cX14_plain 243 = .ok (.laload, 1) := by decide +kernel
theorem dX14_plain_244 : decode cX14_plain 244 = .ok (.aload_n 0, 1) := by decide +kernel
theorem dX14_plain_245 : decode cX14_plain 245 = .ok (.getfield 176, 3) := by decide +kernel
theorem dX14_plain_248 : decode cX14_plain 248 = .ok (.aload_n 0, 1) := by decide +kernel
theorem dX14_plain_249 : decode cX14_plain 249 = .ok (.iload_n 3, 1) := by decide +kernel
theorem dX14_plain_250 : decode cX14_plain 250 = .ok (.invokevirtual 1034, 3) := by decide +kernel
theorem dX14_plain_253 : decode cX14_plain 253 = .ok (.baload, 1) := by decide +kernel
theorem dX14_plain_254 : decode cX14_plain 254 = .ok (.iconst 1, 1) := by decide +kernel
theorem dX14_plain_255 : decode cX14_plain 255 = .ok (.invokevirtual 996, 3) := by decide +kernel
theorem dX14_plain_258 : decode cX14_plain 258 = .ok (.iconst 1, 1) := by decide +kernel
theorem dX14_plain_259 : decode cX14_plain 259 = .ok (.ireturn, 1) := by decide +kernel
theorem dX14_plain_260 : decode cX14_plain 260 = .ok (.aload_n 0, 1) := by decide +kernel
theorem dX14_plain_261 : decode cX14_plain 261 = .ok (.aload_n 0, 1) := by decide +kernel
theorem dX14_plain_262 : decode cX14_plain 262 = .ok (.getfield 170, 3) := by decide +kernel
theorem dX14_plain_265 : decode cX14_plain 265 = .ok (.aload_n 0, 1) := by decide +kernel
theorem dX14_plain_266 : decode cX14_plain 266 = .ok (.iload_n 3, 1) := by decide +kernel
theorem dX14_plain_267 : decode cX14_plain 267 = .ok (.invokevirtual 1034, 3) := by decide +kernel
theorem dX14_plain_270 : decode cX14_plain 270 = .ok (.laload, 1) := by decide +kernel
theorem dX14_plain_271 : decode cX14_plain 271 = .ok (.iconst 2, 1) := by decide +kernel
theorem dX14_plain_272 : decode cX14_plain 272 = .ok (.invokevirtual 1003, 3) := by decide +kernel
theorem dX14_plain_275 : decode cX14_plain 275 = .ok (.iconst 1, 1) := by decide +kernel
theorem dX14_plain_276 : decode cX14_plain 276 = .ok (.ireturn, 1) := by decide +kernel
theorem dX14_plain_277 : decode cX14_plain 277 = .ok (.aload_n 0, 1) := by decide +kernel
theorem dX14_plain_278 : decode cX14_plain 278 = .ok (.getfield 176, 3) := by decide +kernel
theorem dX14_plain_281 : decode cX14_plain 281 = .ok (.aload_n 0, 1) := by decide +kernel
theorem dX14_plain_282 : decode cX14_plain 282 = .ok (.iload_n 3, 1) := by decide +kernel
theorem dX14_plain_283 : decode cX14_plain 283 = .ok (.invokevirtual 1034, 3) := by decide +kernel
theorem dX14_plain_286 : decode cX14_plain 286 = .ok (.aload_n 0, 1) := by decide +kernel
theorem dX14_plain_287 : decode cX14_plain 287 = .ok (.iconst 1, 1) := by decide +kernel
theorem dX14_plain_288 : decode cX14_plain 288 = .ok (.invokevirtual 1043, 3) := by decide +kernel
theorem dX14_plain_291 : decode cX14_plain 291 = .ok (.i2b, 1) := by decide +kernel
theorem dX14_plain_292 : decode cX14_plain 292 = .ok (.bastore, 1) := by decide +kernel
theorem dX14_plain_293 : decode cX14_plain 293 = .ok (.aload_n 0, 1) := by decide +kernel
theorem dX14_plain_294 : decode cX14_plain 294 = .ok (.getfield 170, 3) := by decide +kernel
theorem dX14_plain_297 : decode cX14_plain 297 = .ok (.aload_n 0, 1) := by decide +kernel
theorem dX14_plain_298 : decode cX14_plain 298 = .ok (.iload_n 3, 1) := by decide +kernel
theorem dX14_plain_299 : decode cX14_plain 299 = .ok (.invokevirtual 1034, 3) := by decide +kernel
theorem dX14_plain_302 : decode cX14_plain 302 = .ok (.aload_n 0, 1) := by decide +kernel
theorem dX14_plain_303 : decode cX14_plain 303 = .ok (.iconst 1, 1) := by decide +kernel
theorem dX14_plain_304 : decode cX14_plain 304 = .ok (.invokevirtual 1000, 3) := by decide +kernel
theorem dX14_plain_307 : decode cX14_plain 307 = .ok (.lastore, 1) := by decide +kernel
theorem dX14_plain_308 : decode cX14_plain 308 = .ok (.iconst 1, 1) := by decide +kernel
theorem dX14_plain_309 : decode cX14_plain 309 = .ok (.ireturn, 1) := by decide +kernel
theorem dX14_plain_310 : decode cX14_plain 310 = .ok (.aload_n 0, 1) := by decide +kernel
theorem dX14_plain_311 : decode cX14_plain 311 = .ok (.getfield 176, 3) := by decide +kernel
theorem dX14_plain_314 : decode cX14_plain 314 = .ok (.aload_n 0, 1) := by decide +kernel
theorem dX14_plain_315 : decode cX14_plain 315 = .ok (.iload_n 3, 1) := by decide +kernel
theorem dX14_plain_316 : decode cX14_plain 316 = .ok (.invokevirtual 1034, 3) := by decide +kernel
theorem dX14_plain_319 : decode cX14_plain 319 = .ok (.aload_n 0, 1) := by decide +kernel
theorem dX14_plain_320 : decode cX14_plain 320 = .ok (.iconst 2, 1) := by decide +kernel
theorem dX14_plain_321 : decode cX14_plain 321 = .ok (.invokevirtual 1043, 3) := by decide +kernel
theorem dX14_plain_324 : decode cX14_plain 324 = .ok (.i2b, 1) := by decide +kernel
theorem dX14_plain_325 : decode cX14_plain 325 = .ok (.bastore, 1) := by decide +kernel
theorem dX14_plain_326 : decode cX14_plain 326 = .ok (.aload_n 0, 1) := by decide +kernel
theorem dX14_plain_327 : decode cX14_plain 327 = .ok (.getfield 176, 3) := by decide +kernel
theorem dX14_plain_330 : decode cX14_plain 330 = .ok (.aload_n 0, 1) := by decide +kernel
theorem dX14_plain_331 : decode cX14_plain 331 = .ok (.iload_n 3, 1) := by decide +kernel
theorem dX14_plain_332 : decode cX14_plain 332 = .ok (.iconst 1, 1) := by decide +kernel
theorem dX14_plain_333 : decode cX14_plain 333 = .ok (.iadd, 1) := by decide +kernel
theorem dX14_plain_334 : decode cX14_plain 334 = .ok (.invokevirtual 1034, 3) := by decide +kernel
theorem dX14_plain_337 : decode cX14_plain 337 = .ok (.aload_n 0, 1) := by decide +kernel
theorem dX14_plain_338 : decode cX14_plain 338 = .ok (.iconst 1, 1) := by decide +kernel
theorem dX14_plain_339 : decode cX14_plain 339 = .ok (.invokevirtual 1043, 3) := by decide +kernel
theorem dX14_plain_342 : decode cX14_plain 342 = .ok (.i2b, 1) := by decide +kernel
theorem dX14_plain_343 : decode cX14_plain 343 = .ok (.bastore, 1) := by decide +kernel
theorem dX14_plain_344 : decode cX14_plain 344 = .ok (.aload_n 0, 1) := by decide +kernel
theorem dX14_plain_345 : decode cX14_plain 345 = .ok (.getfield 170, 3) := by decide +kernel
theorem dX14_plain_348 : decode cX14_plain 348 = .ok (.aload_n 0, 1) := by decide +kernel
theorem dX14_plain_349 : decode cX14_plain 349 = .ok (.iload_n 3, 1) := by decide +kernel
theorem dX14_plain_350 : decode cX14_plain 350 = .ok (.invokevirtual 1034, 3) := by decide +kernel
theorem dX14_plain_353 : decode cX14_plain 353 = .ok (.aload_n 0, 1) := by decide +kernel
theorem dX14_plain_354 : decode cX14_plain 354 = .ok (.iconst 2, 1) := by decide +kernel
theorem dX14_plain_355 : decode cX14_plain 355 = .ok (.invokevirtual 1000, 3) := by decide +kernel
theorem dX14_plain_358 : decode cX14_plain 358 = .ok (.lastore, 1) := by decide +kernel
theorem dX14_plain_359 : decode cX14_plain 359 = .ok (.iconst 1, 1) := by decide +kernel
theorem dX14_plain_360 : decode cX14_plain 360 = .ok (.ireturn, 1) := by decide +kernel
theorem dX14_plain_361 : decode cX14_plain 361 = .ok (.aload_n 0, 1) := by decide +kernel
theorem dX14_plain_362 : decode cX14_plain 362 = .ok (.getfield 170, 3) := by decide +kernel
theorem dX14_plain_365 : decode cX14_plain 365 = .ok (.aload_n 0, 1) := by decide +kernel
theorem dX14_plain_366 : decode cX14_plain 366 = .ok (.iload_n 3, 1) := by decide +kernel
theorem dX14_plain_367 : decode cX14_plain 367 = .ok (.invokevirtual 1034, 3) := by decide +kernel
theorem dX14_plain_370 : decode cX14_plain 370 = .ok (.aload_n 0, 1) := by decide +kernel
theorem dX14_plain_371 : decode cX14_plain 371 = .ok (.getfield 170, 3) := by decide +kernel
theorem dX14_plain_374 : decode cX14_plain 374 = .ok (.aload_n 0, 1) := by decide +kernel
theorem dX14_plain_375 : decode cX14_plain 375 = .ok (.iload_n 3, 1) := by decide +kernel
theorem dX14_plain_376 : decode cX14_plain 376 = .ok (.invokevirtual 1034, 3) := by decide +kernel
theorem dX14_plain_379 : decode cX14_plain 379 = .ok (.laload, 1) := by decide +kernel
theorem dX14_plain_380 : decode cX14_plain 380 = .ok (.l2i, 1) := by decide +kernel
theorem dX14_plain_381 : decode cX14_plain 381 = .ok (.aload_n 0, 1) := by decide +kernel
theorem dX14_plain_382 : decode cX14_plain 382 = .ok (.iload_n 1, 1) := by decide +kernel
theorem dX14_plain_383 : decode cX14_plain 383 = .ok (.invokevirtual 694, 3) := by decide +kernel
theorem dX14_plain_386 : decode cX14_plain 386 = .ok (.iadd, 1) := by decide +kernel
theorem dX14_plain_387 : decode cX14_plain 387 = .ok (.i2l, 1) := by decide +kernel
theorem dX14_plain_388 : decode cX14_plain 388 = .ok (.lastore, 1) := by decide +kernel
theorem dX14_plain_389 : decode cX14_plain 389 = .ok (.iconst 1, 1) := by decide +kernel
theorem dX14_plain_390 : decode cX14_plain 390 = .ok (.ireturn, 1) := by decide +kernel
theorem dX14_plain_391 : decode cX14_plain 391 = .ok (.aload_n 0, 1) := by decide +kernel
theorem dX14_plain_392 : decode cX14_plain 392 = .ok (.getfield 167, 3) := by decide +kernel
theorem dX14_plain_395 : decode cX14_plain 395 = .ok (.aload_n 0, 1) := by decide +kernel
theorem dX14_plain_396 : decode cX14_plain 396 = .ok (.getfield 974, 3) := by decide +kernel
theorem dX14_plain_399 : decode cX14_plain 399 = .ok (.iconst 1, 1) := by decide +kernel
theorem dX14_plain_400 : decode cX14_plain 400 = .ok (.isub, 1) := by decide +kernel
theorem dX14_plain_401 : decode cX14_plain 401 = .ok (.dup2, 1) := by decide +kernel
theorem dX14_plain_402 : decode cX14_plain 402 = .ok (.iaload, 1) := by decide +kernel
theorem dX14_plain_403 : decode cX14_plain 403 = .ok (.iconst 1, 1) := by decide +kernel
theorem dX14_plain_404 : decode cX14_plain 404 = .ok (.isub, 1) := by decide +kernel
theorem dX14_plain_405 : decode cX14_plain 405 = .ok (.iastore, 1) := by decide +kernel
theorem dX14_plain_406 : decode cX14_plain 406 = .ok (.iconst 1, 1) := by decide +kernel
theorem dX14_plain_407 : decode cX14_plain 407 = .ok (.ireturn, 1) := by decide +kernel
theorem dX14_plain_408 : decode cX14_plain 408 = .ok (.aload_n 0, 1) := by decide +kernel
theorem dX14_plain_409 : decode cX14_plain 409 = .ok (.getfield 167, 3) := by decide +kernel
theorem dX14_plain_412 : decode cX14_plain 412 = .ok (.aload_n 0, 1) := by decide +kernel
theorem dX14_plain_413 : decode cX14_plain 413 = .ok (.getfield 974, 3) := by decide +kernel
theorem dX14_plain_416 : decode cX14_plain 416 = .ok (.iconst 1, 1) := by decide +kernel
theorem dX14_plain_417 : decode cX14_plain 417 = .ok (.isub, 1) := by decide +kernel
theorem dX14_plain_418 : decode cX14_plain 418 = .ok (.dup2, 1) := by decide +kernel
theorem dX14_plain_419 : decode cX14_plain 419 = .ok (.iaload, 1) := by decide +kernel
theorem dX14_plain_420 : decode cX14_plain 420 = .ok (.iconst 2, 1) := by decide +kernel
theorem dX14_plain_421 : decode cX14_plain 421 = .ok (.isub, 1) := by decide +kernel
theorem dX14_plain_422 : decode cX14_plain 422 = .ok (.iastore, 1) := by decide +kernel
theorem dX14_plain_423 : decode cX14_plain 423 = .ok (.iconst 1, 1) := by decide +kernel
theorem dX14_plain_424 : decode cX14_plain 424 = .ok (.ireturn, 1) := by decide +kernel
theorem dX14_plain_425 : decode cX14_plain 425 = .ok (.aload_n 0, 1) := by decide +kernel
theorem dX14_plain_426 : decode cX14_plain 426 = .ok (.iload_n 2, 1) := by decide +kernel
theorem dX14_plain_427 : decode cX14_plain 427 = .ok (.invokevirtual 1073, 3) := by decide +kernel
theorem dX14_plain_430 : decode cX14_plain 430 = .ok (.iconst 1, 1) := by decide +kernel
theorem dX14_plain_431 : decode cX14_plain 431 = .ok (.ireturn, 1) := by decide +kernel
theorem dX14_plain_432 : decode cX14_plain 432 = .ok (.aload_n 0, 1) := by decide +kernel
theorem dX14_plain_433 : decode cX14_plain 433 = .ok (.iload_n 2, 1) := by decide +kernel
theorem dX14_plain_434 : decode cX14_plain 434 = .ok (.aload_n 0, 1) := by decide +kernel
theorem dX14_plain_435 : decode cX14_plain 435 = .ok (.iconst 1, 1) := by decide +kernel
theorem dX14_plain_436 : decode cX14_plain 436 = .ok (.invokevirtual 1000, 3) := by decide +kernel
theorem dX14_plain_439 : decode cX14_plain 439 = .ok (.invokestatic 1076, 3) := by decide +kernel
theorem dX14_plain_442 : decode cX14_plain 442 = .ok (.iconst 2, 1) := by decide +kernel
theorem dX14_plain_443 : decode cX14_plain 443 = .ok (.invokevirtual 1003, 3) := by decide +kernel
theorem dX14_plain_446 : decode cX14_plain 446 = .ok (.iconst 1, 1) := by decide +kernel
theorem dX14_plain_447 : decode cX14_plain 447 = .ok (.ireturn, 1) := by decide +kernel
theorem dX14_plain_448 : decode cX14_plain 448 = .ok (.aload_n 0, 1) := by decide +kernel
theorem dX14_plain_449 : decode cX14_plain 449 = .ok (.iload_n 2, 1) := by decide +kernel
theorem dX14_plain_450 : decode cX14_plain 450 = .ok (.aload_n 0, 1) := by decide +kernel
theorem dX14_plain_451 : decode cX14_plain 451 = .ok (.iconst 2, 1) := by decide +kernel
theorem dX14_plain_452 : decode cX14_plain 452 = .ok (.invokevirtual 1000, 3) := by decide +kernel
theorem dX14_plain_455 : decode cX14_plain 455 = .ok (.invokestatic 1076, 3) := by decide +kernel
theorem dX14_plain_458 : decode cX14_plain 458 = .ok (.l2i, 1) := by decide +kernel
theorem dX14_plain_459 : decode cX14_plain 459 = .ok (.invokevirtual 1056, 3) := by decide +kernel
theorem dX14_plain_462 : decode cX14_plain 462 = .ok (.iconst 1, 1) := by decide +kernel
theorem dX14_plain_463 : decode cX14_plain 463 = .ok (.ireturn, 1) := by decide +kernel
theorem dX14_plain_464 : decode cX14_plain 464 = .ok (.aload_n 0, 1) := by decide +kernel
theorem dX14_plain_465 : decode cX14_plain 465 = .ok (.iload_n 2, 1) := by decide +kernel
theorem dX14_plain_466 : decode cX14_plain 466 = .ok (.aload_n 0, 1) := by decide +kernel
theorem dX14_plain_467 : decode cX14_plain 467 = .ok (.iconst 1, 1) := by decide +kernel
theorem dX14_plain_468 : decode cX14_plain 468 = .ok (.invokevirtual 1000, 3) := by decide +kernel
theorem dX14_plain_471 : decode cX14_plain 471 = .ok (.invokestatic 1076, 3) := by decide +kernel
theorem dX14_plain_474 : decode cX14_plain 474 = .ok (.l2i, 1) := by decide +kernel
theorem dX14_plain_475 : decode cX14_plain 475 = .ok (.invokevirtual 1056, 3) := by decide +kernel
theorem dX14_plain_478 : decode cX14_plain 478 = .ok (.iconst 1, 1) := by decide +kernel
theorem dX14_plain_479 : decode cX14_plain 479 = .ok (.ireturn, 1) := by decide +kernel
theorem dX14_plain_480 : decode cX14_plain 480 = .ok (.aload_n 0, 1) := by decide +kernel
theorem dX14_plain_481 : decode cX14_plain 481 = .ok (.getfield 961, 3) := by decide +kernel
theorem dX14_plain_484 : decode cX14_plain 484 = .ok (.getfield 606, 3) := by decide +kernel
theorem dX14_plain_487 : decode cX14_plain 487 = .ok (.iload_n 3, 1) := by decide +kernel
theorem dX14_plain_488 : decode cX14_plain 488 = .ok (.aaload, 1) := by decide +kernel
theorem dX14_plain_489 : decode cX14_plain 489 = .ok (.ldc_w 706, 3) := by decide +kernel
theorem dX14_plain_492 : decode cX14_plain 492 = .ok (.invokevirtual 799, 3) := by decide +kernel
theorem dX14_plain_495 : decode cX14_plain 495 = .ok (.ifCond .eq 17, 3) := by decide +kernel
theorem dX14_plain_498 : decode cX14_plain 498 = .ok (.aload_n 0, 1) := by decide +kernel
theorem dX14_plain_499 : decode cX14_plain 499 = .ok (.aload_n 0, 1) := by decide +kernel
theorem dX14_plain_500 : decode cX14_plain 500 = .ok (.getfield 146, 3) := by decide +kernel
theorem dX14_plain_503 : decode cX14_plain 503 = .ok (.iload_n 3, 1) := by decide +kernel
theorem dX14_plain_504 : decode cX14_plain 504 = .ok (.laload, 1) := by decide +kernel
theorem dX14_plain_505 : decode cX14_plain 505 = .ok (.l2i, 1) := by decide +kernel
theorem dX14_plain_506 : decode cX14_plain 506 = .ok (.invokevirtual 1056, 3) := by decide +kernel
theorem dX14_plain_509 : decode cX14_plain 509 = .ok (.goto 36, 3) := by decide +kernel
theorem dX14_plain_512 : decode cX14_plain 512 = .ok (.aload_n 0, 1) := by decide +kernel
theorem dX14_plain_513 : decode cX14_plain 513 = .ok (.aload_n 0, 1) := by decide +kernel
theorem dX14_plain_514 : decode cX14_plain 514 = .ok (.getfield 146, 3) := by decide +kernel
theorem dX14_plain_517 : decode cX14_plain 517 = .ok (.iload_n 3, 1) := by decide +kernel
theorem dX14_plain_518 : decode cX14_plain 518 = .ok (.laload, 1) := by decide +kernel
theorem dX14_plain_519 : decode cX14_plain 519 = .ok (.aload_n 0, 1) := by decide +kernel
theorem dX14_plain_520 : decode cX14_plain 520 = .ok (.getfield 961, 3) := by decide +kernel
theorem dX14_plain_523 : decode cX14_plain 523 = .ok (.getfield 606, 3) := by decide +kernel
theorem dX14_plain_526 : decode cX14_plain 526 = .ok (.iload_n 3, 1) := by decide +kernel
theorem dX14_plain_527 : decode cX14_plain 527 = .ok (.aaload, 1) := by decide +kernel
theorem dX14_plain_528 : decode cX14_plain 528 = .ok (.ldc_w 711, 3) := by decide +kernel
theorem dX14_plain_531 : decode cX14_plain 531 = .ok (.invokevirtual 799, 3) := by decide +kernel
theorem dX14_plain_534 : decode cX14_plain 534 = .ok (.ifCond .eq 7, 3) := by decide +kernel
theorem dX14_plain_537 : decode cX14_plain 537 = .ok (.iconst 2, 1) := by decide +kernel
theorem dX14_plain_538 : decode cX14_plain 538 = .ok (.goto 4, 3) := by decide +kernel
theorem dX14_plain_541 : decode cX14_plain 541 = .ok (.iconst 1, 1) := by decide +kernel
theorem dX14_plain_542 : decode cX14_plain 542 = .ok (.invokevirtual 1003, 3) := by decide +kernel
theorem dX14_plain_545 : decode cX14_plain 545 = .ok (.iconst 1, 1) := by decide +kernel
theorem dX14_plain_546 : decode cX14_plain 546 = .ok (.ireturn, 1) := by decide +kernel
theorem dX14_plain_547 : decode cX14_plain 547 = .ok (.aload_n 0, 1) := by decide +kernel
theorem dX14_plain_548 : decode cX14_plain 548 = .ok (.getfield 146, 3) := by decide +kernel
theorem dX14_plain_551 : decode cX14_plain 551 = .ok (.iload_n 3, 1) := by decide +kernel
theorem dX14_plain_552 : decode cX14_plain 552 = .ok (.aload_n 0, 1) := by decide +kernel
theorem dX14_plain_553 : decode cX14_plain 553 = .ok (.aload_n 0, 1) := by decide +kernel
theorem dX14_plain_554 : decode cX14_plain 554 = .ok (.getfield 961, 3) := by decide +kernel
theorem dX14_plain_557 : decode cX14_plain 557 = .ok (.getfield 606, 3) := by decide +kernel
theorem dX14_plain_560 : decode cX14_plain 560 = .ok (.iload_n 3, 1) := by decide +kernel
theorem dX14_plain_561 : decode cX14_plain 561 = .ok (.aaload, 1) := by decide +kernel
theorem dX14_plain_562 : decode cX14_plain 562 = .ok (.ldc_w 711, 3) := by decide +kernel
theorem dX14_plain_565 : decode cX14_plain 565 = .ok (.invokevirtual 799, 3) := by decide +kernel
theorem dX14_plain_568 : decode cX14_plain 568 = .ok (.ifCond .eq 7, 3) := by decide +kernel
theorem dX14_plain_571 : decode cX14_plain 571 = .ok (.iconst 2, 1) := by decide +kernel
theorem dX14_plain_572 : decode cX14_plain 572 = .ok (.goto 4, 3) := by decide +kernel
theorem dX14_plain_575 : decode cX14_plain 575 = .ok (.iconst 1, 1) := by decide +kernel
theorem dX14_plain_576 : decode cX14_plain 576 = .ok (.invokevirtual 1000, 3) := by decide +kernel
theorem dX14_plain_579 : decode cX14_plain 579 = .ok (.lastore, 1) := by decide +kernel
theorem dX14_plain_580 : decode cX14_plain 580 = .ok (.iconst 1, 1) := by decide +kernel
theorem dX14_plain_581 : decode cX14_plain 581 = .ok (.ireturn, 1) := by decide +kernel
theorem dX14_plain_582 : decode cX14_plain 582 = .ok (.aload_n 0, 1) := by decide +kernel
theorem dX14_plain_583 : decode cX14_plain 583 = .ok (.iload_n 2, 1) := by decide +kernel
theorem dX14_plain_584 : decode cX14_plain 584 = .ok (.invokevirtual 1080, 3) := by decide +kernel
theorem dX14_plain_587 : decode cX14_plain 587 = .ok (.ireturn, 1) := by decide +kernel
theorem dX14_point_0 : decode cX14_point 0 = .ok (.aload_n 0, 1) := by decide +kernel
theorem dX14_point_1 : decode cX14_point 1 = .ok (.iload_n 1, 1) := by decide +kernel
theorem dX14_point_2 : decode cX14_point 2 = .ok (.bipush 16, 2) := by decide +kernel
theorem dX14_point_4 : decode cX14_point 4 = .ok (.aload_n 0, 1) := by decide +kernel
theorem dX14_point_5 : decode cX14_point 5 = .ok (.getfield 427, 3) := by decide +kernel
theorem dX14_point_8 : decode cX14_point 8 = .ok (.iload_n 2, 1) := by decide +kernel
theorem dX14_point_9 : decode cX14_point 9 = .ok (.iadd, 1) := by decide +kernel
theorem dX14_point_10 : decode cX14_point 10 = .ok (.invokevirtual 325, 3) := by decide +kernel
theorem dX14_point_13 : decode cX14_point 13 = .ok (.return_, 1) := by decide +kernel
theorem dX14_pointing_0 : decode cX14_pointing 0 = .ok (.aload_n 0, 1) := by decide +kernel
theorem dX14_pointing_1 : decode cX14_pointing 1 = .ok (.iload_n 1, 1) := by decide +kernel
theorem dX14_pointing_2 : decode cX14_pointing 2 = .ok (.invokevirtual 504, 3) := by decide +kernel
theorem dX14_pointing_5 : decode cX14_pointing 5 = .ok (.aload_n 0, 1) := by decide +kernel
theorem dX14_pointing_6 : decode cX14_pointing 6 = .ok (.aload_n 0, 1) := by decide +kernel
theorem dX14_pointing_7 : decode cX14_pointing 7 = .ok (.getfield 59, 3) := by decide +kernel
theorem dX14_pointing_10 : decode cX14_pointing 10 = .ok (.iload_n 1, 1) := by decide +kernel
theorem dX14_pointing_11 : decode cX14_pointing 11 = .ok (.iaload, 1) := by decide +kernel
theorem dX14_pointing_12 : decode cX14_pointing 12 = .ok (.putfield 469, 3) := by decide +kernel
theorem dX14_pointing_15 : decode cX14_pointing 15 = .ok (.aload_n 2, 1) := by decide +kernel
theorem dX14_pointing_16 : decode cX14_pointing 16 = .ok (.getfield 507, 3) := by decide +kernel
theorem dX14_pointing_19 : decode cX14_pointing 19 = .ok (.iload_n 1, 1) := by decide +kernel
theorem dX14_pointing_20 : decode cX14_pointing 20 = .ok (.aload_n 0, 1) := by decide +kernel
theorem dX14_pointing_21 : decode cX14_pointing 21 = .ok (.getfield 459, 3) := by decide +kernel
theorem dX14_pointing_24 : decode cX14_pointing 24 = .ok (.iastore, 1) := by decide +kernel
theorem dX14_pointing_25 : decode cX14_pointing 25 = .ok (.aload_n 2, 1) := by decide +kernel
theorem dX14_pointing_26 : decode cX14_pointing 26 = .ok (.getfield 510, 3) := by decide +kernel
theorem dX14_pointing_29 : decode cX14_pointing 29 = .ok (.iload_n 1, 1) := by decide +kernel
theorem dX14_pointing_30 : decode cX14_pointing 30 = .ok (.aload_n 0, 1) := by decide +kernel
theorem dX14_pointing_31 : decode cX14_pointing 31 = .ok (.getfield 453, 3) := by decide +kernel
theorem dX14_pointing_34 : decode cX14_pointing 34 = .ok (.iastore, 1) := by decide +kernel
theorem dX14_pointing_35 : decode cX14_pointing 35 = .ok (.aload_n 2, 1) := by decide +kernel
theorem dX14_pointing_36 : decode cX14_pointing 36 = .ok (.getfield 513, 3) := by decide +kernel
theorem dX14_pointing_39 : decode cX14_pointing 39 = .ok (.iload_n 1, 1) := by decide +kernel
theorem dX14_pointing_40 : decode cX14_pointing 40 = .ok (.aload_n 0, 1) := by decide +kernel
theorem dX14_pointing_41 : decode cX14_pointing 41 = .ok (.getfield 516, 3) := by decide +kernel
theorem dX14_pointing_44 : decode cX14_pointing 44 = .ok (.iastore, 1) := by decide +kernel
theorem dX14_pointing_45 : decode cX14_pointing 45 = .ok (.aload_n 2, 1) := by decide +kernel
theorem dX14_pointing_46 : decode cX14_pointing 46 = .ok (.getfield 519, 3) := by decide +kernel
theorem dX14_pointing_49 : decode cX14_pointing 49 = .ok (.iload_n 1, 1) := by decide +kernel
theorem dX14_pointing_50 : decode cX14_pointing 50 = .ok (.aload_n 0, 1) := by decide +kernel
theorem dX14_pointing_51 : decode cX14_pointing 51 = .ok (.getfield 71, 3) := by decide +kernel
theorem dX14_pointing_54 : decode cX14_pointing 54 = .ok (.iload_n 1, 1) := by decide +kernel
theorem dX14_pointing_55 : decode cX14_pointing 55 = .ok (.iaload, 1) := by decide +kernel
theorem dX14_pointing_56 : decode cX14_pointing 56 = .ok (.iastore, 1) := by decide +kernel
theorem dX14_pointing_57 : decode cX14_pointing 57 = .ok (.iconst 0, 1) := by decide +kernel
theorem dX14_pointing_58 : decode cX14_pointing 58 = .ok (.istore_n 3, 1) := by decide +kernel
theorem dX14_pointing_59 : decode cX14_pointing 59 = .ok (.iload_n 3, 1) := by decide +kernel
theorem dX14_pointing_60 : decode cX14_pointing 60 = .ok (.aload_n 0, 1) := by decide +kernel
theorem dX14_pointing_61 : decode cX14_pointing 61 = .ok (.getfield 436, 3) := by decide +kernel
theorem dX14_pointing_64 : decode cX14_pointing 64 = .ok (.if_icmp .ge 23, 3) := by decide +kernel
theorem dX14_pointing_67 : decode cX14_pointing 67 = .ok (.aload_n 0, 1) := by decide +kernel
theorem dX14_pointing_68 : decode cX14_pointing 68 = .ok (.getfield 74, 3) := by decide +kernel
theorem dX14_pointing_71 : decode cX14_pointing 71 = .ok (.iload_n 3, 1) := by decide +kernel
theorem dX14_pointing_72 : decode cX14_pointing 72 = .ok (.iaload, 1) := by decide +kernel
theorem dX14_pointing_73 : decode cX14_pointing 73 = .ok (.ifCond .lt 8, 3) := by decide +kernel
theorem dX14_pointing_76 : decode cX14_pointing 76 = .ok (.aload_n 0, 1) := by decide +kernel
theorem dX14_pointing_77 : decode cX14_pointing 77 = .ok (.iload_n 3, 1) := by decide +kernel
theorem dX14_pointing_78 : decode cX14_pointing 78 = .ok (.invokevirtual 522, 3) := by decide +kernel
theorem dX14_pointing_81 : decode cX14_pointing 81 = .ok (.iinc 3 1, 3) := by decide +kernel
theorem dX14_pointing_84 : decode cX14_pointing 84 = .ok (.goto (-25), 3) := by decide +kernel
theorem dX14_pointing_87 : decode cX14_pointing 87 = .ok (.iconst 0, 1) := by decide +kernel
theorem dX14_pointing_88 : decode cX14_pointing 88 = .ok (.istore_n 3, 1) := by decide +kernel
theorem dX14_pointing_89 : decode cX14_pointing 89 = .ok (.iload_n 3, 1) := by decide +kernel
theorem dX14_pointing_90 : decode cX14_pointing 90 = .ok (.aload_n 0, 1) := by decide +kernel
theorem dX14_pointing_91 : decode cX14_pointing 91 = .ok (.getfield 71, 3) := by decide +kernel
theorem dX14_pointing_94 : decode cX14_pointing 94 = .ok (.iload_n 1, 1) := by decide +kernel
theorem dX14_pointing_95 : decode cX14_pointing 95 = .ok (.iaload, 1) := by decide +kernel
theorem dX14_pointing_96 : decode cX14_pointing 96 = .ok (.if_icmp .ge 24, 3) := by decide +kernel
theorem dX14_pointing_99 : decode cX14_pointing 99 = .ok (.aload_n 0, 1) := by decide +kernel
theorem dX14_pointing_100 : decode cX14_pointing 100 = .ok (.aload_n 0, 1) := by decide +kernel
theorem dX14_pointing_101 : decode cX14_pointing 101 = .ok (.getfield 68, 3) := by decide +kernel
theorem dX14_pointing_104 : decode cX14_pointing 104 = .ok (.iload_n 1, 1) := by decide +kernel
theorem dX14_pointing_105 : decode cX14_pointing 105 = .ok (.iaload, 1) := by decide +kernel
theorem dX14_pointing_106 : decode cX14_pointing 106 = .ok (.bipush 8, 2) := by decide +kernel
theorem dX14_pointing_108 : decode cX14_pointing 108 = .ok (.iload_n 3, 1) := by decide +kernel
theorem dX14_pointing_109 : decode cX14_pointing 109 = .ok (.imul, 1) := by decide +kernel
theorem dX14_pointing_110 : decode cX14_pointing 110 = .ok (.iadd, 1) := by decide +kernel
theorem dX14_pointing_111 : decode cX14_pointing 111 = .ok (.invokevirtual 525, 3) := by decide +kernel
theorem dX14_pointing_114 : decode cX14_pointing 114 = .ok (.iinc 3 1, 3) := by decide +kernel
theorem dX14_pointing_117 : decode cX14_pointing 117 = .ok (.goto (-28), 3) := by decide +kernel
theorem dX14_pointing_120 : decode cX14_pointing 120 = .ok (.return_, 1) := by decide +kernel
theorem dX14_pull_0 : decode cX14_pull 0 = .ok (.aload_n 0, 1) := by decide +kernel
theorem dX14_pull_1 : decode cX14_pull 1 = .ok (.dup, 1) := by decide +kernel
theorem dX14_pull_2 : decode cX14_pull 2 = .ok (.getfield 780, 3) := by decide +kernel
theorem dX14_pull_5 : decode cX14_pull 5 = .ok (.iconst 1, 1) := by decide +kernel
theorem dX14_pull_6 : decode cX14_pull 6 = .ok (.isub, 1) := by decide +kernel
theorem dX14_pull_7 : decode cX14_pull 7 = .ok (.putfield 780, 3) := by decide +kernel
theorem dX14_pull_10 : decode cX14_pull 10 = .ok (.aload_n 0, 1) := by decide +kernel
theorem dX14_pull_11 : decode cX14_pull 11 = .ok (.getfield 102, 3) := by decide +kernel
theorem dX14_pull_14 : decode cX14_pull 14 = .ok (.aload_n 0, 1) := by decide +kernel
theorem dX14_pull_15 : decode cX14_pull 15 = .ok (.getfield 780, 3) := by decide +kernel
theorem dX14_pull_18 : decode cX14_pull 18 = .ok (.baload, 1) := by decide +kernel
theorem dX14_pull_19 : decode cX14_pull 19 = .ok (.ireturn, 1) := by decide +kernel
theorem dX14_push_0 : decode cX14_push 0 = .ok (.aload_n 0, 1) := by decide +kernel
theorem dX14_push_1 : decode cX14_push 1 = .ok (.getfield 102, 3) := by decide +kernel
theorem dX14_push_4 : decode cX14_push 4 = .ok (.aload_n 0, 1) := by decide +kernel
theorem dX14_push_5 : decode cX14_push 5 = .ok (.getfield 780, 3) := by decide +kernel
theorem dX14_push_8 : decode cX14_push 8 = .ok (.iload_n 1, 1) := by decide +kernel
theorem dX14_push_9 : decode cX14_push 9 = .ok (.i2b, 1) := by decide +kernel
theorem dX14_push_10 : decode cX14_push 10 = .ok (.bastore, 1) := by decide +kernel
theorem dX14_push_11 : decode cX14_push 11 = .ok (.aload_n 0, 1) := by decide +kernel
theorem dX14_push_12 : decode cX14_push 12 = .ok (.dup, 1) := by decide +kernel
theorem dX14_push_13 : decode cX14_push 13 = .ok (.getfield 780, 3) := by decide +kernel
theorem dX14_push_16 : decode cX14_push 16 = .ok (.iconst 1, 1) := by decide +kernel
theorem dX14_push_17 : decode cX14_push 17 = .ok (.iadd, 1) := by decide +kernel
theorem dX14_push_18 : decode cX14_push 18 = .ok (.putfield 780, 3) := by decide +kernel
theorem dX14_push_21 : decode cX14_push 21 = .ok (.return_, 1) := by decide +kernel
theorem dX14_pushed_0 : decode cX14_pushed 0 = .ok (.aload_n 0, 1) := by decide +kernel
theorem dX14_pushed_1 : decode cX14_pushed 1 = .ok (.aload_n 0, 1) := by decide +kernel
theorem dX14_pushed_2 : decode cX14_pushed 2 = .ok (.iload_n 2, 1) := by decide +kernel
theorem dX14_pushed_3 : decode cX14_pushed 3 = .ok (.iload_n 3, 1) := by decide +kernel
theorem dX14_pushed_4 : decode cX14_pushed 4 = .ok (.invokevirtual 380, 3) := by decide +kernel
theorem dX14_pushed_7 : decode cX14_pushed 7 = .ok (.iload_n 1, 1) := by decide +kernel
theorem dX14_pushed_8 : decode cX14_pushed 8 = .ok (.invokevirtual 465, 3) := by decide +kernel
theorem dX14_pushed_11 : decode cX14_pushed 11 = .ok (.iload_n 3, 1) := by decide +kernel
theorem dX14_pushed_12 : decode cX14_pushed 12 = .ok (.iconst 3, 1) := by decide +kernel
theorem dX14_pushed_13 : decode cX14_pushed 13 = .ok (.if_icmp .ne 20, 3) := by decide +kernel
theorem dX14_pushed_16 : decode cX14_pushed 16 = .ok (.aload_n 0, 1) := by decide +kernel
theorem dX14_pushed_17 : decode cX14_pushed 17 = .ok (.bipush 18, 2) := by decide +kernel
theorem dX14_pushed_19 : decode cX14_pushed 19 = .ok (.aload_n 0, 1) := by decide +kernel
theorem dX14_pushed_20 : decode cX14_pushed 20 = .ok (.getfield 43, 3) := by decide +kernel
theorem dX14_pushed_23 : decode cX14_pushed 23 = .ok (.iload_n 2, 1) := by decide +kernel
theorem dX14_pushed_24 : decode cX14_pushed 24 = .ok (.laload, 1) := by decide +kernel
theorem dX14_pushed_25 : decode cX14_pushed 25 = .ok (.l2i, 1) := by decide +kernel
theorem dX14_pushed_26 : decode cX14_pushed 26 = .ok (.iconst 0, 1) := by decide +kernel
theorem dX14_pushed_27 : decode cX14_pushed 27 = .ok (.invokevirtual 472, 3) := by decide +kernel
theorem dX14_pushed_30 : decode cX14_pushed 30 = .ok (.goto 26, 3) := by decide +kernel
theorem dX14_pushed_33 : decode cX14_pushed 33 = .ok (.aload_n 0, 1) := by decide +kernel
theorem dX14_pushed_34 : decode cX14_pushed 34 = .ok (.bipush 20, 2) := by decide +kernel
theorem dX14_pushed_36 : decode cX14_pushed 36 = .ok (.aload_n 0, 1) := by decide +kernel
theorem dX14_pushed_37 : decode cX14_pushed 37 = .ok (.getfield 43, 3) := by decide +kernel
theorem dX14_pushed_40 : decode cX14_pushed 40 = .ok (.iload_n 2, 1) := by decide +kernel
theorem dX14_pushed_41 : decode cX14_pushed 41 = .ok (.laload, 1) := by decide +kernel
theorem dX14_pushed_42 : decode cX14_pushed 42 = .ok (.bipush 32, 2) := by decide +kernel
theorem dX14_pushed_44 : decode cX14_pushed 44 = .ok (.lshr, 1) := by decide +kernel
theorem dX14_pushed_45 : decode cX14_pushed 45 = .ok (.l2i, 1) := by decide +kernel
theorem dX14_pushed_46 : decode cX14_pushed 46 = .ok (.aload_n 0, 1) := by decide +kernel
theorem dX14_pushed_47 : decode cX14_pushed 47 = .ok (.getfield 43, 3) := by decide +kernel
theorem dX14_pushed_50 : decode cX14_pushed 50 = .ok (.iload_n 2, 1) := by decide +kernel
theorem dX14_pushed_51 : decode cX14_pushed 51 = .ok (.laload, 1) := by decide +kernel
theorem dX14_pushed_52 : decode cX14_pushed 52 = .ok (.l2i, 1) := by decide +kernel
theorem dX14_pushed_53 : decode cX14_pushed 53 = .ok (.invokevirtual 472, 3) := by decide +kernel
theorem dX14_pushed_56 : decode cX14_pushed 56 = .ok (.return_, 1) := by decide +kernel
theorem dX14_put_0 : decode cX14_put 0 = .ok (.aload_n 0, 1) := by decide +kernel
theorem dX14_put_1 : decode cX14_put 1 = .ok (.lload_n 1, 1) := by decide +kernel
theorem dX14_put_2 : decode cX14_put 2 = .ok (.iload_n 3, 1) := by decide +kernel
theorem dX14_put_3 : decode cX14_put 3 = .ok (.iconst 2, 1) := by decide +kernel
theorem dX14_put_4 : decode cX14_put 4 = .ok (.if_icmp .ne 7, 3) := by decide +kernel
theorem dX14_put_7 : decode cX14_put 7 = .ok (.iconst 2, 1) := by decide +kernel
theorem dX14_put_8 : decode cX14_put 8 = .ok (.goto 7, 3) := by decide +kernel
theorem dX14_put_11 : decode cX14_put 11 = .ok (.lload_n 1, 1) := by decide +kernel
theorem dX14_put_12 : decode cX14_put 12 = .ok (.invokestatic 989, 3) := by decide +kernel
theorem dX14_put_15 : decode cX14_put 15 = .ok (.iload_n 3, 1) := by decide +kernel
theorem dX14_put_16 : decode cX14_put 16 = .ok (.invokevirtual 996, 3) := by decide +kernel
theorem dX14_put_19 : decode cX14_put 19 = .ok (.return_, 1) := by decide +kernel
theorem dX14_putInt_0 : decode cX14_putInt 0 = .ok (.aload_n 0, 1) := by decide +kernel
theorem dX14_putInt_1 : decode cX14_putInt 1 = .ok (.iload_n 1, 1) := by decide +kernel
theorem dX14_putInt_2 : decode cX14_putInt 2 = .ok (.i2l, 1) := by decide +kernel
theorem dX14_putInt_3 : decode cX14_putInt 3 = .ok (.iconst 1, 1) := by decide +kernel
theorem dX14_putInt_4 : decode cX14_putInt 4 = .ok (.iconst 1, 1) := by decide +kernel
theorem dX14_putInt_5 : decode cX14_putInt 5 = .ok (.invokevirtual 996, 3) := by decide +kernel
theorem dX14_putInt_8 : decode cX14_putInt 8 = .ok (.return_, 1) := by decide +kernel
theorem dX14_putMethod_0 : decode cX14_putMethod 0 = .ok (.aload_n 0, 1) := by decide +kernel
theorem dX14_putMethod_1 : decode cX14_putMethod 1 = .ok (.getfield 1249, 3) := by decide +kernel
theorem dX14_putMethod_4 : decode cX14_putMethod 4 = .ok (.istore_n 3, 1) := by decide +kernel
theorem dX14_putMethod_5 : decode cX14_putMethod 5 = .ok (.iload_n 2, 1) := by decide +kernel
theorem dX14_putMethod_6 : decode cX14_putMethod 6 = .ok (.istore 4, 2) := by decide +kernel
theorem dX14_putMethod_8 : decode cX14_putMethod 8 = .ok (.aload_n 0, 1) := by decide +kernel
theorem dX14_putMethod_9 : decode cX14_putMethod 9 = .ok (.getfield 223, 3) := by decide +kernel
theorem dX14_putMethod_12 : decode cX14_putMethod 12 = .ok (.getfield 507, 3) := by decide +kernel
theorem dX14_putMethod_15 : decode cX14_putMethod 15 = .ok (.iload_n 1, 1) := by decide +kernel
theorem dX14_putMethod_16 : decode cX14_putMethod 16 = .ok (.iload_n 3, 1) := by decide +kernel
theorem dX14_putMethod_17 : decode cX14_putMethod 17 = .ok (.iastore, 1) := by decide +kernel
theorem dX14_putMethod_18 : decode cX14_putMethod 18 = .ok (.iconst 0, 1) := by decide +kernel
theorem dX14_putMethod_19 : decode cX14_putMethod 19 = .ok (.istore 5, 2) := by decide +kernel
theorem dX14_putMethod_21 : decode cX14_putMethod 21 = .ok (.iload 5, 2) := by decide +kernel
theorem dX14_putMethod_23 : decode cX14_putMethod 23 = .ok (.aload_n 0, 1) := by decide +kernel
theorem dX14_putMethod_24 : decode cX14_putMethod 24 = .ok (.getfield 1130, 3) := by decide +kernel
theorem dX14_putMethod_27 : decode cX14_putMethod 27 = .ok (.if_icmp .ge 146, 3) := by decide +kernel
theorem dX14_putMethod_30 : decode cX14_putMethod 30 = .ok (.aload_n 0, 1) := by decide +kernel
theorem dX14_putMethod_31 : decode cX14_putMethod 31 = .ok (.getfield 279, 3) := by decide +kernel
theorem dX14_putMethod_34 : decode cX14_putMethod 34 = .ok (.iload 5, 2) := by decide +kernel
theorem dX14_putMethod_36 : decode cX14_putMethod 36 = .ok (.aload_n 0, 1) := by decide +kernel
theorem dX14_putMethod_37 : decode cX14_putMethod 37 = .ok (.getfield 1249, 3) := by decide +kernel
theorem dX14_putMethod_40 : decode cX14_putMethod 40 = .ok (.iload_n 3, 1) := by decide +kernel
theorem dX14_putMethod_41 : decode cX14_putMethod 41 = .ok (.isub, 1) := by decide +kernel
theorem dX14_putMethod_42 : decode cX14_putMethod 42 = .ok (.iastore, 1) := by decide +kernel
theorem dX14_putMethod_43 : decode cX14_putMethod 43 = .ok (.aload_n 0, 1) := by decide +kernel
theorem dX14_putMethod_44 : decode cX14_putMethod 44 = .ok (.getfield 249, 3) := by decide +kernel
theorem dX14_putMethod_47 : decode cX14_putMethod 47 = .ok (.iload 5, 2) := by decide +kernel
theorem dX14_putMethod_49 : decode cX14_putMethod 49 = .ok (.baload, 1) := by decide +kernel
theorem dX14_putMethod_50 : decode cX14_putMethod 50 = .ok (.ifCond .eq 6, 3) := by decide +kernel
theorem dX14_putMethod_53 : decode cX14_putMethod 53 = .ok (.goto 114, 3) := by decide +kernel
theorem dX14_putMethod_56 : decode cX14_putMethod 56 = .ok (.iload_n 2, 1) := by decide +kernel
theorem dX14_putMethod_57 : decode cX14_putMethod 57 = .ok (.ifCond .lt 74, 3) := by decide +kernel
theorem dX14_putMethod_60 : decode cX14_putMethod 60 = .ok (.aload_n 0, 1) := by decide +kernel
theorem dX14_putMethod_61 : decode cX14_putMethod 61 = .ok (.getfield 185, 3) := by decide +kernel
theorem dX14_putMethod_64 : decode cX14_putMethod 64 = .ok (.aload_n 0, 1) := by decide +kernel
theorem dX14_putMethod_65 : decode cX14_putMethod 65 = .ok (.getfield 188, 3) := by decide +kernel
theorem dX14_putMethod_68 : decode cX14_putMethod 68 = .ok (.iload 5, 2) := by decide +kernel
theorem dX14_putMethod_70 : decode cX14_putMethod 70 = .ok (.iaload, 1) := by decide +kernel
theorem dX14_putMethod_71 : decode cX14_putMethod 71 = .ok (.iaload, 1) := by decide +kernel
theorem dX14_putMethod_72 : decode cX14_putMethod 72 = .ok (.iload 5, 2) := by decide +kernel
theorem dX14_putMethod_74 : decode cX14_putMethod 74 = .ok (.if_icmp .ne 57, 3) := by decide +kernel
theorem dX14_putMethod_77 : decode cX14_putMethod 77 = .ok (.aload_n 0, 1) := by decide +kernel
theorem dX14_putMethod_78 : decode cX14_putMethod 78 = .ok (.getfield 200, 3) := by decide +kernel
theorem dX14_putMethod_81 : decode cX14_putMethod 81 = .ok (.aload_n 0, 1) := by decide +kernel
theorem dX14_putMethod_82 : decode cX14_putMethod 82 = .ok (.getfield 188, 3) := by decide +kernel
theorem dX14_putMethod_85 : decode cX14_putMethod 85 = .ok (.iload 5, 2) := by decide +kernel
theorem dX14_putMethod_87 : decode cX14_putMethod 87 = .ok (.iaload, 1) := by decide +kernel
theorem dX14_putMethod_88 : decode cX14_putMethod 88 = .ok (.baload, 1) := by decide +kernel
theorem dX14_putMethod_89 : decode cX14_putMethod 89 = .ok (.ifCond .eq 42, 3) := by decide +kernel
theorem dX14_putMethod_92 : decode cX14_putMethod 92 = .ok (.aload_n 0, 1) := by decide +kernel
theorem dX14_putMethod_93 : decode cX14_putMethod 93 = .ok (.sipush 178, 3) := by decide +kernel
theorem dX14_putMethod_96 : decode cX14_putMethod 96 = .ok (.iload 4, 2) := by decide +kernel
theorem dX14_putMethod_98 : decode cX14_putMethod 98 = .ok (.iconst 0, 1) := by decide +kernel
theorem dX14_putMethod_99 : decode cX14_putMethod 99 = .ok (.invokevirtual 1255, 3) := by decide +kernel
theorem dX14_putMethod_102 : decode cX14_putMethod 102 = .ok (.aload_n 0, 1) := by decide +kernel
theorem dX14_putMethod_103 : decode cX14_putMethod 103 = .ok (.bipush 20, 2) := by decide +kernel
theorem dX14_putMethod_105 : decode cX14_putMethod 105 = .ok (.iconst 0, 1) := by decide +kernel
theorem dX14_putMethod_106 : decode cX14_putMethod 106 = .ok (.iconst 1, 1) := by decide +kernel
theorem dX14_putMethod_107 : decode cX14_putMethod 107 = .ok (.invokevirtual 1255, 3) := by decide +kernel
theorem dX14_putMethod_110 : decode cX14_putMethod 110 = .ok (.aload_n 0, 1) := by decide +kernel
theorem dX14_putMethod_111 : decode cX14_putMethod 111 = .ok (.bipush 97, 2) := by decide +kernel
theorem dX14_putMethod_113 : decode cX14_putMethod 113 = .ok (.iconst 0, 1) := by decide +kernel
theorem dX14_putMethod_114 : decode cX14_putMethod 114 = .ok (.iconst 0, 1) := by decide +kernel
theorem dX14_putMethod_115 : decode cX14_putMethod 115 = .ok (.invokevirtual 1255, 3) := by decide +kernel
theorem dX14_putMethod_118 : decode cX14_putMethod 118 = .ok (.aload_n 0, 1) := by decide +kernel
theorem dX14_putMethod_119 : decode cX14_putMethod 119 = .ok (.sipush 179, 3) := by decide +kernel
theorem dX14_putMethod_122 : decode cX14_putMethod 122 = .ok (.iload 4, 2) := by decide +kernel
theorem dX14_putMethod_124 : decode cX14_putMethod 124 = .ok (.iconst 0, 1) := by decide +kernel
theorem dX14_putMethod_125 : decode cX14_putMethod 125 = .ok (.invokevirtual 1255, 3) := by decide +kernel
theorem dX14_putMethod_128 : decode cX14_putMethod 128 = .ok (.iinc 4 1, 3) := by decide +kernel
theorem dX14_putMethod_131 : decode cX14_putMethod 131 = .ok (.aload_n 0, 1) := by decide +kernel
theorem dX14_putMethod_132 : decode cX14_putMethod 132 = .ok (.getfield 282, 3) := by decide +kernel
theorem dX14_putMethod_135 : decode cX14_putMethod 135 = .ok (.iload 5, 2) := by decide +kernel
theorem dX14_putMethod_137 : decode cX14_putMethod 137 = .ok (.aload_n 0, 1) := by decide +kernel
theorem dX14_putMethod_138 : decode cX14_putMethod 138 = .ok (.getfield 1249, 3) := by decide +kernel
theorem dX14_putMethod_141 : decode cX14_putMethod 141 = .ok (.iastore, 1) := by decide +kernel
theorem dX14_putMethod_142 : decode cX14_putMethod 142 = .ok (.aload_n 0, 1) := by decide +kernel
theorem dX14_putMethod_143 : decode cX14_putMethod 143 = .ok (.aload_n 0, 1) := by decide +kernel
theorem dX14_putMethod_144 : decode cX14_putMethod 144 = .ok (.getfield 240, 3) := by decide +kernel
theorem dX14_putMethod_147 : decode cX14_putMethod 147 = .ok (.iload 5, 2) := by decide +kernel
theorem dX14_putMethod_149 : decode cX14_putMethod 149 = .ok (.iaload, 1) := by decide +kernel
theorem dX14_putMethod_150 : decode cX14_putMethod 150 = .ok (.aload_n 0, 1) := by decide +kernel
theorem dX14_putMethod_151 : decode cX14_putMethod 151 = .ok (.getfield 243, 3) := by decide +kernel
theorem dX14_putMethod_154 : decode cX14_putMethod 154 = .ok (.iload 5, 2) := by decide +kernel
theorem dX14_putMethod_156 : decode cX14_putMethod 156 = .ok (.iaload, 1) := by decide +kernel
theorem dX14_putMethod_157 : decode cX14_putMethod 157 = .ok (.aload_n 0, 1) := by decide +kernel
theorem dX14_putMethod_158 : decode cX14_putMethod 158 = .ok (.getfield 246, 3) := by decide +kernel
theorem dX14_putMethod_161 : decode cX14_putMethod 161 = .ok (.iload 5, 2) := by decide +kernel
theorem dX14_putMethod_163 : decode cX14_putMethod 163 = .ok (.iaload, 1) := by decide +kernel
theorem dX14_putMethod_164 : decode cX14_putMethod 164 = .ok (.invokevirtual 1255, 3) := by decide +kernel
theorem dX14_putMethod_167 : decode cX14_putMethod 167 = .ok (.iinc 5 1, 3) := by decide +kernel
theorem dX14_putMethod_170 : decode cX14_putMethod 170 = .ok (.goto (-149), 3) := by decide +kernel
theorem dX14_putMethod_173 : decode cX14_putMethod 173 = .ok (.aload_n 0, 1) := by decide +kernel
theorem dX14_putMethod_174 : decode cX14_putMethod 174 = .ok (.getfield 279, 3) := by decide +kernel
theorem dX14_putMethod_177 : decode cX14_putMethod 177 = .ok (.aload_n 0, 1) := by decide +kernel
theorem dX14_putMethod_178 : decode cX14_putMethod 178 = .ok (.getfield 1130, 3) := by decide +kernel
theorem dX14_putMethod_181 : decode cX14_putMethod 181 = .ok (.aload_n 0, 1) := by decide +kernel
theorem dX14_putMethod_182 : decode cX14_putMethod 182 = .ok (.getfield 1249, 3) := by decide +kernel
theorem dX14_putMethod_185 : decode cX14_putMethod 185 = .ok (.iload_n 3, 1) := by decide +kernel
theorem dX14_putMethod_186 : decode cX14_putMethod 186 = .ok (.isub, 1) := by decide +kernel
theorem dX14_putMethod_187 : decode cX14_putMethod 187 = .ok (.iastore, 1) := by decide +kernel
theorem dX14_putMethod_188 : decode cX14_putMethod 188 = .ok (.aload_n 0, 1) := by decide +kernel
theorem dX14_putMethod_189 : decode cX14_putMethod 189 = .ok (.getfield 223, 3) := by decide +kernel
theorem dX14_putMethod_192 : decode cX14_putMethod 192 = .ok (.getfield 510, 3) := by decide +kernel
theorem dX14_putMethod_195 : decode cX14_putMethod 195 = .ok (.iload_n 1, 1) := by decide +kernel
theorem dX14_putMethod_196 : decode cX14_putMethod 196 = .ok (.aload_n 0, 1) := by decide +kernel
theorem dX14_putMethod_197 : decode cX14_putMethod 197 = .ok (.getfield 1249, 3) := by decide +kernel
theorem dX14_putMethod_200 : decode cX14_putMethod 200 = .ok (.iload_n 3, 1) := by decide +kernel
theorem dX14_putMethod_201 : decode cX14_putMethod 201 = .ok (.isub, 1) := by decide +kernel
theorem dX14_putMethod_202 : decode cX14_putMethod 202 = .ok (.iastore, 1) := by decide +kernel
theorem dX14_putMethod_203 : decode cX14_putMethod 203 = .ok (.iconst 0, 1) := by decide +kernel
theorem dX14_putMethod_204 : decode cX14_putMethod 204 = .ok (.istore 5, 2) := by decide +kernel
theorem dX14_putMethod_206 : decode cX14_putMethod 206 = .ok (.iload 5, 2) := by decide +kernel
theorem dX14_putMethod_208 : decode cX14_putMethod 208 = .ok (.aload_n 0, 1) := by decide +kernel
theorem dX14_putMethod_209 : decode cX14_putMethod 209 = .ok (.getfield 1130, 3) := by decide +kernel
theorem dX14_putMethod_212 : decode cX14_putMethod 212 = .ok (.if_icmp .ge 32, 3) := by decide +kernel
theorem dX14_putMethod_215 : decode cX14_putMethod 215 = .ok (.aload_n 0, 1) := by decide +kernel
theorem dX14_putMethod_216 : decode cX14_putMethod 216 = .ok (.getfield 249, 3) := by decide +kernel
theorem dX14_putMethod_219 : decode cX14_putMethod 219 = .ok (.iload 5, 2) := by decide +kernel
theorem dX14_putMethod_221 : decode cX14_putMethod 221 = .ok (.baload, 1) := by decide +kernel
theorem dX14_putMethod_222 : decode cX14_putMethod 222 = .ok (.ifCond .ne 16, 3) := by decide +kernel
theorem dX14_putMethod_225 : decode cX14_putMethod 225 = .ok (.aload_n 0, 1) := by decide +kernel
theorem dX14_putMethod_226 : decode cX14_putMethod 226 = .ok (.iload 5, 2) := by decide +kernel
theorem dX14_putMethod_228 : decode cX14_putMethod 228 = .ok (.aload_n 0, 1) := by decide +kernel
theorem dX14_putMethod_229 : decode cX14_putMethod 229 = .ok (.getfield 282, 3) := by decide +kernel
theorem dX14_putMethod_232 : decode cX14_putMethod 232 = .ok (.iload 5, 2) := by decide +kernel
theorem dX14_putMethod_234 : decode cX14_putMethod 234 = .ok (.iaload, 1) := by decide +kernel
theorem dX14_putMethod_235 : decode cX14_putMethod 235 = .ok (.invokevirtual 1258, 3) := by decide +kernel
theorem dX14_putMethod_238 : decode cX14_putMethod 238 = .ok (.iinc 5 1, 3) := by decide +kernel
theorem dX14_putMethod_241 : decode cX14_putMethod 241 = .ok (.goto (-35), 3) := by decide +kernel
theorem dX14_putMethod_244 : decode cX14_putMethod 244 = .ok (.aload_n 0, 1) := by decide +kernel
theorem dX14_putMethod_245 : decode cX14_putMethod 245 = .ok (.getfield 223, 3) := by decide +kernel
theorem dX14_putMethod_248 : decode cX14_putMethod 248 = .ok (.getfield 513, 3) := by decide +kernel
theorem dX14_putMethod_251 : decode cX14_putMethod 251 = .ok (.iload_n 1, 1) := by decide +kernel
theorem dX14_putMethod_252 : decode cX14_putMethod 252 = .ok (.aload_n 0, 1) := by decide +kernel
theorem dX14_putMethod_253 : decode cX14_putMethod 253 = .ok (.getfield 1252, 3) := by decide +kernel
theorem dX14_putMethod_256 : decode cX14_putMethod 256 = .ok (.iastore, 1) := by decide +kernel
theorem dX14_putMethod_257 : decode cX14_putMethod 257 = .ok (.iconst 0, 1) := by decide +kernel
theorem dX14_putMethod_258 : decode cX14_putMethod 258 = .ok (.istore 5, 2) := by decide +kernel
theorem dX14_putMethod_260 : decode cX14_putMethod 260 = .ok (.iload 5, 2) := by decide +kernel
theorem dX14_putMethod_262 : decode cX14_putMethod 262 = .ok (.aload_n 0, 1) := by decide +kernel
theorem dX14_putMethod_263 : decode cX14_putMethod 263 = .ok (.getfield 1136, 3) := by decide +kernel
theorem dX14_putMethod_266 : decode cX14_putMethod 266 = .ok (.if_icmp .ge 25, 3) := by decide +kernel
theorem dX14_putMethod_269 : decode cX14_putMethod 269 = .ok (.aload_n 0, 1) := by decide +kernel
theorem dX14_putMethod_270 : decode cX14_putMethod 270 = .ok (.getfield 264, 3) := by decide +kernel
theorem dX14_putMethod_273 : decode cX14_putMethod 273 = .ok (.iload 5, 2) := by decide +kernel
theorem dX14_putMethod_275 : decode cX14_putMethod 275 = .ok (.baload, 1) := by decide +kernel
theorem dX14_putMethod_276 : decode cX14_putMethod 276 = .ok (.ifCond .ne 9, 3) := by decide +kernel
theorem dX14_putMethod_279 : decode cX14_putMethod 279 = .ok (.aload_n 0, 1) := by decide +kernel
theorem dX14_putMethod_280 : decode cX14_putMethod 280 = .ok (.iload 5, 2) := by decide +kernel
theorem dX14_putMethod_282 : decode cX14_putMethod 282 = .ok (.invokevirtual 1261, 3) := by decide +kernel
theorem dX14_putMethod_285 : decode cX14_putMethod 285 = .ok (.iinc 5 1, 3) := by decide +kernel
theorem dX14_putMethod_288 : decode cX14_putMethod 288 = .ok (.goto (-28), 3) := by decide +kernel
theorem dX14_putMethod_291 : decode cX14_putMethod 291 = .ok (.aload_n 0, 1) := by decide +kernel
theorem dX14_putMethod_292 : decode cX14_putMethod 292 = .ok (.getfield 223, 3) := by decide +kernel
theorem dX14_putMethod_295 : decode cX14_putMethod 295 = .ok (.getfield 519, 3) := by decide +kernel
theorem dX14_putMethod_298 : decode cX14_putMethod 298 = .ok (.iload_n 1, 1) := by decide +kernel
theorem dX14_putMethod_299 : decode cX14_putMethod 299 = .ok (.aload_n 0, 1) := by decide +kernel
theorem dX14_putMethod_300 : decode cX14_putMethod 300 = .ok (.getfield 1252, 3) := by decide +kernel
theorem dX14_putMethod_303 : decode cX14_putMethod 303 = .ok (.aload_n 0, 1) := by decide +kernel
theorem dX14_putMethod_304 : decode cX14_putMethod 304 = .ok (.getfield 223, 3) := by decide +kernel
theorem dX14_putMethod_307 : decode cX14_putMethod 307 = .ok (.getfield 513, 3) := by decide +kernel
theorem dX14_putMethod_310 : decode cX14_putMethod 310 = .ok (.iload_n 1, 1) := by decide +kernel
theorem dX14_putMethod_311 : decode cX14_putMethod 311 = .ok (.iaload, 1) := by decide +kernel
theorem dX14_putMethod_312 : decode cX14_putMethod 312 = .ok (.isub, 1) := by decide +kernel
theorem dX14_putMethod_313 : decode cX14_putMethod 313 = .ok (.iastore, 1) := by decide +kernel
theorem dX14_putMethod_314 : decode cX14_putMethod 314 = .ok (.return_, 1) := by decide +kernel
theorem dX14_putTagged_0 : decode cX14_putTagged 0 = .ok (.bipush 24, 2) := by decide +kernel
theorem dX14_putTagged_2 : decode cX14_putTagged 2 = .ok (.aload_n 0, 1) := by decide +kernel
theorem dX14_putTagged_3 : decode cX14_putTagged 3 = .ok (.getfield 974, 3) := by decide +kernel
theorem dX14_putTagged_6 : decode cX14_putTagged 6 = .ok (.iconst 1, 1) := by decide +kernel
theorem dX14_putTagged_7 : decode cX14_putTagged 7 = .ok (.isub, 1) := by decide +kernel
theorem dX14_putTagged_8 : decode cX14_putTagged 8 = .ok (.imul, 1) := by decide +kernel
theorem dX14_putTagged_9 : decode cX14_putTagged 9 = .ok (.aload_n 0, 1) := by decide +kernel
theorem dX14_putTagged_10 : decode cX14_putTagged 10 = .ok (.getfield 167, 3) := by decide +kernel
theorem dX14_putTagged_13 : decode cX14_putTagged 13 = .ok (.aload_n 0, 1) := by decide +kernel
theorem dX14_putTagged_14 : decode cX14_putTagged 14 = .ok (.getfield 974, 3) := by decide +kernel
theorem dX14_putTagged_17 : decode cX14_putTagged 17 = .ok (.iconst 1, 1) := by decide +kernel
theorem dX14_putTagged_18 : decode cX14_putTagged 18 = .ok (.isub, 1) := by decide +kernel
theorem dX14_putTagged_19 : decode cX14_putTagged 19 = .ok (.iaload, 1) := by decide +kernel
theorem dX14_putTagged_20 : decode cX14_putTagged 20 = .ok (.iadd, 1) := by decide +kernel
theorem dX14_putTagged_21 : decode cX14_putTagged 21 = .ok (.istore 5, 2) := by decide +kernel
theorem dX14_putTagged_23 : decode cX14_putTagged 23 = .ok (.aload_n 0, 1) := by decide +kernel
theorem dX14_putTagged_24 : decode cX14_putTagged 24 = .ok (.getfield 173, 3) := by decide +kernel
theorem dX14_putTagged_27 : decode cX14_putTagged 27 = .ok (.iload 5, 2) := by decide +kernel
theorem dX14_putTagged_29 : decode cX14_putTagged 29 = .ok (.lload_n 1, 1) := by decide +kernel
theorem dX14_putTagged_30 : decode cX14_putTagged 30 = .ok (.lastore, 1) := by decide +kernel
theorem dX14_putTagged_31 : decode cX14_putTagged 31 = .ok (.aload_n 0, 1) := by decide +kernel
theorem dX14_putTagged_32 : decode cX14_putTagged 32 = .ok (.getfield 179, 3) := by decide +kernel
theorem dX14_putTagged_35 : decode cX14_putTagged 35 = .ok (.iload 5, 2) := by decide +kernel
theorem dX14_putTagged_37 : decode cX14_putTagged 37 = .ok (.iload_n 3, 1) := by decide +kernel
theorem dX14_putTagged_38 : decode cX14_putTagged 38 = .ok (.bastore, 1) := by decide +kernel
theorem dX14_putTagged_39 : decode cX14_putTagged 39 = .ok (.iload 4, 2) := by decide +kernel
theorem dX14_putTagged_41 : decode cX14_putTagged 41 = .ok (.iconst 2, 1) := by decide +kernel
theorem dX14_putTagged_42 : decode cX14_putTagged 42 = .ok (.if_icmp .ne 13, 3) := by decide +kernel
theorem dX14_putTagged_45 : decode cX14_putTagged 45 = .ok (.aload_n 0, 1) := by decide +kernel
theorem dX14_putTagged_46 : decode cX14_putTagged 46 = .ok (.getfield 179, 3) := by decide +kernel
theorem dX14_putTagged_49 : decode cX14_putTagged 49 = .ok (.iload 5, 2) := by decide +kernel
theorem dX14_putTagged_51 : decode cX14_putTagged 51 = .ok (.iconst 1, 1) := by decide +kernel
theorem dX14_putTagged_52 : decode cX14_putTagged 52 = .ok (.iadd, 1) := by decide +kernel
theorem dX14_putTagged_53 : decode cX14_putTagged 53 = .ok (.iconst 3, 1) := by decide +kernel
theorem dX14_putTagged_54 : decode cX14_putTagged 54 = .ok (.bastore, 1) := by decide +kernel
theorem dX14_putTagged_55 : decode cX14_putTagged 55 = .ok (.aload_n 0, 1) := by decide +kernel
theorem dX14_putTagged_56 : decode cX14_putTagged 56 = .ok (.getfield 167, 3) := by decide +kernel
theorem dX14_putTagged_59 : decode cX14_putTagged 59 = .ok (.aload_n 0, 1) := by decide +kernel
theorem dX14_putTagged_60 : decode cX14_putTagged 60 = .ok (.getfield 974, 3) := by decide +kernel
theorem dX14_putTagged_63 : decode cX14_putTagged 63 = .ok (.iconst 1, 1) := by decide +kernel
theorem dX14_putTagged_64 : decode cX14_putTagged 64 = .ok (.isub, 1) := by decide +kernel
theorem dX14_putTagged_65 : decode cX14_putTagged 65 = .ok (.dup2, 1) := by decide +kernel
theorem dX14_putTagged_66 : decode cX14_putTagged 66 = .ok (.iaload, 1) := by decide +kernel
theorem dX14_putTagged_67 : decode cX14_putTagged 67 = .ok (.iload 4, 2) := by decide +kernel
theorem dX14_putTagged_69 : decode cX14_putTagged 69 = .ok (.iadd, 1) := by decide +kernel
theorem dX14_putTagged_70 : decode cX14_putTagged 70 = .ok (.iastore, 1) := by decide +kernel
theorem dX14_putTagged_71 : decode cX14_putTagged 71 = .ok (.return_, 1) := by decide +kernel
theorem dX14_reach_0 : decode cX14_reach 0 = .ok (.iconst 0, 1) := by decide +kernel
theorem dX14_reach_1 : decode cX14_reach 1 = .ok (.istore_n 1, 1) := by decide +kernel
theorem dX14_reach_2 : decode cX14_reach 2 = .ok (.iload_n 1, 1) := by decide +kernel
theorem dX14_reach_3 : decode cX14_reach 3 = .ok (.aload_n 0, 1) := by decide +kernel
theorem dX14_reach_4 : decode cX14_reach 4 = .ok (.getfield 1088, 3) := by decide +kernel
theorem dX14_reach_7 : decode cX14_reach 7 = .ok (.if_icmp .ge 24, 3) := by decide +kernel
theorem dX14_reach_10 : decode cX14_reach 10 = .ok (.aload_n 0, 1) := by decide +kernel
theorem dX14_reach_11 : decode cX14_reach 11 = .ok (.getfield 200, 3) := by decide +kernel
theorem dX14_reach_14 : decode cX14_reach 14 = .ok (.iload_n 1, 1) := by decide +kernel
theorem dX14_reach_15 : decode cX14_reach 15 = .ok (.iload_n 1, 1) := by decide +kernel
theorem dX14_reach_16 : decode cX14_reach 16 = .ok (.ifCond .ne 7, 3) := by decide +kernel
theorem dX14_reach_19 : decode cX14_reach 19 = .ok (.iconst 1, 1) := by decide +kernel
theorem dX14_reach_20 : decode cX14_reach 20 = .ok (.goto 4, 3) := by decide +kernel
theorem dX14_reach_23 : decode cX14_reach 23 = .ok (.iconst 0, 1) := by decide +kernel
theorem dX14_reach_24 : decode cX14_reach 24 = .ok (.bastore, 1) := by decide +kernel
theorem dX14_reach_25 : decode cX14_reach 25 = .ok (.iinc 1 1, 3) := by decide +kernel
theorem dX14_reach_28 : decode cX14_reach 28 = .ok (.goto (-26), 3) := by decide +kernel
theorem dX14_reach_31 : decode cX14_reach 31 = .ok (.iconst 1, 1) := by decide +kernel
theorem dX14_reach_32 : decode cX14_reach 32 = .ok (.istore_n 1, 1) := by decide +kernel
theorem dX14_reach_33 : decode cX14_reach 33 = .ok (.iload_n 1, 1) := by decide +kernel
theorem dX14_reach_34 : decode cX14_reach 34 = .ok (.ifCond .eq 94, 3) := by decide +kernel
theorem dX14_reach_37 : decode cX14_reach 37 = .ok (.iconst 0, 1) := by decide +kernel
theorem dX14_reach_38 : decode cX14_reach 38 = .ok (.istore_n 1, 1) := by decide +kernel
theorem dX14_reach_39 : decode cX14_reach 39 = .ok (.iconst 0, 1) := by decide +kernel
theorem dX14_reach_40 : decode cX14_reach 40 = .ok (.istore_n 2, 1) := by decide +kernel
theorem dX14_reach_41 : decode cX14_reach 41 = .ok (.iload_n 2, 1) := by decide +kernel
theorem dX14_reach_42 : decode cX14_reach 42 = .ok (.aload_n 0, 1) := by decide +kernel
theorem dX14_reach_43 : decode cX14_reach 43 = .ok (.getfield 1088, 3) := by decide +kernel
theorem dX14_reach_46 : decode cX14_reach 46 = .ok (.if_icmp .ge 79, 3) := by decide +kernel
theorem dX14_reach_49 : decode cX14_reach 49 = .ok (.aload_n 0, 1) := by decide +kernel
theorem dX14_reach_50 : decode cX14_reach 50 = .ok (.getfield 194, 3) := by decide +kernel
theorem dX14_reach_53 : decode cX14_reach 53 = .ok (.iload_n 2, 1) := by decide +kernel
theorem dX14_reach_54 : decode cX14_reach 54 = .ok (.iaload, 1) := by decide +kernel
theorem dX14_reach_55 : decode cX14_reach 55 = .ok (.istore_n 3, 1) := by decide +kernel
theorem dX14_reach_56 : decode cX14_reach 56 = .ok (.aload_n 0, 1) := by decide +kernel
theorem dX14_reach_57 : decode cX14_reach 57 = .ok (.getfield 200, 3) := by decide +kernel
theorem dX14_reach_60 : decode cX14_reach 60 = .ok (.iload_n 2, 1) := by decide +kernel
theorem dX14_reach_61 : decode cX14_reach 61 = .ok (.baload, 1) := by decide +kernel
theorem dX14_reach_62 : decode cX14_reach 62 = .ok (.ifCond .eq 57, 3) := by decide +kernel
theorem dX14_reach_65 : decode cX14_reach 65 = .ok (.iload_n 3, 1) := by decide +kernel
theorem dX14_reach_66 : decode cX14_reach 66 = .ok (.aload_n 0, 1) := by decide +kernel
theorem dX14_reach_67 : decode cX14_reach 67 = .ok (.getfield 194, 3) := by decide +kernel
theorem dX14_reach_70 : decode cX14_reach 70 = .ok (.iload_n 2, 1) := by decide +kernel
theorem dX14_reach_71 : decode cX14_reach 71 = .ok (.iconst 1, 1) := by decide +kernel
theorem dX14_reach_72 : decode cX14_reach 72 = .ok (.iadd, 1) := by decide +kernel
theorem dX14_reach_73 : decode cX14_reach 73 = .ok (.iaload, 1) := by decide +kernel
theorem dX14_reach_74 : decode cX14_reach 74 = .ok (.if_icmp .ge 45, 3) := by decide +kernel
theorem dX14_reach_77 : decode cX14_reach 77 = .ok (.iload_n 1, 1) := by decide +kernel
theorem dX14_reach_78 : decode cX14_reach 78 = .ok (.ifCond .ne 17, 3) := by decide +kernel
theorem dX14_reach_81 : decode cX14_reach 81 = .ok (.aload_n 0, 1) := by decide +kernel
theorem dX14_reach_82 : decode cX14_reach 82 = .ok (.getfield 200, 3) := by decide +kernel
theorem dX14_reach_85 : decode cX14_reach 85 = .ok (.aload_n 0, 1) := by decide +kernel
theorem dX14_reach_86 : decode cX14_reach 86 = .ok (.getfield 197, 3) := by decide +kernel
theorem dX14_reach_89 : decode cX14_reach 89 = .ok (.iload_n 3, 1) := by decide +kernel
theorem dX14_reach_90 : decode cX14_reach 90 = .ok (.iaload, 1) := by decide +kernel
theorem dX14_reach_91 : decode cX14_reach 91 = .ok (.baload, 1) := by decide +kernel
theorem dX14_reach_92 : decode cX14_reach 92 = .ok (.ifCond .ne 7, 3) := by decide +kernel
theorem dX14_reach_95 : decode cX14_reach 95 = .ok (.iconst 1, 1) := by decide +kernel
theorem dX14_reach_96 : decode cX14_reach 96 = .ok (.goto 4, 3) := by decide +kernel
theorem dX14_reach_99 : decode cX14_reach 99 = .ok (.iconst 0, 1) := by decide +kernel
theorem dX14_reach_100 : decode cX14_reach 100 = .ok (.istore_n 1, 1) := by decide +kernel
theorem dX14_reach_101 : decode cX14_reach 101 = .ok (.aload_n 0, 1) := by decide +kernel
theorem dX14_reach_102 : decode cX14_reach 102 = .ok (.getfield 200, 3) := by decide +kernel
theorem dX14_reach_105 : decode cX14_reach 105 = .ok (.aload_n 0, 1) := by decide +kernel
theorem dX14_reach_106 : decode cX14_reach 106 = .ok (.getfield 197, 3) := by decide +kernel
theorem dX14_reach_109 : decode cX14_reach 109 = .ok (.iload_n 3, 1) := by decide +kernel
theorem dX14_reach_110 : decode cX14_reach 110 = .ok (.iaload, 1) := by decide +kernel
theorem dX14_reach_111 : decode cX14_reach 111 = .ok (.iconst 1, 1) := by decide +kernel
theorem dX14_reach_112 : decode cX14_reach 112 = .ok (.bastore, 1) := by decide +kernel
theorem dX14_reach_113 : decode cX14_reach 113 = .ok (.iinc 3 1, 3) := by decide +kernel
theorem dX14_reach_116 : decode cX14_reach 116 = .ok (.goto (-60), 3) := by decide +kernel
theorem dX14_reach_119 : decode cX14_reach 119 = .ok (.iinc 2 1, 3) := by decide +kernel
theorem dX14_reach_122 : decode cX14_reach 122 = .ok (.goto (-81), 3) := by decide +kernel
theorem dX14_reach_125 : decode cX14_reach 125 = .ok (.goto (-92), 3) := by decide +kernel
theorem dX14_reach_128 : decode cX14_reach 128 = .ok (.return_, 1) := by decide +kernel
theorem dX14_reachedBlocks_0 : decode cX14_reachedBlocks 0 = .ok (.iconst 0, 1) := by decide +kernel
theorem dX14_reachedBlocks_1 : decode cX14_reachedBlocks 1 = .ok (.istore_n 1, 1) := by decide +kernel
theorem dX14_reachedBlocks_2 : decode cX14_reachedBlocks 2 = .ok (.iconst 0, 1) := by decide +kernel
theorem dX14_reachedBlocks_3 : decode cX14_reachedBlocks 3 = .ok (.istore_n 2, 1) := by decide +kernel
theorem dX14_reachedBlocks_4 : decode cX14_reachedBlocks 4 = .ok (.iload_n 2, 1) := by decide +kernel
theorem dX14_reachedBlocks_5 : decode cX14_reachedBlocks 5 = .ok (.aload_n 0, 1) := by decide +kernel
theorem dX14_reachedBlocks_6 : decode cX14_reachedBlocks 6 = .ok (.getfield 1088, 3) := by decide +kernel
theorem dX14_reachedBlocks_9 : decode cX14_reachedBlocks 9 = .ok (.if_icmp .ge 21, 3) := by decide +kernel
theorem dX14_reachedBlocks_12 : decode cX14_reachedBlocks 12 = .ok (.aload_n 0, 1) := by decide +kernel
theorem dX14_reachedBlocks_13 : decode cX14_reachedBlocks 13 = .ok (.getfield 200, 3) := by decide +kernel
theorem dX14_reachedBlocks_16 : decode cX14_reachedBlocks 16 = .ok (.iload_n 2, 1) := by decide +kernel
theorem dX14_reachedBlocks_17 : decode cX14_reachedBlocks 17 = .ok (.baload, 1) := by decide +kernel
theorem dX14_reachedBlocks_18 : decode cX14_reachedBlocks 18 = .ok (.ifCond .eq 6, 3) := by decide +kernel
theorem dX14_reachedBlocks_21 : decode cX14_reachedBlocks 21 = .ok (.iinc 1 1, 3) := by decide +kernel
theorem dX14_reachedBlocks_24 : decode cX14_reachedBlocks 24 = .ok (.iinc 2 1, 3) := by decide +kernel
theorem dX14_reachedBlocks_27 : decode cX14_reachedBlocks 27 = .ok (.goto (-23), 3) := by decide +kernel
theorem dX14_reachedBlocks_30 : decode cX14_reachedBlocks 30 = .ok (.iload_n 1, 1) := by decide +kernel
theorem dX14_reachedBlocks_31 : decode cX14_reachedBlocks 31 = .ok (.ireturn, 1) := by decide +kernel
theorem dX14_readFile_0 : decode cX14_readFile 0 = .ok (.aload_n 0, 1) := by decide +kernel
theorem dX14_readFile_1 : decode cX14_readFile 1 = .ok (.aload_n 1, 1) := by decide +kernel
theorem dX14_readFile_2 : decode cX14_readFile 2 = .ok (.putfield 309, 3) := by decide +kernel
theorem dX14_readFile_5 : decode cX14_readFile 5 = .ok (.aload_n 0, 1) := by decide +kernel
theorem dX14_readFile_6 : decode cX14_readFile 6 = .ok (.iload_n 2, 1) := by decide +kernel
theorem dX14_readFile_7 : decode cX14_readFile 7 = .ok (.putfield 322, 3) := by decide +kernel
theorem dX14_readFile_10 : decode cX14_readFile 10 = .ok (.aload_n 0, 1) := by decide +kernel
theorem dX14_readFile_11 : decode cX14_readFile 11 = .ok (.invokevirtual 552, 3) := by decide +kernel
theorem dX14_readFile_14 : decode cX14_readFile 14 = .ok (.aload_n 0, 1) := by decide +kernel
theorem dX14_readFile_15 : decode cX14_readFile 15 = .ok (.invokevirtual 555, 3) := by decide +kernel
theorem dX14_readFile_18 : decode cX14_readFile 18 = .ok (.aload_n 0, 1) := by decide +kernel
theorem dX14_readFile_19 : decode cX14_readFile 19 = .ok (.invokevirtual 558, 3) := by decide +kernel
theorem dX14_readFile_22 : decode cX14_readFile 22 = .ok (.aload_n 0, 1) := by decide +kernel
theorem dX14_readFile_23 : decode cX14_readFile 23 = .ok (.invokevirtual 561, 3) := by decide +kernel
theorem dX14_readFile_26 : decode cX14_readFile 26 = .ok (.aload_n 0, 1) := by decide +kernel
theorem dX14_readFile_27 : decode cX14_readFile 27 = .ok (.invokevirtual 564, 3) := by decide +kernel
theorem dX14_readFile_30 : decode cX14_readFile 30 = .ok (.aload_n 0, 1) := by decide +kernel
theorem dX14_readFile_31 : decode cX14_readFile 31 = .ok (.invokevirtual 567, 3) := by decide +kernel
theorem dX14_readFile_34 : decode cX14_readFile 34 = .ok (.aload_n 0, 1) := by decide +kernel
theorem dX14_readFile_35 : decode cX14_readFile 35 = .ok (.invokevirtual 569, 3) := by decide +kernel
theorem dX14_readFile_38 : decode cX14_readFile 38 = .ok (.aload_n 0, 1) := by decide +kernel
theorem dX14_readFile_39 : decode cX14_readFile 39 = .ok (.invokevirtual 572, 3) := by decide +kernel
theorem dX14_readFile_42 : decode cX14_readFile 42 = .ok (.aload_n 0, 1) := by decide +kernel
theorem dX14_readFile_43 : decode cX14_readFile 43 = .ok (.aload_n 0, 1) := by decide +kernel
theorem dX14_readFile_44 : decode cX14_readFile 44 = .ok (.getfield 364, 3) := by decide +kernel
theorem dX14_readFile_47 : decode cX14_readFile 47 = .ok (.aload_n 0, 1) := by decide +kernel
theorem dX14_readFile_48 : decode cX14_readFile 48 = .ok (.getfield 322, 3) := by decide +kernel
theorem dX14_readFile_51 : decode cX14_readFile 51 = .ok (.if_icmp .ne 7, 3) := by decide +kernel
theorem dX14_readFile_54 : decode cX14_readFile 54 = .ok (.iconst 1, 1) := by decide +kernel
theorem dX14_readFile_55 : decode cX14_readFile 55 = .ok (.goto 4, 3) := by decide +kernel
theorem dX14_readFile_58 : decode cX14_readFile 58 = .ok (.iconst 0, 1) := by decide +kernel
theorem dX14_readFile_59 : decode cX14_readFile 59 = .ok (.bipush 17, 2) := by decide +kernel
theorem dX14_readFile_61 : decode cX14_readFile 61 = .ok (.aload_n 0, 1) := by decide +kernel
theorem dX14_readFile_62 : decode cX14_readFile 62 = .ok (.getfield 364, 3) := by decide +kernel
theorem dX14_readFile_65 : decode cX14_readFile 65 = .ok (.invokevirtual 325, 3) := by decide +kernel
theorem dX14_readFile_68 : decode cX14_readFile 68 = .ok (.aload_n 0, 1) := by decide +kernel
theorem dX14_readFile_69 : decode cX14_readFile 69 = .ok (.getfield 349, 3) := by decide +kernel
theorem dX14_readFile_72 : decode cX14_readFile 72 = .ok (.aload_n 0, 1) := by decide +kernel
theorem dX14_readFile_73 : decode cX14_readFile 73 = .ok (.getfield 358, 3) := by decide +kernel
theorem dX14_readFile_76 : decode cX14_readFile 76 = .ok (.isub, 1) := by decide +kernel
theorem dX14_readFile_77 : decode cX14_readFile 77 = .ok (.istore_n 3, 1) := by decide +kernel
theorem dX14_readFile_78 : decode cX14_readFile 78 = .ok (.iconst 0, 1) := by decide +kernel
theorem dX14_readFile_79 : decode cX14_readFile 79 = .ok (.istore 4, 2) := by decide +kernel
theorem dX14_readFile_81 : decode cX14_readFile 81 = .ok (.iload 4, 2) := by decide +kernel
theorem dX14_readFile_83 : decode cX14_readFile 83 = .ok (.iload_n 3, 1) := by decide +kernel
theorem dX14_readFile_84 : decode cX14_readFile 84 = .ok (.if_icmp .ge 15, 3) := by decide +kernel
theorem dX14_readFile_87 : decode cX14_readFile 87 = .ok (.aload_n 0, 1) := by decide +kernel
theorem dX14_readFile_88 : decode cX14_readFile 88 = .ok (.iload 4, 2) := by decide +kernel
theorem dX14_readFile_90 : decode cX14_readFile 90 = .ok (.invokevirtual 575, 3) := by decide +kernel
theorem dX14_readFile_93 : decode cX14_readFile 93 = .ok (.iinc 4 1, 3) := by decide +kernel
theorem dX14_readFile_96 : decode cX14_readFile 96 = .ok (.goto (-15), 3) := by decide +kernel
theorem dX14_readFile_99 : decode cX14_readFile 99 = .ok (.iconst 0, 1) := by decide +kernel
theorem dX14_readFile_100 : decode cX14_readFile 100 = .ok (.istore 4, 2) := by decide +kernel
theorem dX14_readFile_102 : decode cX14_readFile 102 = .ok (.iload 4, 2) := by decide +kernel
theorem dX14_readFile_104 : decode cX14_readFile 104 = .ok (.iload_n 3, 1) := by decide +kernel
theorem dX14_readFile_105 : decode cX14_readFile 105 = .ok (.if_icmp .ge 15, 3) := by decide +kernel
theorem dX14_readFile_108 : decode cX14_readFile 108 = .ok (.aload_n 0, 1) := by decide +kernel
theorem dX14_readFile_109 : decode cX14_readFile 109 = .ok (.iload 4, 2) := by decide +kernel
theorem dX14_readFile_111 : decode cX14_readFile 111 = .ok (.invokevirtual 504, 3) := by decide +kernel
theorem dX14_readFile_114 : decode cX14_readFile 114 = .ok (.iinc 4 1, 3) := by decide +kernel
theorem dX14_readFile_117 : decode cX14_readFile 117 = .ok (.goto (-15), 3) := by decide +kernel
theorem dX14_readFile_120 : decode cX14_readFile 120 = .ok (.aload_n 0, 1) := by decide +kernel
theorem dX14_readFile_121 : decode cX14_readFile 121 = .ok (.iconst 0, 1) := by decide +kernel
theorem dX14_readFile_122 : decode cX14_readFile 122 = .ok (.putfield 459, 3) := by decide +kernel
theorem dX14_readFile_125 : decode cX14_readFile 125 = .ok (.aload_n 0, 1) := by decide +kernel
theorem dX14_readFile_126 : decode cX14_readFile 126 = .ok (.iconst 0, 1) := by decide +kernel
theorem dX14_readFile_127 : decode cX14_readFile 127 = .ok (.putfield 501, 3) := by decide +kernel
theorem dX14_readFile_130 : decode cX14_readFile 130 = .ok (.aload_n 0, 1) := by decide +kernel
theorem dX14_readFile_131 : decode cX14_readFile 131 = .ok (.iconst 0, 1) := by decide +kernel
theorem dX14_readFile_132 : decode cX14_readFile 132 = .ok (.putfield 516, 3) := by decide +kernel
theorem dX14_readFile_135 : decode cX14_readFile 135 = .ok (.new 9, 3) := by decide +kernel
theorem dX14_readFile_138 : decode cX14_readFile 138 = .ok (.dup, 1) := by decide +kernel
theorem dX14_readFile_139 : decode cX14_readFile 139 = .ok (.invokespecial 222, 3) := by decide +kernel
theorem dX14_readFile_142 : decode cX14_readFile 142 = .ok (.astore 4, 2) := by decide +kernel
theorem dX14_readFile_144 : decode cX14_readFile 144 = .ok (.iconst 0, 1) := by decide +kernel
theorem dX14_readFile_145 : decode cX14_readFile 145 = .ok (.istore 5, 2) := by decide +kernel
theorem dX14_readFile_147 : decode cX14_readFile 147 = .ok (.iload 5, 2) := by decide +kernel
theorem dX14_readFile_149 : decode cX14_readFile 149 = .ok (.iload_n 3, 1) := by decide +kernel
theorem dX14_readFile_150 : decode cX14_readFile 150 = .ok (.if_icmp .ge 17, 3) := by decide +kernel
theorem dX14_readFile_153 : decode cX14_readFile 153 = .ok (.aload_n 0, 1) := by decide +kernel
theorem dX14_readFile_154 : decode cX14_readFile 154 = .ok (.iload 5, 2) := by decide +kernel
theorem dX14_readFile_156 : decode cX14_readFile 156 = .ok (.aload 4, 2) := by decide +kernel
theorem dX14_readFile_158 : decode cX14_readFile 158 = .ok (.invokevirtual 578, 3) := by decide +kernel
theorem dX14_readFile_161 : decode cX14_readFile 161 = .ok (.iinc 5 1, 3) := by decide +kernel
theorem dX14_readFile_164 : decode cX14_readFile 164 = .ok (.goto (-17), 3) := by decide +kernel
theorem dX14_readFile_167 : decode cX14_readFile 167 = .ok (.aload 4, 2) := by decide +kernel
theorem dX14_readFile_169 : decode cX14_readFile 169 = .ok (.aload_n 0, 1) := by decide +kernel
theorem dX14_readFile_170 : decode cX14_readFile 170 = .ok (.aload_n 0, 1) := by decide +kernel
theorem dX14_readFile_171 : decode cX14_readFile 171 = .ok (.getfield 37, 3) := by decide +kernel
theorem dX14_readFile_174 : decode cX14_readFile 174 = .ok (.aload_n 0, 1) := by decide +kernel
theorem dX14_readFile_175 : decode cX14_readFile 175 = .ok (.aload_n 0, 1) := by decide +kernel
theorem dX14_readFile_176 : decode cX14_readFile 176 = .ok (.getfield 344, 3) := by decide +kernel
theorem dX14_readFile_179 : decode cX14_readFile 179 = .ok (.iconst 2, 1) := by decide +kernel
theorem dX14_readFile_180 : decode cX14_readFile 180 = .ok (.iadd, 1) := by decide +kernel
theorem dX14_readFile_181 : decode cX14_readFile 181 = .ok (.invokevirtual 316, 3) := by decide +kernel
theorem dX14_readFile_184 : decode cX14_readFile 184 = .ok (.iaload, 1) := by decide +kernel
theorem dX14_readFile_185 : decode cX14_readFile 185 = .ok (.invokevirtual 582, 3) := by decide +kernel
theorem dX14_readFile_188 : decode cX14_readFile 188 = .ok (.putfield 585, 3) := by decide +kernel
theorem dX14_readFile_191 : decode cX14_readFile 191 = .ok (.aload 4, 2) := by decide +kernel
theorem dX14_readFile_193 : decode cX14_readFile 193 = .ok (.aload_n 0, 1) := by decide +kernel
theorem dX14_readFile_194 : decode cX14_readFile 194 = .ok (.aload_n 0, 1) := by decide +kernel
theorem dX14_readFile_195 : decode cX14_readFile 195 = .ok (.getfield 37, 3) := by decide +kernel
theorem dX14_readFile_198 : decode cX14_readFile 198 = .ok (.aload_n 0, 1) := by decide +kernel
theorem dX14_readFile_199 : decode cX14_readFile 199 = .ok (.aload_n 0, 1) := by decide +kernel
theorem dX14_readFile_200 : decode cX14_readFile 200 = .ok (.getfield 344, 3) := by decide +kernel
theorem dX14_readFile_203 : decode cX14_readFile 203 = .ok (.iconst 4, 1) := by decide +kernel
theorem dX14_readFile_204 : decode cX14_readFile 204 = .ok (.iadd, 1) := by decide +kernel
theorem dX14_readFile_205 : decode cX14_readFile 205 = .ok (.invokevirtual 316, 3) := by decide +kernel
theorem dX14_readFile_208 : decode cX14_readFile 208 = .ok (.iaload, 1) := by decide +kernel
theorem dX14_readFile_209 : decode cX14_readFile 209 = .ok (.invokevirtual 582, 3) := by decide +kernel
theorem dX14_readFile_212 : decode cX14_readFile 212 = .ok (.putfield 589, 3) := by decide +kernel
theorem dX14_readFile_215 : decode cX14_readFile 215 = .ok (.aload 4, 2) := by decide +kernel
theorem dX14_readFile_217 : decode cX14_readFile 217 = .ok (.aload_n 0, 1) := by decide +kernel
theorem dX14_readFile_218 : decode cX14_readFile 218 = .ok (.getfield 338, 3) := by decide +kernel
theorem dX14_readFile_221 : decode cX14_readFile 221 = .ok (.putfield 591, 3) := by decide +kernel
theorem dX14_readFile_224 : decode cX14_readFile 224 = .ok (.aload 4, 2) := by decide +kernel
theorem dX14_readFile_226 : decode cX14_readFile 226 = .ok (.aload_n 0, 1) := by decide +kernel
theorem dX14_readFile_227 : decode cX14_readFile 227 = .ok (.getfield 358, 3) := by decide +kernel
theorem dX14_readFile_230 : decode cX14_readFile 230 = .ok (.putfield 594, 3) := by decide +kernel
theorem dX14_readFile_233 : decode cX14_readFile 233 = .ok (.aload 4, 2) := by decide +kernel
theorem dX14_readFile_235 : decode cX14_readFile 235 = .ok (.iload_n 3, 1) := by decide +kernel
theorem dX14_readFile_236 : decode cX14_readFile 236 = .ok (.putfield 597, 3) := by decide +kernel
theorem dX14_readFile_239 : decode cX14_readFile 239 = .ok (.iconst 0, 1) := by decide +kernel
theorem dX14_readFile_240 : decode cX14_readFile 240 = .ok (.istore 5, 2) := by decide +kernel
theorem dX14_readFile_242 : decode cX14_readFile 242 = .ok (.iload 5, 2) := by decide +kernel
theorem dX14_readFile_244 : decode cX14_readFile 244 = .ok (.aload_n 0, 1) := by decide +kernel
theorem dX14_readFile_245 : decode cX14_readFile 245 = .ok (.getfield 358, 3) := by decide +kernel
theorem dX14_readFile_248 : decode cX14_readFile 248 = .ok (.if_icmp .ge 79, 3) := by decide +kernel
theorem dX14_readFile_251 : decode cX14_readFile 251 = .ok (.aload 4, 2) := by decide +kernel
theorem dX14_readFile_253 : decode cX14_readFile 253 = .ok (.getfield 600, 3) := by decide +kernel
theorem dX14_readFile_256 : decode cX14_readFile 256 = .ok (.iload 5, 2) := by decide +kernel
theorem dX14_readFile_258 : decode cX14_readFile 258 = .ok (.aload_n 0, 1) := by decide +kernel
theorem dX14_readFile_259 : decode cX14_readFile 259 = .ok (.aload_n 0, 1) := by decide +kernel
theorem dX14_readFile_260 : decode cX14_readFile 260 = .ok (.aload_n 0, 1) := by decide +kernel
theorem dX14_readFile_261 : decode cX14_readFile 261 = .ok (.getfield 47, 3) := by decide +kernel
theorem dX14_readFile_264 : decode cX14_readFile 264 = .ok (.iload 5, 2) := by decide +kernel
theorem dX14_readFile_266 : decode cX14_readFile 266 = .ok (.iaload, 1) := by decide +kernel
theorem dX14_readFile_267 : decode cX14_readFile 267 = .ok (.iconst 2, 1) := by decide +kernel
theorem dX14_readFile_268 : decode cX14_readFile 268 = .ok (.iadd, 1) := by decide +kernel
theorem dX14_readFile_269 : decode cX14_readFile 269 = .ok (.invokevirtual 316, 3) := by decide +kernel
theorem dX14_readFile_272 : decode cX14_readFile 272 = .ok (.invokevirtual 582, 3) := by decide +kernel
theorem dX14_readFile_275 : decode cX14_readFile 275 = .ok (.aastore, 1) := by decide +kernel
theorem dX14_readFile_276 : decode cX14_readFile 276 = .ok (.aload 4, 2) := by decide +kernel
theorem dX14_readFile_278 : decode cX14_readFile 278 = .ok (.getfield 603, 3) := by decide +kernel
theorem dX14_readFile_281 : decode cX14_readFile 281 = .ok (.iload 5, 2) := by decide +kernel
theorem dX14_readFile_283 : decode cX14_readFile 283 = .ok (.aload_n 0, 1) := by decide +kernel
theorem dX14_readFile_284 : decode cX14_readFile 284 = .ok (.aload_n 0, 1) := by decide +kernel
theorem dX14_readFile_285 : decode cX14_readFile 285 = .ok (.aload_n 0, 1) := by decide +kernel
theorem dX14_readFile_286 : decode cX14_readFile 286 = .ok (.getfield 47, 3) := by decide +kernel
theorem dX14_readFile_289 : decode cX14_readFile 289 = .ok (.iload 5, 2) := by decide +kernel
theorem dX14_readFile_291 : decode cX14_readFile 291 = .ok (.iaload, 1) := by decide +kernel
theorem dX14_readFile_292 : decode cX14_readFile 292 = .ok (.iconst 4, 1) := by decide +kernel
theorem dX14_readFile_293 : decode cX14_readFile 293 = .ok (.iadd, 1) := by decide +kernel
theorem dX14_readFile_294 : decode cX14_readFile 294 = .ok (.invokevirtual 316, 3) := by decide +kernel
theorem dX14_readFile_297 : decode cX14_readFile 297 = .ok (.invokevirtual 582, 3) := by decide +kernel
theorem dX14_readFile_300 : decode cX14_readFile 300 = .ok (.aastore, 1) := by decide +kernel
theorem dX14_readFile_301 : decode cX14_readFile 301 = .ok (.aload 4, 2) := by decide +kernel
theorem dX14_readFile_303 : decode cX14_readFile 303 = .ok (.getfield 606, 3) := by decide +kernel
theorem dX14_readFile_306 : decode cX14_readFile 306 = .ok (.iload 5, 2) := by decide +kernel
theorem dX14_readFile_308 : decode cX14_readFile 308 = .ok (.aload 4, 2) := by decide +kernel
theorem dX14_readFile_310 : decode cX14_readFile 310 = .ok (.getfield 603, 3) := by decide +kernel
theorem dX14_readFile_313 : decode cX14_readFile 313 = .ok (.iload 5, 2) := by decide +kernel
theorem dX14_readFile_315 : decode cX14_readFile 315 = .ok (.aaload, 1) := by decide +kernel
theorem dX14_readFile_316 : decode cX14_readFile 316 = .ok (.iconst 0, 1) := by decide +kernel
theorem dX14_readFile_317 : decode cX14_readFile 317 = .ok (.invokestatic 609, 3) := by decide +kernel
theorem dX14_readFile_320 : decode cX14_readFile 320 = .ok (.aastore, 1) := by decide +kernel
theorem dX14_readFile_321 : decode cX14_readFile 321 = .ok (.iinc 5 1, 3) := by decide +kernel
theorem dX14_readFile_324 : decode cX14_readFile 324 = .ok (.goto (-82), 3) := by decide +kernel
theorem dX14_readFile_327 : decode cX14_readFile 327 = .ok (.iconst 0, 1) := by decide +kernel
theorem dX14_readFile_328 : decode cX14_readFile 328 = .ok (.istore 5, 2) := by decide +kernel
theorem dX14_readFile_330 : decode cX14_readFile 330 = .ok (.iload 5, 2) := by decide +kernel
theorem dX14_readFile_332 : decode cX14_readFile 332 = .ok (.iload_n 3, 1) := by decide +kernel
theorem dX14_readFile_333 : decode cX14_readFile 333 = .ok (.if_icmp .ge 137, 3) := by decide +kernel
theorem dX14_readFile_336 : decode cX14_readFile 336 = .ok (.aload 4, 2) := by decide +kernel
theorem dX14_readFile_338 : decode cX14_readFile 338 = .ok (.getfield 613, 3) := by decide +kernel
theorem dX14_readFile_341 : decode cX14_readFile 341 = .ok (.iload 5, 2) := by decide +kernel
theorem dX14_readFile_343 : decode cX14_readFile 343 = .ok (.aload_n 0, 1) := by decide +kernel
theorem dX14_readFile_344 : decode cX14_readFile 344 = .ok (.aload_n 0, 1) := by decide +kernel
theorem dX14_readFile_345 : decode cX14_readFile 345 = .ok (.aload_n 0, 1) := by decide +kernel
theorem dX14_readFile_346 : decode cX14_readFile 346 = .ok (.getfield 47, 3) := by decide +kernel
theorem dX14_readFile_349 : decode cX14_readFile 349 = .ok (.aload_n 0, 1) := by decide +kernel
theorem dX14_readFile_350 : decode cX14_readFile 350 = .ok (.getfield 358, 3) := by decide +kernel
theorem dX14_readFile_353 : decode cX14_readFile 353 = .ok (.iload 5, 2) := by decide +kernel
theorem dX14_readFile_355 : decode cX14_readFile 355 = .ok (.iadd, 1) := by decide +kernel
theorem dX14_readFile_356 : decode cX14_readFile 356 = .ok (.iaload, 1) := by decide +kernel
theorem dX14_readFile_357 : decode cX14_readFile 357 = .ok (.iconst 2, 1) := by decide +kernel
theorem dX14_readFile_358 : decode cX14_readFile 358 = .ok (.iadd, 1) := by decide +kernel
theorem dX14_readFile_359 : decode cX14_readFile 359 = .ok (.invokevirtual 316, 3) := by decide +kernel
theorem dX14_readFile_362 : decode cX14_readFile 362 = .ok (.invokevirtual 582, 3) := by decide +kernel
theorem dX14_readFile_365 : decode cX14_readFile 365 = .ok (.aastore, 1) := by decide +kernel
theorem dX14_readFile_366 : decode cX14_readFile 366 = .ok (.aload_n 0, 1) := by decide +kernel
theorem dX14_readFile_367 : decode cX14_readFile 367 = .ok (.aload_n 0, 1) := by decide +kernel
theorem dX14_readFile_368 : decode cX14_readFile 368 = .ok (.aload_n 0, 1) := by decide +kernel
theorem dX14_readFile_369 : decode cX14_readFile 369 = .ok (.getfield 47, 3) := by decide +kernel
theorem dX14_readFile_372 : decode cX14_readFile 372 = .ok (.aload_n 0, 1) := by decide +kernel
theorem dX14_readFile_373 : decode cX14_readFile 373 = .ok (.getfield 358, 3) := by decide +kernel
theorem dX14_readFile_376 : decode cX14_readFile 376 = .ok (.iload 5, 2) := by decide +kernel
theorem dX14_readFile_378 : decode cX14_readFile 378 = .ok (.iadd, 1) := by decide +kernel
theorem dX14_readFile_379 : decode cX14_readFile 379 = .ok (.iaload, 1) := by decide +kernel
theorem dX14_readFile_380 : decode cX14_readFile 380 = .ok (.iconst 4, 1) := by decide +kernel
theorem dX14_readFile_381 : decode cX14_readFile 381 = .ok (.iadd, 1) := by decide +kernel
theorem dX14_readFile_382 : decode cX14_readFile 382 = .ok (.invokevirtual 316, 3) := by decide +kernel
theorem dX14_readFile_385 : decode cX14_readFile 385 = .ok (.invokevirtual 582, 3) := by decide +kernel
theorem dX14_readFile_388 : decode cX14_readFile 388 = .ok (.astore 6, 2) := by decide +kernel
theorem dX14_readFile_390 : decode cX14_readFile 390 = .ok (.aload 4, 2) := by decide +kernel
theorem dX14_readFile_392 : decode cX14_readFile 392 = .ok (.getfield 616, 3) := by decide +kernel
theorem dX14_readFile_395 : decode cX14_readFile 395 = .ok (.iload 5, 2) := by decide +kernel
theorem dX14_readFile_397 : decode cX14_readFile 397 = .ok (.aload 6, 2) := by decide +kernel
theorem dX14_readFile_399 : decode cX14_readFile 399 = .ok (.aastore, 1) := by decide +kernel
theorem dX14_readFile_400 : decode cX14_readFile 400 = .ok (.aload 4, 2) := by decide +kernel
theorem dX14_readFile_402 : decode cX14_readFile 402 = .ok (.getfield 619, 3) := by decide +kernel
theorem dX14_readFile_405 : decode cX14_readFile 405 = .ok (.iload 5, 2) := by decide +kernel
theorem dX14_readFile_407 : decode cX14_readFile 407 = .ok (.aload 6, 2) := by decide +kernel
theorem dX14_readFile_409 : decode cX14_readFile 409 = .ok (.iconst 1, 1) := by decide +kernel
theorem dX14_readFile_410 : decode cX14_readFile 410 = .ok (.invokestatic 609, 3) := by decide +kernel
theorem dX14_readFile_413 : decode cX14_readFile 413 = .ok (.aastore, 1) := by decide +kernel
theorem dX14_readFile_414 : decode cX14_readFile 414 = .ok (.aload 4, 2) := by decide +kernel
theorem dX14_readFile_416 : decode cX14_readFile 416 = .ok (.getfield 622, 3) := by decide +kernel
theorem dX14_readFile_419 : decode cX14_readFile 419 = .ok (.iload 5, 2) := by decide +kernel
theorem dX14_readFile_421 : decode cX14_readFile 421 = .ok (.aload 6, 2) := by decide +kernel
theorem dX14_readFile_423 : decode cX14_readFile 423 = .ok (.aload 6, 2) := by decide +kernel
theorem dX14_readFile_425 : decode cX14_readFile 425 = .ok (.invokestatic 625, 3) := by decide +kernel
theorem dX14_readFile_428 : decode cX14_readFile 428 = .ok (.iconst 1, 1) := by decide +kernel
theorem dX14_readFile_429 : decode cX14_readFile 429 = .ok (.iadd, 1) := by decide +kernel
theorem dX14_readFile_430 : decode cX14_readFile 430 = .ok (.invokestatic 609, 3) := by decide +kernel
theorem dX14_readFile_433 : decode cX14_readFile 433 = .ok (.aastore, 1) := by decide +kernel
theorem dX14_readFile_434 : decode cX14_readFile 434 = .ok (.aload 4, 2) := by decide +kernel
theorem dX14_readFile_436 : decode cX14_readFile 436 = .ok (.getfield 629, 3) := by decide +kernel
theorem dX14_readFile_439 : decode cX14_readFile 439 = .ok (.iload 5, 2) := by decide +kernel
theorem dX14_readFile_441 : decode cX14_readFile 441 = .ok (.aload_n 0, 1) := by decide +kernel
theorem dX14_readFile_442 : decode cX14_readFile 442 = .ok (.getfield 56, 3) := by decide +kernel
theorem dX14_readFile_445 : decode cX14_readFile 445 = .ok (.iload 5, 2) := by decide +kernel
theorem dX14_readFile_447 : decode cX14_readFile 447 = .ok (.iaload, 1) := by decide +kernel
theorem dX14_readFile_448 : decode cX14_readFile 448 = .ok (.iastore, 1) := by decide +kernel
theorem dX14_readFile_449 : decode cX14_readFile 449 = .ok (.aload 4, 2) := by decide +kernel
theorem dX14_readFile_451 : decode cX14_readFile 451 = .ok (.getfield 632, 3) := by decide +kernel
theorem dX14_readFile_454 : decode cX14_readFile 454 = .ok (.iload 5, 2) := by decide +kernel
theorem dX14_readFile_456 : decode cX14_readFile 456 = .ok (.aload_n 0, 1) := by decide +kernel
theorem dX14_readFile_457 : decode cX14_readFile 457 = .ok (.getfield 59, 3) := by decide +kernel
theorem dX14_readFile_460 : decode cX14_readFile 460 = .ok (.iload 5, 2) := by decide +kernel
theorem dX14_readFile_462 : decode cX14_readFile 462 = .ok (.iaload, 1) := by decide +kernel
theorem dX14_readFile_463 : decode cX14_readFile 463 = .ok (.iastore, 1) := by decide +kernel
theorem dX14_readFile_464 : decode cX14_readFile 464 = .ok (.iinc 5 1, 3) := by decide +kernel
theorem dX14_readFile_467 : decode cX14_readFile 467 = .ok (.goto (-137), 3) := by decide +kernel
theorem dX14_readFile_470 : decode cX14_readFile 470 = .ok (.aload 4, 2) := by decide +kernel
theorem dX14_readFile_472 : decode cX14_readFile 472 = .ok (.aload_n 0, 1) := by decide +kernel
theorem dX14_readFile_473 : decode cX14_readFile 473 = .ok (.getfield 78, 3) := by decide +kernel
theorem dX14_readFile_476 : decode cX14_readFile 476 = .ok (.iconst 3, 1) := by decide +kernel
theorem dX14_readFile_477 : decode cX14_readFile 477 = .ok (.aload_n 0, 1) := by decide +kernel
theorem dX14_readFile_478 : decode cX14_readFile 478 = .ok (.getfield 459, 3) := by decide +kernel
theorem dX14_readFile_481 : decode cX14_readFile 481 = .ok (.imul, 1) := by decide +kernel
theorem dX14_readFile_482 : decode cX14_readFile 482 = .ok (.invokestatic 634, 3) := by decide +kernel
theorem dX14_readFile_485 : decode cX14_readFile 485 = .ok (.putfield 638, 3) := by decide +kernel
theorem dX14_readFile_488 : decode cX14_readFile 488 = .ok (.aload 4, 2) := by decide +kernel
theorem dX14_readFile_490 : decode cX14_readFile 490 = .ok (.aload_n 0, 1) := by decide +kernel
theorem dX14_readFile_491 : decode cX14_readFile 491 = .ok (.getfield 82, 3) := by decide +kernel
theorem dX14_readFile_494 : decode cX14_readFile 494 = .ok (.aload_n 0, 1) := by decide +kernel
theorem dX14_readFile_495 : decode cX14_readFile 495 = .ok (.getfield 501, 3) := by decide +kernel
theorem dX14_readFile_498 : decode cX14_readFile 498 = .ok (.invokestatic 634, 3) := by decide +kernel
theorem dX14_readFile_501 : decode cX14_readFile 501 = .ok (.putfield 641, 3) := by decide +kernel
theorem dX14_readFile_504 : decode cX14_readFile 504 = .ok (.aload 4, 2) := by decide +kernel
theorem dX14_readFile_506 : decode cX14_readFile 506 = .ok (.aload_n 0, 1) := by decide +kernel
theorem dX14_readFile_507 : decode cX14_readFile 507 = .ok (.getfield 85, 3) := by decide +kernel
theorem dX14_readFile_510 : decode cX14_readFile 510 = .ok (.iconst 4, 1) := by decide +kernel
theorem dX14_readFile_511 : decode cX14_readFile 511 = .ok (.aload_n 0, 1) := by decide +kernel
theorem dX14_readFile_512 : decode cX14_readFile 512 = .ok (.getfield 516, 3) := by decide +kernel
theorem dX14_readFile_515 : decode cX14_readFile 515 = .ok (.imul, 1) := by decide +kernel
theorem dX14_readFile_516 : decode cX14_readFile 516 = .ok (.invokestatic 634, 3) := by decide +kernel
theorem dX14_readFile_519 : decode cX14_readFile 519 = .ok (.putfield 644, 3) := by decide +kernel
theorem dX14_readFile_522 : decode cX14_readFile 522 = .ok (.aload 4, 2) := by decide +kernel
theorem dX14_readFile_524 : decode cX14_readFile 524 = .ok (.areturn, 1) := by decide +kernel
theorem dX14_result_0 : decode cX14_result 0 = .ok (.aload_n 0, 1) := by decide +kernel
theorem dX14_result_1 : decode cX14_result 1 = .ok (.getfield 980, 3) := by decide +kernel
theorem dX14_result_4 : decode cX14_result 4 = .ok (.lreturn, 1) := by decide +kernel
theorem dX14_rounds_0 : decode cX14_rounds 0 = .ok (.iconst 1, 1) := by decide +kernel
theorem dX14_rounds_1 : decode cX14_rounds 1 = .ok (.istore_n 2, 1) := by decide +kernel
theorem dX14_rounds_2 : decode cX14_rounds 2 = .ok (.iconst 0, 1) := by decide +kernel
theorem dX14_rounds_3 : decode cX14_rounds 3 = .ok (.istore_n 3, 1) := by decide +kernel
theorem dX14_rounds_4 : decode cX14_rounds 4 = .ok (.iload_n 2, 1) := by decide +kernel
theorem dX14_rounds_5 : decode cX14_rounds 5 = .ok (.ifCond .eq 64, 3) := by decide +kernel
theorem dX14_rounds_8 : decode cX14_rounds 8 = .ok (.iload_n 3, 1) := by decide +kernel
theorem dX14_rounds_9 : decode cX14_rounds 9 = .ok (.bipush 50, 2) := by decide +kernel
theorem dX14_rounds_11 : decode cX14_rounds 11 = .ok (.if_icmp .ge 58, 3) := by decide +kernel
theorem dX14_rounds_14 : decode cX14_rounds 14 = .ok (.iconst 0, 1) := by decide +kernel
theorem dX14_rounds_15 : decode cX14_rounds 15 = .ok (.istore_n 2, 1) := by decide +kernel
theorem dX14_rounds_16 : decode cX14_rounds 16 = .ok (.iconst 1, 1) := by decide +kernel
theorem dX14_rounds_17 : decode cX14_rounds 17 = .ok (.istore 4, 2) := by decide +kernel
theorem dX14_rounds_19 : decode cX14_rounds 19 = .ok (.iload 4, 2) := by decide +kernel
theorem dX14_rounds_21 : decode cX14_rounds 21 = .ok (.bipush 11, 2) := by decide +kernel
theorem dX14_rounds_23 : decode cX14_rounds 23 = .ok (.if_icmp .gt 40, 3) := by decide +kernel
theorem dX14_rounds_26 : decode cX14_rounds 26 = .ok (.iload_n 1, 1) := by decide +kernel
theorem dX14_rounds_27 : decode cX14_rounds 27 = .ok (.iload 4, 2) := by decide +kernel
theorem dX14_rounds_29 : decode cX14_rounds 29 = .ok (.iconst 1, 1) := by decide +kernel
theorem dX14_rounds_30 : decode cX14_rounds 30 = .ok (.isub, 1) := by decide +kernel
theorem dX14_rounds_31 : decode cX14_rounds 31 = .ok (.ishr, 1) := by decide +kernel
theorem dX14_rounds_32 : decode cX14_rounds 32 = .ok (.iconst 1, 1) := by decide +kernel
theorem dX14_rounds_33 : decode cX14_rounds 33 = .ok (.iand, 1) := by decide +kernel
theorem dX14_rounds_34 : decode cX14_rounds 34 = .ok (.iconst 1, 1) := by decide +kernel
theorem dX14_rounds_35 : decode cX14_rounds 35 = .ok (.if_icmp .ne 22, 3) := by decide +kernel
theorem dX14_rounds_38 : decode cX14_rounds 38 = .ok (.aload_n 0, 1) := by decide +kernel
theorem dX14_rounds_39 : decode cX14_rounds 39 = .ok (.iload 4, 2) := by decide +kernel
theorem dX14_rounds_41 : decode cX14_rounds 41 = .ok (.invokevirtual 1145, 3) := by decide +kernel
theorem dX14_rounds_44 : decode cX14_rounds 44 = .ok (.ifCond .ne 7, 3) := by decide +kernel
theorem dX14_rounds_47 : decode cX14_rounds 47 = .ok (.iload_n 2, 1) := by decide +kernel
theorem dX14_rounds_48 : decode cX14_rounds 48 = .ok (.ifCond .eq 7, 3) := by decide +kernel
theorem dX14_rounds_51 : decode cX14_rounds 51 = .ok (.iconst 1, 1) := by decide +kernel
theorem dX14_rounds_52 : decode cX14_rounds 52 = .ok (.goto 4, 3) := by decide +kernel
theorem dX14_rounds_55 : decode cX14_rounds 55 = .ok (.iconst 0, 1) := by decide +kernel
theorem dX14_rounds_56 : decode cX14_rounds 56 = .ok (.istore_n 2, 1) := by decide +kernel
theorem dX14_rounds_57 : decode cX14_rounds 57 = .ok (.iinc 4 1, 3) := by decide +kernel
theorem dX14_rounds_60 : decode cX14_rounds 60 = .ok (.goto (-41), 3) := by decide +kernel
theorem dX14_rounds_63 : decode cX14_rounds 63 = .ok (.iinc 3 1, 3) := by decide +kernel
theorem dX14_rounds_66 : decode cX14_rounds 66 = .ok (.goto (-62), 3) := by decide +kernel
theorem dX14_rounds_69 : decode cX14_rounds 69 = .ok (.return_, 1) := by decide +kernel
theorem dX14_row_0 : decode cX14_row 0 = .ok (.aload_n 0, 1) := by decide +kernel
theorem dX14_row_1 : decode cX14_row 1 = .ok (.getfield 78, 3) := by decide +kernel
theorem dX14_row_4 : decode cX14_row 4 = .ok (.iconst 3, 1) := by decide +kernel
theorem dX14_row_5 : decode cX14_row 5 = .ok (.aload_n 0, 1) := by decide +kernel
theorem dX14_row_6 : decode cX14_row 6 = .ok (.getfield 459, 3) := by decide +kernel
theorem dX14_row_9 : decode cX14_row 9 = .ok (.imul, 1) := by decide +kernel
theorem dX14_row_10 : decode cX14_row 10 = .ok (.iload_n 1, 1) := by decide +kernel
theorem dX14_row_11 : decode cX14_row 11 = .ok (.iastore, 1) := by decide +kernel
theorem dX14_row_12 : decode cX14_row 12 = .ok (.aload_n 0, 1) := by decide +kernel
theorem dX14_row_13 : decode cX14_row 13 = .ok (.getfield 78, 3) := by decide +kernel
theorem dX14_row_16 : decode cX14_row 16 = .ok (.iconst 3, 1) := by decide +kernel
theorem dX14_row_17 : decode cX14_row 17 = .ok (.aload_n 0, 1) := by decide +kernel
theorem dX14_row_18 : decode cX14_row 18 = .ok (.getfield 459, 3) := by decide +kernel
theorem dX14_row_21 : decode cX14_row 21 = .ok (.imul, 1) := by decide +kernel
theorem dX14_row_22 : decode cX14_row 22 = .ok (.iconst 1, 1) := by decide +kernel
theorem dX14_row_23 : decode cX14_row 23 = .ok (.iadd, 1) := by decide +kernel
theorem dX14_row_24 : decode cX14_row 24 = .ok (.iload_n 2, 1) := by decide +kernel
theorem dX14_row_25 : decode cX14_row 25 = .ok (.iastore, 1) := by decide +kernel
theorem dX14_row_26 : decode cX14_row 26 = .ok (.aload_n 0, 1) := by decide +kernel
theorem dX14_row_27 : decode cX14_row 27 = .ok (.getfield 78, 3) := by decide +kernel
theorem dX14_row_30 : decode cX14_row 30 = .ok (.iconst 3, 1) := by decide +kernel
theorem dX14_row_31 : decode cX14_row 31 = .ok (.aload_n 0, 1) := by decide +kernel
theorem dX14_row_32 : decode cX14_row 32 = .ok (.getfield 459, 3) := by decide +kernel
theorem dX14_row_35 : decode cX14_row 35 = .ok (.imul, 1) := by decide +kernel
theorem dX14_row_36 : decode cX14_row 36 = .ok (.iconst 2, 1) := by decide +kernel
theorem dX14_row_37 : decode cX14_row 37 = .ok (.iadd, 1) := by decide +kernel
theorem dX14_row_38 : decode cX14_row 38 = .ok (.iload_n 3, 1) := by decide +kernel
theorem dX14_row_39 : decode cX14_row 39 = .ok (.iastore, 1) := by decide +kernel
theorem dX14_row_40 : decode cX14_row 40 = .ok (.aload_n 0, 1) := by decide +kernel
theorem dX14_row_41 : decode cX14_row 41 = .ok (.dup, 1) := by decide +kernel
theorem dX14_row_42 : decode cX14_row 42 = .ok (.getfield 459, 3) := by decide +kernel
theorem dX14_row_45 : decode cX14_row 45 = .ok (.iconst 1, 1) := by decide +kernel
theorem dX14_row_46 : decode cX14_row 46 = .ok (.iadd, 1) := by decide +kernel
theorem dX14_row_47 : decode cX14_row 47 = .ok (.putfield 459, 3) := by decide +kernel
theorem dX14_row_50 : decode cX14_row 50 = .ok (.return_, 1) := by decide +kernel
theorem dX14_rule_0 : decode cX14_rule 0 = .ok (.aload_n 0, 1) := by decide +kernel
theorem dX14_rule_1 : decode cX14_rule 1 = .ok (.getfield 306, 3) := by decide +kernel
theorem dX14_rule_4 : decode cX14_rule 4 = .ok (.ireturn, 1) := by decide +kernel
theorem dX14_run_0 : decode cX14_run 0 = .ok (.aload_n 0, 1) := by decide +kernel
theorem dX14_run_1 : decode cX14_run 1 = .ok (.getfield 970, 3) := by decide +kernel
theorem dX14_run_4 : decode cX14_run 4 = .ok (.istore_n 3, 1) := by decide +kernel
theorem dX14_run_5 : decode cX14_run 5 = .ok (.aload_n 0, 1) := by decide +kernel
theorem dX14_run_6 : decode cX14_run 6 = .ok (.iconst 0, 1) := by decide +kernel
theorem dX14_run_7 : decode cX14_run 7 = .ok (.putfield 970, 3) := by decide +kernel
theorem dX14_run_10 : decode cX14_run 10 = .ok (.aload_n 0, 1) := by decide +kernel
theorem dX14_run_11 : decode cX14_run 11 = .ok (.getfield 961, 3) := by decide +kernel
theorem dX14_run_14 : decode cX14_run 14 = .ok (.ifnull 18, 3) := by decide +kernel
theorem dX14_run_17 : decode cX14_run 17 = .ok (.iload_n 1, 1) := by decide +kernel
theorem dX14_run_18 : decode cX14_run 18 = .ok (.ifCond .lt 14, 3) := by decide +kernel
theorem dX14_run_21 : decode cX14_run 21 = .ok (.iload_n 1, 1) := by decide +kernel
theorem dX14_run_22 : decode cX14_run 22 = .ok (.aload_n 0, 1) := by decide +kernel
theorem dX14_run_23 : decode cX14_run 23 = .ok (.getfield 961, 3) := by decide +kernel
theorem dX14_run_26 : decode cX14_run 26 = .ok (.getfield 597, 3) := by decide +kernel
theorem dX14_run_29 : decode cX14_run 29 = .ok (.if_icmp .lt 5, 3) := by decide +kernel
theorem dX14_run_32 : decode cX14_run 32 = .ok (.iconst (-1), 1) := by decide +kernel
theorem dX14_run_33 : decode cX14_run 33 = .ok (.ireturn, 1) := by decide +kernel
theorem dX14_run_34 : decode cX14_run 34 = .ok (.aload_n 0, 1) := by decide +kernel
theorem dX14_run_35 : decode cX14_run 35 = .ok (.getfield 961, 3) := by decide +kernel
theorem dX14_run_38 : decode cX14_run 38 = .ok (.getfield 619, 3) := by decide +kernel
theorem dX14_run_41 : decode cX14_run 41 = .ok (.iload_n 1, 1) := by decide +kernel
theorem dX14_run_42 : decode cX14_run 42 = .ok (.aaload, 1) := by decide +kernel
theorem dX14_run_43 : decode cX14_run 43 = .ok (.astore 4, 2) := by decide +kernel
theorem dX14_run_45 : decode cX14_run 45 = .ok (.iload_n 3, 1) := by decide +kernel
theorem dX14_run_46 : decode cX14_run 46 = .ok (.aload 4, 2) := by decide +kernel
theorem dX14_run_48 : decode cX14_run 48 = .ok (.invokevirtual 404, 3) := by decide +kernel
theorem dX14_run_51 : decode cX14_run 51 = .ok (.if_icmp .eq 6, 3) := by decide +kernel
theorem dX14_run_54 : decode cX14_run 54 = .ok (.bipush (-2), 2) := by decide +kernel
theorem dX14_run_56 : decode cX14_run 56 = .ok (.ireturn, 1) := by decide +kernel
theorem dX14_run_57 : decode cX14_run 57 = .ok (.iconst 0, 1) := by decide +kernel
theorem dX14_run_58 : decode cX14_run 58 = .ok (.istore 5, 2) := by decide +kernel
theorem dX14_run_60 : decode cX14_run 60 = .ok (.iload 5, 2) := by decide +kernel
theorem dX14_run_62 : decode cX14_run 62 = .ok (.iload_n 3, 1) := by decide +kernel
theorem dX14_run_63 : decode cX14_run 63 = .ok (.if_icmp .ge 52, 3) := by decide +kernel
theorem dX14_run_66 : decode cX14_run 66 = .ok (.aload 4, 2) := by decide +kernel
theorem dX14_run_68 : decode cX14_run 68 = .ok (.iload 5, 2) := by decide +kernel
theorem dX14_run_70 : decode cX14_run 70 = .ok (.invokevirtual 408, 3) := by decide +kernel
theorem dX14_run_73 : decode cX14_run 73 = .ok (.bipush 65, 2) := by decide +kernel
theorem dX14_run_75 : decode cX14_run 75 = .ok (.if_icmp .ne 34, 3) := by decide +kernel
theorem dX14_run_78 : decode cX14_run 78 = .ok (.aload_n 0, 1) := by decide +kernel
theorem dX14_run_79 : decode cX14_run 79 = .ok (.getfield 158, 3) := by decide +kernel
theorem dX14_run_82 : decode cX14_run 82 = .ok (.iload 5, 2) := by decide +kernel
theorem dX14_run_84 : decode cX14_run 84 = .ok (.laload, 1) := by decide +kernel
theorem dX14_run_85 : decode cX14_run 85 = .ok (.lconst 0, 1) := by decide +kernel
theorem dX14_run_86 : decode cX14_run 86 = .ok (.lcmp, 1) := by decide +kernel
theorem dX14_run_87 : decode cX14_run 87 = .ok (.ifCond .lt 19, 3) := by decide +kernel
theorem dX14_run_90 : decode cX14_run 90 = .ok (.aload_n 0, 1) := by decide +kernel
theorem dX14_run_91 : decode cX14_run 91 = .ok (.getfield 158, 3) := by decide +kernel
theorem dX14_run_94 : decode cX14_run 94 = .ok (.iload 5, 2) := by decide +kernel
theorem dX14_run_96 : decode cX14_run 96 = .ok (.laload, 1) := by decide +kernel
theorem dX14_run_97 : decode cX14_run 97 = .ok (.aload_n 0, 1) := by decide +kernel
theorem dX14_run_98 : decode cX14_run 98 = .ok (.getfield 964, 3) := by decide +kernel
theorem dX14_run_101 : decode cX14_run 101 = .ok (.i2l, 1) := by decide +kernel
theorem dX14_run_102 : decode cX14_run 102 = .ok (.lcmp, 1) := by decide +kernel
theorem dX14_run_103 : decode cX14_run 103 = .ok (.ifCond .le 6, 3) := by decide +kernel
theorem dX14_run_106 : decode cX14_run 106 = .ok (.bipush (-2), 2) := by decide +kernel
theorem dX14_run_108 : decode cX14_run 108 = .ok (.ireturn, 1) := by decide +kernel
theorem dX14_run_109 : decode cX14_run 109 = .ok (.iinc 5 1, 3) := by decide +kernel
theorem dX14_run_112 : decode cX14_run 112 = .ok (.goto (-52), 3) := by decide +kernel
theorem dX14_run_115 : decode cX14_run 115 = .ok (.iload_n 2, 1) := by decide +kernel
theorem dX14_run_116 : decode cX14_run 116 = .ok (.ifCond .lt 10, 3) := by decide +kernel
theorem dX14_run_119 : decode cX14_run 119 = .ok (.iload_n 2, 1) := by decide +kernel
theorem dX14_run_120 : decode cX14_run 120 = .ok (.ldc_w 973, 3) := by decide +kernel
theorem dX14_run_123 : decode cX14_run 123 = .ok (.if_icmp .le 6, 3) := by decide +kernel
theorem dX14_run_126 : decode cX14_run 126 = .ok (.bipush (-3), 2) := by decide +kernel
theorem dX14_run_128 : decode cX14_run 128 = .ok (.ireturn, 1) := by decide +kernel
theorem dX14_run_129 : decode cX14_run 129 = .ok (.aload_n 0, 1) := by decide +kernel
theorem dX14_run_130 : decode cX14_run 130 = .ok (.iconst 0, 1) := by decide +kernel
theorem dX14_run_131 : decode cX14_run 131 = .ok (.putfield 974, 3) := by decide +kernel
theorem dX14_run_134 : decode cX14_run 134 = .ok (.aload_n 0, 1) := by decide +kernel
theorem dX14_run_135 : decode cX14_run 135 = .ok (.iconst (-1), 1) := by decide +kernel
theorem dX14_run_136 : decode cX14_run 136 = .ok (.putfield 977, 3) := by decide +kernel
theorem dX14_run_139 : decode cX14_run 139 = .ok (.aload_n 0, 1) := by decide +kernel
theorem dX14_run_140 : decode cX14_run 140 = .ok (.iconst (-1), 1) := by decide +kernel
theorem dX14_run_141 : decode cX14_run 141 = .ok (.putfield 182, 3) := by decide +kernel
theorem dX14_run_144 : decode cX14_run 144 = .ok (.aload_n 0, 1) := by decide +kernel
theorem dX14_run_145 : decode cX14_run 145 = .ok (.lconst 0, 1) := by decide +kernel
theorem dX14_run_146 : decode cX14_run 146 = .ok (.putfield 980, 3) := by decide +kernel
theorem dX14_run_149 : decode cX14_run 149 = .ok (.aload_n 0, 1) := by decide +kernel
theorem dX14_run_150 : decode cX14_run 150 = .ok (.iconst 0, 1) := by decide +kernel
theorem dX14_run_151 : decode cX14_run 151 = .ok (.putfield 983, 3) := by decide +kernel
theorem dX14_run_154 : decode cX14_run 154 = .ok (.aload_n 0, 1) := by decide +kernel
theorem dX14_run_155 : decode cX14_run 155 = .ok (.iload_n 1, 1) := by decide +kernel
theorem dX14_run_156 : decode cX14_run 156 = .ok (.invokevirtual 986, 3) := by decide +kernel
theorem dX14_run_159 : decode cX14_run 159 = .ok (.iconst 0, 1) := by decide +kernel
theorem dX14_run_160 : decode cX14_run 160 = .ok (.istore 5, 2) := by decide +kernel
theorem dX14_run_162 : decode cX14_run 162 = .ok (.iconst 0, 1) := by decide +kernel
theorem dX14_run_163 : decode cX14_run 163 = .ok (.istore 6, 2) := by decide +kernel
theorem dX14_run_165 : decode cX14_run 165 = .ok (.iload 6, 2) := by decide +kernel
theorem dX14_run_167 : decode cX14_run 167 = .ok (.iload_n 3, 1) := by decide +kernel
theorem dX14_run_168 : decode cX14_run 168 = .ok (.if_icmp .ge 140, 3) := by decide +kernel
theorem dX14_run_171 : decode cX14_run 171 = .ok (.aload_n 0, 1) := by decide +kernel
theorem dX14_run_172 : decode cX14_run 172 = .ok (.getfield 170, 3) := by decide +kernel
theorem dX14_run_175 : decode cX14_run 175 = .ok (.iload 5, 2) := by decide +kernel
theorem dX14_run_177 : decode cX14_run 177 = .ok (.aload 4, 2) := by decide +kernel
theorem dX14_run_179 : decode cX14_run 179 = .ok (.iload 6, 2) := by decide +kernel
theorem dX14_run_181 : decode cX14_run 181 = .ok (.invokevirtual 408, 3) := by decide +kernel
theorem dX14_run_184 : decode cX14_run 184 = .ok (.bipush 73, 2) := by decide +kernel
theorem dX14_run_186 : decode cX14_run 186 = .ok (.if_icmp .ne 15, 3) := by decide +kernel
theorem dX14_run_189 : decode cX14_run 189 = .ok (.aload_n 0, 1) := by decide +kernel
theorem dX14_run_190 : decode cX14_run 190 = .ok (.getfield 158, 3) := by decide +kernel
theorem dX14_run_193 : decode cX14_run 193 = .ok (.iload 6, 2) := by decide +kernel
theorem dX14_run_195 : decode cX14_run 195 = .ok (.laload, 1) := by decide +kernel
theorem dX14_run_196 : decode cX14_run 196 = .ok (.l2i, 1) := by decide +kernel
theorem dX14_run_197 : decode cX14_run 197 = .ok (.i2l, 1) := by decide +kernel
theorem dX14_run_198 : decode cX14_run 198 = .ok (.goto 10, 3) := by decide +kernel
theorem dX14_run_201 : decode cX14_run 201 = .ok (.aload_n 0, 1) := by decide +kernel
theorem dX14_run_202 : decode cX14_run 202 = .ok (.getfield 158, 3) := by decide +kernel
theorem dX14_run_205 : decode cX14_run 205 = .ok (.iload 6, 2) := by decide +kernel
theorem dX14_run_207 : decode cX14_run 207 = .ok (.laload, 1) := by decide +kernel
theorem dX14_run_208 : decode cX14_run 208 = .ok (.lastore, 1) := by decide +kernel
theorem dX14_run_209 : decode cX14_run 209 = .ok (.aload_n 0, 1) := by decide +kernel
theorem dX14_run_210 : decode cX14_run 210 = .ok (.getfield 176, 3) := by decide +kernel
theorem dX14_run_213 : decode cX14_run 213 = .ok (.iload 5, 2) := by decide +kernel
theorem dX14_run_215 : decode cX14_run 215 = .ok (.aload 4, 2) := by decide +kernel
theorem dX14_run_217 : decode cX14_run 217 = .ok (.iload 6, 2) := by decide +kernel
theorem dX14_run_219 : decode cX14_run 219 = .ok (.invokevirtual 408, 3) := by decide +kernel
theorem dX14_run_222 : decode cX14_run 222 = .ok (.bipush 73, 2) := by decide +kernel
theorem dX14_run_224 : decode cX14_run 224 = .ok (.if_icmp .ne 7, 3) := by decide +kernel
theorem dX14_run_227 : decode cX14_run 227 = .ok (.iconst 1, 1) := by decide +kernel
theorem dX14_run_228 : decode cX14_run 228 = .ok (.goto 29, 3) := by decide +kernel
theorem dX14_run_231 : decode cX14_run 231 = .ok (.aload 4, 2) := by decide +kernel
theorem dX14_run_233 : decode cX14_run 233 = .ok (.iload 6, 2) := by decide +kernel
theorem dX14_run_235 : decode cX14_run 235 = .ok (.invokevirtual 408, 3) := by decide +kernel
theorem dX14_run_238 : decode cX14_run 238 = .ok (.bipush 74, 2) := by decide +kernel
theorem dX14_run_240 : decode cX14_run 240 = .ok (.if_icmp .ne 7, 3) := by decide +kernel
theorem dX14_run_243 : decode cX14_run 243 = .ok (.iconst 2, 1) := by decide +kernel
theorem dX14_run_244 : decode cX14_run 244 = .ok (.goto 13, 3) := by decide +kernel
theorem dX14_run_247 : decode cX14_run 247 = .ok (.aload_n 0, 1) := by decide +kernel
theorem dX14_run_248 : decode cX14_run 248 = .ok (.getfield 158, 3) := by decide +kernel
theorem dX14_run_251 : decode cX14_run 251 = .ok (.iload 6, 2) := by decide +kernel
theorem dX14_run_253 : decode cX14_run 253 = .ok (.laload, 1) := by decide +kernel
theorem dX14_run_254 : decode cX14_run 254 = .ok (.invokestatic 989, 3) := by decide +kernel
theorem dX14_run_257 : decode cX14_run 257 = .ok (.bastore, 1) := by decide +kernel
theorem dX14_run_258 : decode cX14_run 258 = .ok (.aload 4, 2) := by decide +kernel
theorem dX14_run_260 : decode cX14_run 260 = .ok (.iload 6, 2) := by decide +kernel
theorem dX14_run_262 : decode cX14_run 262 = .ok (.invokevirtual 408, 3) := by decide +kernel
theorem dX14_run_265 : decode cX14_run 265 = .ok (.bipush 74, 2) := by decide +kernel
theorem dX14_run_267 : decode cX14_run 267 = .ok (.if_icmp .ne 13, 3) := by decide +kernel
theorem dX14_run_270 : decode cX14_run 270 = .ok (.aload_n 0, 1) := by decide +kernel
theorem dX14_run_271 : decode cX14_run 271 = .ok (.getfield 176, 3) := by decide +kernel
theorem dX14_run_274 : decode cX14_run 274 = .ok (.iload 5, 2) := by decide +kernel
theorem dX14_run_276 : decode cX14_run 276 = .ok (.iconst 1, 1) := by decide +kernel
theorem dX14_run_277 : decode cX14_run 277 = .ok (.iadd, 1) := by decide +kernel
theorem dX14_run_278 : decode cX14_run 278 = .ok (.iconst 3, 1) := by decide +kernel
theorem dX14_run_279 : decode cX14_run 279 = .ok (.bastore, 1) := by decide +kernel
theorem dX14_run_280 : decode cX14_run 280 = .ok (.iload 5, 2) := by decide +kernel
theorem dX14_run_282 : decode cX14_run 282 = .ok (.aload 4, 2) := by decide +kernel
theorem dX14_run_284 : decode cX14_run 284 = .ok (.iload 6, 2) := by decide +kernel
theorem dX14_run_286 : decode cX14_run 286 = .ok (.invokevirtual 408, 3) := by decide +kernel
theorem dX14_run_289 : decode cX14_run 289 = .ok (.bipush 74, 2) := by decide +kernel
theorem dX14_run_291 : decode cX14_run 291 = .ok (.if_icmp .ne 7, 3) := by decide +kernel
theorem dX14_run_294 : decode cX14_run 294 = .ok (.iconst 2, 1) := by decide +kernel
theorem dX14_run_295 : decode cX14_run 295 = .ok (.goto 4, 3) := by decide +kernel
theorem dX14_run_298 : decode cX14_run 298 = .ok (.iconst 1, 1) := by decide +kernel
theorem dX14_run_299 : decode cX14_run 299 = .ok (.iadd, 1) := by decide +kernel
theorem dX14_run_300 : decode cX14_run 300 = .ok (.istore 5, 2) := by decide +kernel
theorem dX14_run_302 : decode cX14_run 302 = .ok (.iinc 6 1, 3) := by decide +kernel
theorem dX14_run_305 : decode cX14_run 305 = .ok (.goto (-140), 3) := by decide +kernel
theorem dX14_run_308 : decode cX14_run 308 = .ok (.aload_n 0, 1) := by decide +kernel
theorem dX14_run_309 : decode cX14_run 309 = .ok (.getfield 977, 3) := by decide +kernel
theorem dX14_run_312 : decode cX14_run 312 = .ok (.ifCond .ge 36, 3) := by decide +kernel
theorem dX14_run_315 : decode cX14_run 315 = .ok (.aload_n 0, 1) := by decide +kernel
theorem dX14_run_316 : decode cX14_run 316 = .ok (.getfield 983, 3) := by decide +kernel
theorem dX14_run_319 : decode cX14_run 319 = .ok (.iload_n 2, 1) := by decide +kernel
theorem dX14_run_320 : decode cX14_run 320 = .ok (.if_icmp .ne 11, 3) := by decide +kernel
theorem dX14_run_323 : decode cX14_run 323 = .ok (.aload_n 0, 1) := by decide +kernel
theorem dX14_run_324 : decode cX14_run 324 = .ok (.iconst 2, 1) := by decide +kernel
theorem dX14_run_325 : decode cX14_run 325 = .ok (.putfield 977, 3) := by decide +kernel
theorem dX14_run_328 : decode cX14_run 328 = .ok (.goto (-20), 3) := by decide +kernel
theorem dX14_run_331 : decode cX14_run 331 = .ok (.aload_n 0, 1) := by decide +kernel
theorem dX14_run_332 : decode cX14_run 332 = .ok (.dup, 1) := by decide +kernel
theorem dX14_run_333 : decode cX14_run 333 = .ok (.getfield 983, 3) := by decide +kernel
theorem dX14_run_336 : decode cX14_run 336 = .ok (.iconst 1, 1) := by decide +kernel
theorem dX14_run_337 : decode cX14_run 337 = .ok (.iadd, 1) := by decide +kernel
theorem dX14_run_338 : decode cX14_run 338 = .ok (.putfield 983, 3) := by decide +kernel
theorem dX14_run_341 : decode cX14_run 341 = .ok (.aload_n 0, 1) := by decide +kernel
theorem dX14_run_342 : decode cX14_run 342 = .ok (.invokevirtual 993, 3) := by decide +kernel
theorem dX14_run_345 : decode cX14_run 345 = .ok (.goto (-37), 3) := by decide +kernel
theorem dX14_run_348 : decode cX14_run 348 = .ok (.aload_n 0, 1) := by decide +kernel
theorem dX14_run_349 : decode cX14_run 349 = .ok (.getfield 977, 3) := by decide +kernel
theorem dX14_run_352 : decode cX14_run 352 = .ok (.ifCond .le 8, 3) := by decide +kernel
theorem dX14_run_355 : decode cX14_run 355 = .ok (.aload_n 0, 1) := by decide +kernel
theorem dX14_run_356 : decode cX14_run 356 = .ok (.lconst 0, 1) := by decide +kernel
theorem dX14_run_357 : decode cX14_run 357 = .ok (.putfield 980, 3) := by decide +kernel
theorem dX14_run_360 : decode cX14_run 360 = .ok (.aload_n 0, 1) := by decide +kernel
theorem dX14_run_361 : decode cX14_run 361 = .ok (.getfield 977, 3) := by decide +kernel
theorem dX14_run_364 : decode cX14_run 364 = .ok (.ireturn, 1) := by decide +kernel
theorem dX14_second_0 : decode cX14_second 0 = .ok (.aload_n 0, 1) := by decide +kernel
theorem dX14_second_1 : decode cX14_second 1 = .ok (.getfield 667, 3) := by decide +kernel
theorem dX14_second_4 : decode cX14_second 4 = .ok (.iconst 3, 1) := by decide +kernel
theorem dX14_second_5 : decode cX14_second 5 = .ok (.aload_n 0, 1) := by decide +kernel
theorem dX14_second_6 : decode cX14_second 6 = .ok (.getfield 670, 3) := by decide +kernel
theorem dX14_second_9 : decode cX14_second 9 = .ok (.iload_n 1, 1) := by decide +kernel
theorem dX14_second_10 : decode cX14_second 10 = .ok (.iadd, 1) := by decide +kernel
theorem dX14_second_11 : decode cX14_second 11 = .ok (.imul, 1) := by decide +kernel
theorem dX14_second_12 : decode cX14_second 12 = .ok (.iconst 2, 1) := by decide +kernel
theorem dX14_second_13 : decode cX14_second 13 = .ok (.iadd, 1) := by decide +kernel
theorem dX14_second_14 : decode cX14_second 14 = .ok (.iaload, 1) := by decide +kernel
theorem dX14_second_15 : decode cX14_second 15 = .ok (.ireturn, 1) := by decide +kernel
theorem dX14_setLocal_0 : decode cX14_setLocal 0 = .ok (.aload_n 0, 1) := by decide +kernel
theorem dX14_setLocal_1 : decode cX14_setLocal 1 = .ok (.getfield 99, 3) := by decide +kernel
theorem dX14_setLocal_4 : decode cX14_setLocal 4 = .ok (.iload_n 1, 1) := by decide +kernel
theorem dX14_setLocal_5 : decode cX14_setLocal 5 = .ok (.iload_n 2, 1) := by decide +kernel
theorem dX14_setLocal_6 : decode cX14_setLocal 6 = .ok (.i2b, 1) := by decide +kernel
theorem dX14_setLocal_7 : decode cX14_setLocal 7 = .ok (.bastore, 1) := by decide +kernel
theorem dX14_setLocal_8 : decode cX14_setLocal 8 = .ok (.return_, 1) := by decide +kernel
theorem dX14_setWay_0 : decode cX14_setWay 0 = .ok (.aload_n 0, 1) := by decide +kernel
theorem dX14_setWay_1 : decode cX14_setWay 1 = .ok (.getfield 240, 3) := by decide +kernel
theorem dX14_setWay_4 : decode cX14_setWay 4 = .ok (.iload_n 1, 1) := by decide +kernel
theorem dX14_setWay_5 : decode cX14_setWay 5 = .ok (.iaload, 1) := by decide +kernel
theorem dX14_setWay_6 : decode cX14_setWay 6 = .ok (.invokestatic 688, 3) := by decide +kernel
theorem dX14_setWay_9 : decode cX14_setWay 9 = .ok (.ifCond .eq 13, 3) := by decide +kernel
theorem dX14_setWay_12 : decode cX14_setWay 12 = .ok (.aload_n 0, 1) := by decide +kernel
theorem dX14_setWay_13 : decode cX14_setWay 13 = .ok (.getfield 243, 3) := by decide +kernel
theorem dX14_setWay_16 : decode cX14_setWay 16 = .ok (.iload_n 1, 1) := by decide +kernel
theorem dX14_setWay_17 : decode cX14_setWay 17 = .ok (.iload_n 3, 1) := by decide +kernel
theorem dX14_setWay_18 : decode cX14_setWay 18 = .ok (.iastore, 1) := by decide +kernel
theorem dX14_setWay_19 : decode cX14_setWay 19 = .ok (.goto 19, 3) := by decide +kernel
theorem dX14_setWay_22 : decode cX14_setWay 22 = .ok (.aload_n 0, 1) := by decide +kernel
theorem dX14_setWay_23 : decode cX14_setWay 23 = .ok (.getfield 231, 3) := by decide +kernel
theorem dX14_setWay_26 : decode cX14_setWay 26 = .ok (.aload_n 0, 1) := by decide +kernel
theorem dX14_setWay_27 : decode cX14_setWay 27 = .ok (.getfield 243, 3) := by decide +kernel
theorem dX14_setWay_30 : decode cX14_setWay 30 = .ok (.iload_n 1, 1) := by decide +kernel
theorem dX14_setWay_31 : decode cX14_setWay 31 = .ok (.iaload, 1) := by decide +kernel
theorem dX14_setWay_32 : decode cX14_setWay 32 = .ok (.iconst 2, 1) := by decide +kernel
theorem dX14_setWay_33 : decode cX14_setWay 33 = .ok (.iload_n 2, 1) := by decide +kernel
theorem dX14_setWay_34 : decode cX14_setWay 34 = .ok (.imul, 1) := by decide +kernel
theorem dX14_setWay_35 : decode cX14_setWay 35 = .ok (.iadd, 1) := by decide +kernel
theorem dX14_setWay_36 : decode cX14_setWay 36 = .ok (.iload_n 3, 1) := by decide +kernel
theorem dX14_setWay_37 : decode cX14_setWay 37 = .ok (.iastore, 1) := by decide +kernel
theorem dX14_setWay_38 : decode cX14_setWay 38 = .ok (.return_, 1) := by decide +kernel
theorem dX14_settle_0 : decode cX14_settle 0 = .ok (.aload_n 0, 1) := by decide +kernel
theorem dX14_settle_1 : decode cX14_settle 1 = .ok (.getfield 243, 3) := by decide +kernel
theorem dX14_settle_4 : decode cX14_settle 4 = .ok (.iload_n 2, 1) := by decide +kernel
theorem dX14_settle_5 : decode cX14_settle 5 = .ok (.iaload, 1) := by decide +kernel
theorem dX14_settle_6 : decode cX14_settle 6 = .ok (.istore 4, 2) := by decide +kernel
theorem dX14_settle_8 : decode cX14_settle 8 = .ok (.aload_n 0, 1) := by decide +kernel
theorem dX14_settle_9 : decode cX14_settle 9 = .ok (.getfield 249, 3) := by decide +kernel
theorem dX14_settle_12 : decode cX14_settle 12 = .ok (.iload_n 2, 1) := by decide +kernel
theorem dX14_settle_13 : decode cX14_settle 13 = .ok (.iconst 1, 1) := by decide +kernel
theorem dX14_settle_14 : decode cX14_settle 14 = .ok (.bastore, 1) := by decide +kernel
theorem dX14_settle_15 : decode cX14_settle 15 = .ok (.iload_n 3, 1) := by decide +kernel
theorem dX14_settle_16 : decode cX14_settle 16 = .ok (.ifCond .ne 11, 3) := by decide +kernel
theorem dX14_settle_19 : decode cX14_settle 19 = .ok (.aload_n 0, 1) := by decide +kernel
theorem dX14_settle_20 : decode cX14_settle 20 = .ok (.getfield 249, 3) := by decide +kernel
theorem dX14_settle_23 : decode cX14_settle 23 = .ok (.iload_n 1, 1) := by decide +kernel
theorem dX14_settle_24 : decode cX14_settle 24 = .ok (.iconst 1, 1) := by decide +kernel
theorem dX14_settle_25 : decode cX14_settle 25 = .ok (.bastore, 1) := by decide +kernel
theorem dX14_settle_26 : decode cX14_settle 26 = .ok (.return_, 1) := by decide +kernel
theorem dX14_settle_27 : decode cX14_settle 27 = .ok (.aload_n 0, 1) := by decide +kernel
theorem dX14_settle_28 : decode cX14_settle 28 = .ok (.getfield 240, 3) := by decide +kernel
theorem dX14_settle_31 : decode cX14_settle 31 = .ok (.iload_n 1, 1) := by decide +kernel
theorem dX14_settle_32 : decode cX14_settle 32 = .ok (.sipush 167, 3) := by decide +kernel
theorem dX14_settle_35 : decode cX14_settle 35 = .ok (.iastore, 1) := by decide +kernel
theorem dX14_settle_36 : decode cX14_settle 36 = .ok (.aload_n 0, 1) := by decide +kernel
theorem dX14_settle_37 : decode cX14_settle 37 = .ok (.getfield 243, 3) := by decide +kernel
theorem dX14_settle_40 : decode cX14_settle 40 = .ok (.iload_n 1, 1) := by decide +kernel
theorem dX14_settle_41 : decode cX14_settle 41 = .ok (.iload 4, 2) := by decide +kernel
theorem dX14_settle_43 : decode cX14_settle 43 = .ok (.iastore, 1) := by decide +kernel
theorem dX14_settle_44 : decode cX14_settle 44 = .ok (.aload_n 0, 1) := by decide +kernel
theorem dX14_settle_45 : decode cX14_settle 45 = .ok (.getfield 246, 3) := by decide +kernel
theorem dX14_settle_48 : decode cX14_settle 48 = .ok (.iload_n 1, 1) := by decide +kernel
theorem dX14_settle_49 : decode cX14_settle 49 = .ok (.iconst 0, 1) := by decide +kernel
theorem dX14_settle_50 : decode cX14_settle 50 = .ok (.iastore, 1) := by decide +kernel
theorem dX14_settle_51 : decode cX14_settle 51 = .ok (.return_, 1) := by decide +kernel
theorem dX14_shuffle_0 : decode cX14_shuffle 0 = .ok (.aload_n 0, 1) := by decide +kernel
theorem dX14_shuffle_1 : decode cX14_shuffle 1 = .ok (.getfield 974, 3) := by decide +kernel
theorem dX14_shuffle_4 : decode cX14_shuffle 4 = .ok (.iconst 1, 1) := by decide +kernel
theorem dX14_shuffle_5 : decode cX14_shuffle 5 = .ok (.isub, 1) := by decide +kernel
theorem dX14_shuffle_6 : decode cX14_shuffle 6 = .ok (.istore_n 2, 1) := by decide +kernel
theorem dX14_shuffle_7 : decode cX14_shuffle 7 = .ok (.bipush 24, 2) := by decide +kernel
theorem dX14_shuffle_9 : decode cX14_shuffle 9 = .ok (.iload_n 2, 1) := by decide +kernel
theorem dX14_shuffle_10 : decode cX14_shuffle 10 = .ok (.imul, 1) := by decide +kernel
theorem dX14_shuffle_11 : decode cX14_shuffle 11 = .ok (.aload_n 0, 1) := by decide +kernel
theorem dX14_shuffle_12 : decode cX14_shuffle 12 = .ok (.getfield 167, 3) := by decide +kernel
theorem dX14_shuffle_15 : decode cX14_shuffle 15 = .ok (.iload_n 2, 1) := by decide +kernel
theorem dX14_shuffle_16 : decode cX14_shuffle 16 = .ok (.iaload, 1) := by decide +kernel
theorem dX14_shuffle_17 : decode cX14_shuffle 17 = .ok (.iadd, 1) := by decide +kernel
theorem dX14_shuffle_18 : decode cX14_shuffle 18 = .ok (.istore_n 3, 1) := by decide +kernel
theorem dX14_shuffle_19 : decode cX14_shuffle 19 = .ok (.aload_n 0, 1) := by decide +kernel
theorem dX14_shuffle_20 : decode cX14_shuffle 20 = .ok (.getfield 173, 3) := by decide +kernel
theorem dX14_shuffle_23 : decode cX14_shuffle 23 = .ok (.iload_n 3, 1) := by decide +kernel
theorem dX14_shuffle_24 : decode cX14_shuffle 24 = .ok (.iconst 1, 1) := by decide +kernel
theorem dX14_shuffle_25 : decode cX14_shuffle 25 = .ok (.isub, 1) := by decide +kernel
theorem dX14_shuffle_26 : decode cX14_shuffle 26 = .ok (.laload, 1) := by decide +kernel
theorem dX14_shuffle_27 : decode cX14_shuffle 27 = .ok (.lstore 4, 2) := by decide +kernel
theorem dX14_shuffle_29 : decode cX14_shuffle 29 = .ok (.aload_n 0, 1) := by decide +kernel
theorem dX14_shuffle_30 : decode cX14_shuffle 30 = .ok (.getfield 179, 3) := by decide +kernel
theorem dX14_shuffle_33 : decode cX14_shuffle 33 = .ok (.iload_n 3, 1) := by decide +kernel
theorem dX14_shuffle_34 : decode cX14_shuffle 34 = .ok (.iconst 1, 1) := by decide +kernel
theorem dX14_shuffle_35 : decode cX14_shuffle 35 = .ok (.isub, 1) := by decide +kernel
theorem dX14_shuffle_36 : decode cX14_shuffle 36 = .ok (.baload, 1) := by decide +kernel
theorem dX14_shuffle_37 : decode cX14_shuffle 37 = .ok (.istore 6, 2) := by decide +kernel
theorem dX14_shuffle_39 : decode cX14_shuffle 39 = .ok (.iload_n 1, 1) := by decide +kernel
theorem dX14_shuffle_40 : decode cX14_shuffle 40 = .ok (.bipush 89, 2) := by decide +kernel
theorem dX14_shuffle_42 : decode cX14_shuffle 42 = .ok (.if_icmp .ne 13, 3) := by decide +kernel
theorem dX14_shuffle_45 : decode cX14_shuffle 45 = .ok (.aload_n 0, 1) := by decide +kernel
theorem dX14_shuffle_46 : decode cX14_shuffle 46 = .ok (.lload 4, 2) := by decide +kernel
theorem dX14_shuffle_48 : decode cX14_shuffle 48 = .ok (.iload 6, 2) := by decide +kernel
theorem dX14_shuffle_50 : decode cX14_shuffle 50 = .ok (.iconst 1, 1) := by decide +kernel
theorem dX14_shuffle_51 : decode cX14_shuffle 51 = .ok (.invokevirtual 996, 3) := by decide +kernel
theorem dX14_shuffle_54 : decode cX14_shuffle 54 = .ok (.return_, 1) := by decide +kernel
theorem dX14_shuffle_55 : decode cX14_shuffle 55 = .ok (.aload_n 0, 1) := by decide +kernel
theorem dX14_shuffle_56 : decode cX14_shuffle 56 = .ok (.getfield 173, 3) := by decide +kernel
theorem dX14_shuffle_59 : decode cX14_shuffle 59 = .ok (.iload_n 3, 1) := by decide +kernel
theorem dX14_shuffle_60 : decode cX14_shuffle 60 = .ok (.iconst 2, 1) := by decide +kernel
theorem dX14_shuffle_61 : decode cX14_shuffle 61 = .ok (.isub, 1) := by decide +kernel
theorem dX14_shuffle_62 : decode cX14_shuffle 62 = .ok (.laload, 1) := by decide +kernel
theorem dX14_shuffle_63 : decode cX14_shuffle 63 = .ok (.lstore 7, 2) := by decide +kernel
theorem dX14_shuffle_65 : decode cX14_shuffle 65 = .ok (.aload_n 0, 1) := by decide +kernel
theorem dX14_shuffle_66 : decode cX14_shuffle 66 = .ok (.getfield 179, 3) := by decide +kernel
theorem dX14_shuffle_69 : decode cX14_shuffle 69 = .ok (.iload_n 3, 1) := by decide +kernel
theorem dX14_shuffle_70 : decode cX14_shuffle 70 = .ok (.iconst 2, 1) := by decide +kernel
theorem dX14_shuffle_71 : decode cX14_shuffle 71 = .ok (.isub, 1) := by decide +kernel
theorem dX14_shuffle_72 : decode cX14_shuffle 72 = .ok (.baload, 1) := by decide +kernel
theorem dX14_shuffle_73 : decode cX14_shuffle 73 = .ok (.istore 9, 2) := by decide +kernel
theorem dX14_shuffle_75 : decode cX14_shuffle 75 = .ok (.iload_n 1, 1) := by decide +kernel
theorem dX14_shuffle_76 : decode cX14_shuffle 76 = .ok (.bipush 92, 2) := by decide +kernel
theorem dX14_shuffle_78 : decode cX14_shuffle 78 = .ok (.if_icmp .ne 22, 3) := by decide +kernel
theorem dX14_shuffle_81 : decode cX14_shuffle 81 = .ok (.aload_n 0, 1) := by decide +kernel
theorem dX14_shuffle_82 : decode cX14_shuffle 82 = .ok (.lload 7, 2) := by decide +kernel
theorem dX14_shuffle_84 : decode cX14_shuffle 84 = .ok (.iload 9, 2) := by decide +kernel
theorem dX14_shuffle_86 : decode cX14_shuffle 86 = .ok (.iconst 1, 1) := by decide +kernel
theorem dX14_shuffle_87 : decode cX14_shuffle 87 = .ok (.invokevirtual 996, 3) := by decide +kernel
theorem dX14_shuffle_90 : decode cX14_shuffle 90 = .ok (.aload_n 0, 1) := by decide +kernel
theorem dX14_shuffle_91 : decode cX14_shuffle 91 = .ok (.lload 4, 2) := by decide +kernel
theorem dX14_shuffle_93 : decode cX14_shuffle 93 = .ok (.iload 6, 2) := by decide +kernel
theorem dX14_shuffle_95 : decode cX14_shuffle 95 = .ok (.iconst 1, 1) := by decide +kernel
theorem dX14_shuffle_96 : decode cX14_shuffle 96 = .ok (.invokevirtual 996, 3) := by decide +kernel
theorem dX14_shuffle_99 : decode cX14_shuffle 99 = .ok (.return_, 1) := by decide +kernel
theorem dX14_shuffle_100 : decode cX14_shuffle 100 = .ok (.aload_n 0, 1) := by decide +kernel
theorem dX14_shuffle_101 : decode cX14_shuffle 101 = .ok (.getfield 173, 3) := by decide +kernel
theorem dX14_shuffle_104 : decode cX14_shuffle 104 = .ok (.iload_n 3, 1) := by decide +kernel
theorem dX14_shuffle_105 : decode cX14_shuffle 105 = .ok (.iconst 2, 1) := by decide +kernel
theorem dX14_shuffle_106 : decode cX14_shuffle 106 = .ok (.isub, 1) := by decide +kernel
theorem dX14_shuffle_107 : decode cX14_shuffle 107 = .ok (.lload 4, 2) := by decide +kernel
theorem dX14_shuffle_109 : decode cX14_shuffle 109 = .ok (.lastore, 1) := by decide +kernel
theorem dX14_shuffle_110 : decode cX14_shuffle 110 = .ok (.aload_n 0, 1) := by decide +kernel
theorem dX14_shuffle_111 : decode cX14_shuffle 111 = .ok (.getfield 179, 3) := by decide +kernel
theorem dX14_shuffle_114 : decode cX14_shuffle 114 = .ok (.iload_n 3, 1) := by decide +kernel
theorem dX14_shuffle_115 : decode cX14_shuffle 115 = .ok (.iconst 2, 1) := by decide +kernel
theorem dX14_shuffle_116 : decode cX14_shuffle 116 = .ok (.isub, 1) := by decide +kernel
theorem dX14_shuffle_117 : decode cX14_shuffle 117 = .ok (.iload 6, 2) := by decide +kernel
theorem dX14_shuffle_119 : decode cX14_shuffle 119 = .ok (.bastore, 1) := by decide +kernel
theorem dX14_shuffle_120 : decode cX14_shuffle 120 = .ok (.aload_n 0, 1) := by decide +kernel
theorem dX14_shuffle_121 : decode cX14_shuffle 121 = .ok (.getfield 173, 3) := by decide +kernel
theorem dX14_shuffle_124 : decode cX14_shuffle 124 = .ok (.iload_n 3, 1) := by decide +kernel
theorem dX14_shuffle_125 : decode cX14_shuffle 125 = .ok (.iconst 1, 1) := by decide +kernel
theorem dX14_shuffle_126 : decode cX14_shuffle 126 = .ok (.isub, 1) := by decide +kernel
theorem dX14_shuffle_127 : decode cX14_shuffle 127 = .ok (.lload 7, 2) := by decide +kernel
theorem dX14_shuffle_129 : decode cX14_shuffle 129 = .ok (.lastore, 1) := by decide +kernel
theorem dX14_shuffle_130 : decode cX14_shuffle 130 = .ok (.aload_n 0, 1) := by decide +kernel
theorem dX14_shuffle_131 : decode cX14_shuffle 131 = .ok (.getfield 179, 3) := by decide +kernel
theorem dX14_shuffle_134 : decode cX14_shuffle 134 = .ok (.iload_n 3, 1) := by decide +kernel
theorem dX14_shuffle_135 : decode cX14_shuffle 135 = .ok (.iconst 1, 1) := by decide +kernel
theorem dX14_shuffle_136 : decode cX14_shuffle 136 = .ok (.isub, 1) := by decide +kernel
theorem dX14_shuffle_137 : decode cX14_shuffle 137 = .ok (.iload 9, 2) := by decide +kernel
theorem dX14_shuffle_139 : decode cX14_shuffle 139 = .ok (.bastore, 1) := by decide +kernel
theorem dX14_shuffle_140 : decode cX14_shuffle 140 = .ok (.iload_n 1, 1) := by decide +kernel
theorem dX14_shuffle_141 : decode cX14_shuffle 141 = .ok (.bipush 90, 2) := by decide +kernel
theorem dX14_shuffle_143 : decode cX14_shuffle 143 = .ok (.if_icmp .ne 12, 3) := by decide +kernel
theorem dX14_shuffle_146 : decode cX14_shuffle 146 = .ok (.aload_n 0, 1) := by decide +kernel
theorem dX14_shuffle_147 : decode cX14_shuffle 147 = .ok (.lload 4, 2) := by decide +kernel
theorem dX14_shuffle_149 : decode cX14_shuffle 149 = .ok (.iload 6, 2) := by decide +kernel
theorem dX14_shuffle_151 : decode cX14_shuffle 151 = .ok (.iconst 1, 1) := by decide +kernel
theorem dX14_shuffle_152 : decode cX14_shuffle 152 = .ok (.invokevirtual 996, 3) := by decide +kernel
theorem dX14_shuffle_155 : decode cX14_shuffle 155 = .ok (.return_, 1) := by decide +kernel
theorem dX14_size_0 : decode cX14_size 0 = .ok (.aload_n 0, 1) := by decide +kernel
theorem dX14_size_1 : decode cX14_size 1 = .ok (.iload_n 1, 1) := by decide +kernel
theorem dX14_size_2 : decode cX14_size 2 = .ok (.invokevirtual 658, 3) := by decide +kernel
theorem dX14_size_5 : decode cX14_size 5 = .ok (.astore_n 3, 1) := by decide +kernel
theorem dX14_size_6 : decode cX14_size 6 = .ok (.aload_n 3, 1) := by decide +kernel

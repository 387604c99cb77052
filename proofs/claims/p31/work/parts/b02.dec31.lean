theorem dX14_instruction_135 : decode cX14_instruction 135 = .ok (.goto 14, 3) := by decide +kernel
theorem dX14_instruction_138 : decode cX14_instruction 138 = .ok (.aload_n 0, 1) := by decide +kernel
theorem dX14_instruction_139 : decode cX14_instruction 139 = .ok (.iload_n 1, 1) := by decide +kernel
theorem dX14_instruction_140 : decode cX14_instruction 140 = .ok (.iconst 1, 1) := by decide +kernel
theorem dX14_instruction_141 : decode cX14_instruction 141 = .ok (.iadd, 1) := by decide +kernel
theorem dX14_instruction_142 : decode cX14_instruction 142 = .ok (.invokevirtual 476, 3) := by decide +kernel
theorem dX14_instruction_145 : decode cX14_instruction 145 = .ok (.ldc_w 479, 3) := by decide +kernel
theorem dX14_instruction_148 : decode cX14_instruction 148 = .ok (.iand, 1) := by decide +kernel
theorem dX14_instruction_149 : decode cX14_instruction 149 = .ok (.iconst 3, 1) := by decide +kernel
theorem dX14_instruction_150 : decode cX14_instruction 150 = .ok (.invokevirtual 480, 3) := by decide +kernel
theorem dX14_instruction_153 : decode cX14_instruction 153 = .ok (.goto 430, 3) := by decide +kernel
theorem dX14_instruction_156 : decode cX14_instruction 156 = .ok (.iload_n 2, 1) := by decide +kernel
theorem dX14_instruction_157 : decode cX14_instruction 157 = .ok (.bipush 20, 2) := by decide +kernel
theorem dX14_instruction_159 : decode cX14_instruction 159 = .ok (.if_icmp .ne 23, 3) := by decide +kernel
theorem dX14_instruction_162 : decode cX14_instruction 162 = .ok (.aload_n 0, 1) := by decide +kernel
theorem dX14_instruction_163 : decode cX14_instruction 163 = .ok (.iload_n 1, 1) := by decide +kernel
theorem dX14_instruction_164 : decode cX14_instruction 164 = .ok (.aload_n 0, 1) := by decide +kernel
theorem dX14_instruction_165 : decode cX14_instruction 165 = .ok (.iload_n 1, 1) := by decide +kernel
theorem dX14_instruction_166 : decode cX14_instruction 166 = .ok (.iconst 1, 1) := by decide +kernel
theorem dX14_instruction_167 : decode cX14_instruction 167 = .ok (.iadd, 1) := by decide +kernel
theorem dX14_instruction_168 : decode cX14_instruction 168 = .ok (.invokevirtual 476, 3) := by decide +kernel
theorem dX14_instruction_171 : decode cX14_instruction 171 = .ok (.ldc_w 479, 3) := by decide +kernel
theorem dX14_instruction_174 : decode cX14_instruction 174 = .ok (.iand, 1) := by decide +kernel
theorem dX14_instruction_175 : decode cX14_instruction 175 = .ok (.iconst 5, 1) := by decide +kernel
theorem dX14_instruction_176 : decode cX14_instruction 176 = .ok (.invokevirtual 480, 3) := by decide +kernel
theorem dX14_instruction_179 : decode cX14_instruction 179 = .ok (.goto 404, 3) := by decide +kernel
theorem dX14_instruction_182 : decode cX14_instruction 182 = .ok (.iload_n 2, 1) := by decide +kernel
theorem dX14_instruction_183 : decode cX14_instruction 183 = .ok (.bipush 26, 2) := by decide +kernel
theorem dX14_instruction_185 : decode cX14_instruction 185 = .ok (.if_icmp .lt 36, 3) := by decide +kernel
theorem dX14_instruction_188 : decode cX14_instruction 188 = .ok (.iload_n 2, 1) := by decide +kernel
theorem dX14_instruction_189 : decode cX14_instruction 189 = .ok (.bipush 33, 2) := by decide +kernel
theorem dX14_instruction_191 : decode cX14_instruction 191 = .ok (.if_icmp .gt 30, 3) := by decide +kernel
theorem dX14_instruction_194 : decode cX14_instruction 194 = .ok (.aload_n 0, 1) := by decide +kernel
theorem dX14_instruction_195 : decode cX14_instruction 195 = .ok (.iload_n 1, 1) := by decide +kernel
theorem dX14_instruction_196 : decode cX14_instruction 196 = .ok (.iload_n 2, 1) := by decide +kernel
theorem dX14_instruction_197 : decode cX14_instruction 197 = .ok (.bipush 30, 2) := by decide +kernel
theorem dX14_instruction_199 : decode cX14_instruction 199 = .ok (.if_icmp .ge 8, 3) := by decide +kernel
theorem dX14_instruction_202 : decode cX14_instruction 202 = .ok (.bipush 21, 2) := by decide +kernel
theorem dX14_instruction_204 : decode cX14_instruction 204 = .ok (.goto 5, 3) := by decide +kernel
theorem dX14_instruction_207 : decode cX14_instruction 207 = .ok (.bipush 22, 2) := by decide +kernel
theorem dX14_instruction_209 : decode cX14_instruction 209 = .ok (.iload_n 2, 1) := by decide +kernel
theorem dX14_instruction_210 : decode cX14_instruction 210 = .ok (.bipush 26, 2) := by decide +kernel
theorem dX14_instruction_212 : decode cX14_instruction 212 = .ok (.isub, 1) := by decide +kernel
theorem dX14_instruction_213 : decode cX14_instruction 213 = .ok (.iconst 4, 1) := by decide +kernel
theorem dX14_instruction_214 : decode cX14_instruction 214 = .ok (.irem, 1) := by decide +kernel
theorem dX14_instruction_215 : decode cX14_instruction 215 = .ok (.invokevirtual 483, 3) := by decide +kernel
theorem dX14_instruction_218 : decode cX14_instruction 218 = .ok (.goto 365, 3) := by decide +kernel
theorem dX14_instruction_221 : decode cX14_instruction 221 = .ok (.iload_n 2, 1) := by decide +kernel
theorem dX14_instruction_222 : decode cX14_instruction 222 = .ok (.bipush 42, 2) := by decide +kernel
theorem dX14_instruction_224 : decode cX14_instruction 224 = .ok (.if_icmp .lt 23, 3) := by decide +kernel
theorem dX14_instruction_227 : decode cX14_instruction 227 = .ok (.iload_n 2, 1) := by decide +kernel
theorem dX14_instruction_228 : decode cX14_instruction 228 = .ok (.bipush 45, 2) := by decide +kernel
theorem dX14_instruction_230 : decode cX14_instruction 230 = .ok (.if_icmp .gt 17, 3) := by decide +kernel
theorem dX14_instruction_233 : decode cX14_instruction 233 = .ok (.aload_n 0, 1) := by decide +kernel
theorem dX14_instruction_234 : decode cX14_instruction 234 = .ok (.iload_n 1, 1) := by decide +kernel
theorem dX14_instruction_235 : decode cX14_instruction 235 = .ok (.bipush 25, 2) := by decide +kernel
theorem dX14_instruction_237 : decode cX14_instruction 237 = .ok (.iload_n 2, 1) := by decide +kernel
theorem dX14_instruction_238 : decode cX14_instruction 238 = .ok (.bipush 42, 2) := by decide +kernel
theorem dX14_instruction_240 : decode cX14_instruction 240 = .ok (.isub, 1) := by decide +kernel
theorem dX14_instruction_241 : decode cX14_instruction 241 = .ok (.invokevirtual 483, 3) := by decide +kernel
theorem dX14_instruction_244 : decode cX14_instruction 244 = .ok (.goto 339, 3) := by decide +kernel
theorem dX14_instruction_247 : decode cX14_instruction 247 = .ok (.iload_n 2, 1) := by decide +kernel
theorem dX14_instruction_248 : decode cX14_instruction 248 = .ok (.bipush 59, 2) := by decide +kernel
theorem dX14_instruction_250 : decode cX14_instruction 250 = .ok (.if_icmp .lt 36, 3) := by decide +kernel
theorem dX14_instruction_253 : decode cX14_instruction 253 = .ok (.iload_n 2, 1) := by decide +kernel
theorem dX14_instruction_254 : decode cX14_instruction 254 = .ok (.bipush 66, 2) := by decide +kernel
theorem dX14_instruction_256 : decode cX14_instruction 256 = .ok (.if_icmp .gt 30, 3) := by decide +kernel
theorem dX14_instruction_259 : decode cX14_instruction 259 = .ok (.aload_n 0, 1) := by decide +kernel
theorem dX14_instruction_260 : decode cX14_instruction 260 = .ok (.iload_n 1, 1) := by decide +kernel
theorem dX14_instruction_261 : decode cX14_instruction 261 = .ok (.iload_n 2, 1) := by decide +kernel
theorem dX14_instruction_262 : decode cX14_instruction 262 = .ok (.bipush 63, 2) := by decide +kernel
theorem dX14_instruction_264 : decode cX14_instruction 264 = .ok (.if_icmp .ge 8, 3) := by decide +kernel
theorem dX14_instruction_267 : decode cX14_instruction 267 = .ok (.bipush 54, 2) := by decide +kernel
theorem dX14_instruction_269 : decode cX14_instruction 269 = .ok (.goto 5, 3) := by decide +kernel
theorem dX14_instruction_272 : decode cX14_instruction 272 = .ok (.bipush 55, 2) := by decide +kernel
theorem dX14_instruction_274 : decode cX14_instruction 274 = .ok (.iload_n 2, 1) := by decide +kernel
theorem dX14_instruction_275 : decode cX14_instruction 275 = .ok (.bipush 59, 2) := by decide +kernel
theorem dX14_instruction_277 : decode cX14_instruction 277 = .ok (.isub, 1) := by decide +kernel
theorem dX14_instruction_278 : decode cX14_instruction 278 = .ok (.iconst 4, 1) := by decide +kernel
theorem dX14_instruction_279 : decode cX14_instruction 279 = .ok (.irem, 1) := by decide +kernel
theorem dX14_instruction_280 : decode cX14_instruction 280 = .ok (.invokevirtual 483, 3) := by decide +kernel
theorem dX14_instruction_283 : decode cX14_instruction 283 = .ok (.goto 300, 3) := by decide +kernel
theorem dX14_instruction_286 : decode cX14_instruction 286 = .ok (.iload_n 2, 1) := by decide +kernel
theorem dX14_instruction_287 : decode cX14_instruction 287 = .ok (.bipush 75, 2) := by decide +kernel
theorem dX14_instruction_289 : decode cX14_instruction 289 = .ok (.if_icmp .lt 23, 3) := by decide +kernel
theorem dX14_instruction_292 : decode cX14_instruction 292 = .ok (.iload_n 2, 1) := by decide +kernel
theorem dX14_instruction_293 : decode cX14_instruction 293 = .ok (.bipush 78, 2) := by decide +kernel
theorem dX14_instruction_295 : decode cX14_instruction 295 = .ok (.if_icmp .gt 17, 3) := by decide +kernel
theorem dX14_instruction_298 : decode cX14_instruction 298 = .ok (.aload_n 0, 1) := by decide +kernel
theorem dX14_instruction_299 : decode cX14_instruction 299 = .ok (.iload_n 1, 1) := by decide +kernel
theorem dX14_instruction_300 : decode cX14_instruction 300 = .ok (.bipush 58, 2) := by decide +kernel
theorem dX14_instruction_302 : decode cX14_instruction 302 = .ok (.iload_n 2, 1) := by decide +kernel
theorem dX14_instruction_303 : decode cX14_instruction 303 = .ok (.bipush 75, 2) := by decide +kernel
theorem dX14_instruction_305 : decode cX14_instruction 305 = .ok (.isub, 1) := by decide +kernel
theorem dX14_instruction_306 : decode cX14_instruction 306 = .ok (.invokevirtual 483, 3) := by decide +kernel
theorem dX14_instruction_309 : decode cX14_instruction 309 = .ok (.goto 274, 3) := by decide +kernel
theorem dX14_instruction_312 : decode cX14_instruction 312 = .ok (.iload_n 2, 1) := by decide +kernel
theorem dX14_instruction_313 : decode cX14_instruction 313 = .ok (.bipush 21, 2) := by decide +kernel
theorem dX14_instruction_315 : decode cX14_instruction 315 = .ok (.if_icmp .eq 33, 3) := by decide +kernel
theorem dX14_instruction_318 : decode cX14_instruction 318 = .ok (.iload_n 2, 1) := by decide +kernel
theorem dX14_instruction_319 : decode cX14_instruction 319 = .ok (.bipush 22, 2) := by decide +kernel
theorem dX14_instruction_321 : decode cX14_instruction 321 = .ok (.if_icmp .eq 27, 3) := by decide +kernel
theorem dX14_instruction_324 : decode cX14_instruction 324 = .ok (.iload_n 2, 1) := by decide +kernel
theorem dX14_instruction_325 : decode cX14_instruction 325 = .ok (.bipush 25, 2) := by decide +kernel
theorem dX14_instruction_327 : decode cX14_instruction 327 = .ok (.if_icmp .eq 21, 3) := by decide +kernel
theorem dX14_instruction_330 : decode cX14_instruction 330 = .ok (.iload_n 2, 1) := by decide +kernel
theorem dX14_instruction_331 : decode cX14_instruction 331 = .ok (.bipush 54, 2) := by decide +kernel
theorem dX14_instruction_333 : decode cX14_instruction 333 = .ok (.if_icmp .eq 15, 3) := by decide +kernel
theorem dX14_instruction_336 : decode cX14_instruction 336 = .ok (.iload_n 2, 1) := by decide +kernel
theorem dX14_instruction_337 : decode cX14_instruction 337 = .ok (.bipush 55, 2) := by decide +kernel
theorem dX14_instruction_339 : decode cX14_instruction 339 = .ok (.if_icmp .eq 9, 3) := by decide +kernel
theorem dX14_instruction_342 : decode cX14_instruction 342 = .ok (.iload_n 2, 1) := by decide +kernel
theorem dX14_instruction_343 : decode cX14_instruction 343 = .ok (.bipush 58, 2) := by decide +kernel
theorem dX14_instruction_345 : decode cX14_instruction 345 = .ok (.if_icmp .ne 19, 3) := by decide +kernel
theorem dX14_instruction_348 : decode cX14_instruction 348 = .ok (.aload_n 0, 1) := by decide +kernel
theorem dX14_instruction_349 : decode cX14_instruction 349 = .ok (.iload_n 1, 1) := by decide +kernel
theorem dX14_instruction_350 : decode cX14_instruction 350 = .ok (.iload_n 2, 1) := by decide +kernel
theorem dX14_instruction_351 : decode cX14_instruction 351 = .ok (.aload_n 0, 1) := by decide +kernel
theorem dX14_instruction_352 : decode cX14_instruction 352 = .ok (.iload_n 1, 1) := by decide +kernel
theorem dX14_instruction_353 : decode cX14_instruction 353 = .ok (.iconst 1, 1) := by decide +kernel
theorem dX14_instruction_354 : decode cX14_instruction 354 = .ok (.iadd, 1) := by decide +kernel
theorem dX14_instruction_355 : decode cX14_instruction 355 = .ok (.invokevirtual 430, 3) := by decide +kernel
theorem dX14_instruction_358 : decode cX14_instruction 358 = .ok (.invokevirtual 483, 3) := by decide +kernel
theorem dX14_instruction_361 : decode cX14_instruction 361 = .ok (.goto 222, 3) := by decide +kernel
theorem dX14_instruction_364 : decode cX14_instruction 364 = .ok (.iload_n 2, 1) := by decide +kernel
theorem dX14_instruction_365 : decode cX14_instruction 365 = .ok (.sipush 132, 3) := by decide +kernel
theorem dX14_instruction_368 : decode cX14_instruction 368 = .ok (.if_icmp .ne 31, 3) := by decide +kernel
theorem dX14_instruction_371 : decode cX14_instruction 371 = .ok (.aload_n 0, 1) := by decide +kernel
theorem dX14_instruction_372 : decode cX14_instruction 372 = .ok (.iload_n 1, 1) := by decide +kernel
theorem dX14_instruction_373 : decode cX14_instruction 373 = .ok (.aload_n 0, 1) := by decide +kernel
theorem dX14_instruction_374 : decode cX14_instruction 374 = .ok (.iload_n 1, 1) := by decide +kernel
theorem dX14_instruction_375 : decode cX14_instruction 375 = .ok (.iconst 1, 1) := by decide +kernel
theorem dX14_instruction_376 : decode cX14_instruction 376 = .ok (.iadd, 1) := by decide +kernel
theorem dX14_instruction_377 : decode cX14_instruction 377 = .ok (.invokevirtual 430, 3) := by decide +kernel
theorem dX14_instruction_380 : decode cX14_instruction 380 = .ok (.aload_n 0, 1) := by decide +kernel
theorem dX14_instruction_381 : decode cX14_instruction 381 = .ok (.getfield 309, 3) := by decide +kernel
theorem dX14_instruction_384 : decode cX14_instruction 384 = .ok (.aload_n 0, 1) := by decide +kernel
theorem dX14_instruction_385 : decode cX14_instruction 385 = .ok (.getfield 427, 3) := by decide +kernel
theorem dX14_instruction_388 : decode cX14_instruction 388 = .ok (.iload_n 1, 1) := by decide +kernel
theorem dX14_instruction_389 : decode cX14_instruction 389 = .ok (.iadd, 1) := by decide +kernel
theorem dX14_instruction_390 : decode cX14_instruction 390 = .ok (.iconst 2, 1) := by decide +kernel
theorem dX14_instruction_391 : decode cX14_instruction 391 = .ok (.iadd, 1) := by decide +kernel
theorem dX14_instruction_392 : decode cX14_instruction 392 = .ok (.baload, 1) := by decide +kernel
theorem dX14_instruction_393 : decode cX14_instruction 393 = .ok (.invokevirtual 486, 3) := by decide +kernel
theorem dX14_instruction_396 : decode cX14_instruction 396 = .ok (.goto 187, 3) := by decide +kernel
theorem dX14_instruction_399 : decode cX14_instruction 399 = .ok (.iload_n 2, 1) := by decide +kernel
theorem dX14_instruction_400 : decode cX14_instruction 400 = .ok (.sipush 196, 3) := by decide +kernel
theorem dX14_instruction_403 : decode cX14_instruction 403 = .ok (.if_icmp .ne 18, 3) := by decide +kernel
theorem dX14_instruction_406 : decode cX14_instruction 406 = .ok (.aload_n 0, 1) := by decide +kernel
theorem dX14_instruction_407 : decode cX14_instruction 407 = .ok (.iload_n 1, 1) := by decide +kernel
theorem dX14_instruction_408 : decode cX14_instruction 408 = .ok (.aload_n 0, 1) := by decide +kernel
theorem dX14_instruction_409 : decode cX14_instruction 409 = .ok (.iload_n 1, 1) := by decide +kernel
theorem dX14_instruction_410 : decode cX14_instruction 410 = .ok (.iconst 1, 1) := by decide +kernel
theorem dX14_instruction_411 : decode cX14_instruction 411 = .ok (.iadd, 1) := by decide +kernel
theorem dX14_instruction_412 : decode cX14_instruction 412 = .ok (.invokevirtual 430, 3) := by decide +kernel
theorem dX14_instruction_415 : decode cX14_instruction 415 = .ok (.invokevirtual 489, 3) := by decide +kernel
theorem dX14_instruction_418 : decode cX14_instruction 418 = .ok (.goto 165, 3) := by decide +kernel
theorem dX14_instruction_421 : decode cX14_instruction 421 = .ok (.iload_n 2, 1) := by decide +kernel
theorem dX14_instruction_422 : decode cX14_instruction 422 = .ok (.sipush 153, 3) := by decide +kernel
theorem dX14_instruction_425 : decode cX14_instruction 425 = .ok (.if_icmp .lt 10, 3) := by decide +kernel
theorem dX14_instruction_428 : decode cX14_instruction 428 = .ok (.iload_n 2, 1) := by decide +kernel
theorem dX14_instruction_429 : decode cX14_instruction 429 = .ok (.sipush 167, 3) := by decide +kernel
theorem dX14_instruction_432 : decode cX14_instruction 432 = .ok (.if_icmp .le 17, 3) := by decide +kernel
theorem dX14_instruction_435 : decode cX14_instruction 435 = .ok (.iload_n 2, 1) := by decide +kernel
theorem dX14_instruction_436 : decode cX14_instruction 436 = .ok (.sipush 198, 3) := by decide +kernel
theorem dX14_instruction_439 : decode cX14_instruction 439 = .ok (.if_icmp .eq 10, 3) := by decide +kernel
theorem dX14_instruction_442 : decode cX14_instruction 442 = .ok (.iload_n 2, 1) := by decide +kernel
theorem dX14_instruction_443 : decode cX14_instruction 443 = .ok (.sipush 199, 3) := by decide +kernel
theorem dX14_instruction_446 : decode cX14_instruction 446 = .ok (.if_icmp .ne 24, 3) := by decide +kernel
theorem dX14_instruction_449 : decode cX14_instruction 449 = .ok (.aload_n 0, 1) := by decide +kernel
theorem dX14_instruction_450 : decode cX14_instruction 450 = .ok (.iload_n 2, 1) := by decide +kernel
theorem dX14_instruction_451 : decode cX14_instruction 451 = .ok (.aload_n 0, 1) := by decide +kernel
theorem dX14_instruction_452 : decode cX14_instruction 452 = .ok (.iload_n 1, 1) := by decide +kernel
theorem dX14_instruction_453 : decode cX14_instruction 453 = .ok (.aload_n 0, 1) := by decide +kernel
theorem dX14_instruction_454 : decode cX14_instruction 454 = .ok (.iload_n 1, 1) := by decide +kernel
theorem dX14_instruction_455 : decode cX14_instruction 455 = .ok (.iconst 1, 1) := by decide +kernel
theorem dX14_instruction_456 : decode cX14_instruction 456 = .ok (.iadd, 1) := by decide +kernel
theorem dX14_instruction_457 : decode cX14_instruction 457 = .ok (.invokevirtual 476, 3) := by decide +kernel
theorem dX14_instruction_460 : decode cX14_instruction 460 = .ok (.invokevirtual 492, 3) := by decide +kernel
theorem dX14_instruction_463 : decode cX14_instruction 463 = .ok (.iconst 0, 1) := by decide +kernel
theorem dX14_instruction_464 : decode cX14_instruction 464 = .ok (.invokevirtual 472, 3) := by decide +kernel
theorem dX14_instruction_467 : decode cX14_instruction 467 = .ok (.goto 116, 3) := by decide +kernel
theorem dX14_instruction_470 : decode cX14_instruction 470 = .ok (.iload_n 2, 1) := by decide +kernel
theorem dX14_instruction_471 : decode cX14_instruction 471 = .ok (.sipush 200, 3) := by decide +kernel
theorem dX14_instruction_474 : decode cX14_instruction 474 = .ok (.if_icmp .ne 26, 3) := by decide +kernel
theorem dX14_instruction_477 : decode cX14_instruction 477 = .ok (.aload_n 0, 1) := by decide +kernel
theorem dX14_instruction_478 : decode cX14_instruction 478 = .ok (.sipush 167, 3) := by decide +kernel
theorem dX14_instruction_481 : decode cX14_instruction 481 = .ok (.aload_n 0, 1) := by decide +kernel
theorem dX14_instruction_482 : decode cX14_instruction 482 = .ok (.iload_n 1, 1) := by decide +kernel
theorem dX14_instruction_483 : decode cX14_instruction 483 = .ok (.aload_n 0, 1) := by decide +kernel
theorem dX14_instruction_484 : decode cX14_instruction 484 = .ok (.iload_n 1, 1) := by decide +kernel
theorem dX14_instruction_485 : decode cX14_instruction 485 = .ok (.iconst 1, 1) := by decide +kernel
theorem dX14_instruction_486 : decode cX14_instruction 486 = .ok (.iadd, 1) := by decide +kernel
theorem dX14_instruction_487 : decode cX14_instruction 487 = .ok (.invokevirtual 445, 3) := by decide +kernel
theorem dX14_instruction_490 : decode cX14_instruction 490 = .ok (.invokevirtual 492, 3) := by decide +kernel
theorem dX14_instruction_493 : decode cX14_instruction 493 = .ok (.iconst 0, 1) := by decide +kernel
theorem dX14_instruction_494 : decode cX14_instruction 494 = .ok (.invokevirtual 472, 3) := by decide +kernel
theorem dX14_instruction_497 : decode cX14_instruction 497 = .ok (.goto 86, 3) := by decide +kernel
theorem dX14_instruction_500 : decode cX14_instruction 500 = .ok (.iload_n 2, 1) := by decide +kernel
theorem dX14_instruction_501 : decode cX14_instruction 501 = .ok (.sipush 170, 3) := by decide +kernel
theorem dX14_instruction_504 : decode cX14_instruction 504 = .ok (.if_icmp .eq 10, 3) := by decide +kernel
theorem dX14_instruction_507 : decode cX14_instruction 507 = .ok (.iload_n 2, 1) := by decide +kernel
theorem dX14_instruction_508 : decode cX14_instruction 508 = .ok (.sipush 171, 3) := by decide +kernel
theorem dX14_instruction_511 : decode cX14_instruction 511 = .ok (.if_icmp .ne 12, 3) := by decide +kernel
theorem dX14_instruction_514 : decode cX14_instruction 514 = .ok (.aload_n 0, 1) := by decide +kernel
theorem dX14_instruction_515 : decode cX14_instruction 515 = .ok (.iload_n 1, 1) := by decide +kernel
theorem dX14_instruction_516 : decode cX14_instruction 516 = .ok (.iload_n 2, 1) := by decide +kernel
theorem dX14_instruction_517 : decode cX14_instruction 517 = .ok (.invokevirtual 495, 3) := by decide +kernel
theorem dX14_instruction_520 : decode cX14_instruction 520 = .ok (.goto 63, 3) := by decide +kernel
theorem dX14_instruction_523 : decode cX14_instruction 523 = .ok (.iload_n 2, 1) := by decide +kernel
theorem dX14_instruction_524 : decode cX14_instruction 524 = .ok (.sipush 178, 3) := by decide +kernel
theorem dX14_instruction_527 : decode cX14_instruction 527 = .ok (.if_icmp .eq 10, 3) := by decide +kernel
theorem dX14_instruction_530 : decode cX14_instruction 530 = .ok (.iload_n 2, 1) := by decide +kernel
theorem dX14_instruction_531 : decode cX14_instruction 531 = .ok (.sipush 179, 3) := by decide +kernel
theorem dX14_instruction_534 : decode cX14_instruction 534 = .ok (.if_icmp .ne 19, 3) := by decide +kernel
theorem dX14_instruction_537 : decode cX14_instruction 537 = .ok (.aload_n 0, 1) := by decide +kernel
theorem dX14_instruction_538 : decode cX14_instruction 538 = .ok (.iload_n 2, 1) := by decide +kernel
theorem dX14_instruction_539 : decode cX14_instruction 539 = .ok (.aload_n 0, 1) := by decide +kernel
theorem dX14_instruction_540 : decode cX14_instruction 540 = .ok (.iload_n 1, 1) := by decide +kernel
theorem dX14_instruction_541 : decode cX14_instruction 541 = .ok (.bipush 9, 2) := by decide +kernel
theorem dX14_instruction_543 : decode cX14_instruction 543 = .ok (.invokevirtual 498, 3) := by decide +kernel
theorem dX14_instruction_546 : decode cX14_instruction 546 = .ok (.iconst 0, 1) := by decide +kernel
theorem dX14_instruction_547 : decode cX14_instruction 547 = .ok (.invokevirtual 472, 3) := by decide +kernel
theorem dX14_instruction_550 : decode cX14_instruction 550 = .ok (.goto 33, 3) := by decide +kernel
theorem dX14_instruction_553 : decode cX14_instruction 553 = .ok (.iload_n 2, 1) := by decide +kernel
theorem dX14_instruction_554 : decode cX14_instruction 554 = .ok (.sipush 184, 3) := by decide +kernel
theorem dX14_instruction_557 : decode cX14_instruction 557 = .ok (.if_icmp .ne 19, 3) := by decide +kernel
theorem dX14_instruction_560 : decode cX14_instruction 560 = .ok (.aload_n 0, 1) := by decide +kernel
theorem dX14_instruction_561 : decode cX14_instruction 561 = .ok (.iload_n 2, 1) := by decide +kernel
theorem dX14_instruction_562 : decode cX14_instruction 562 = .ok (.aload_n 0, 1) := by decide +kernel
theorem dX14_instruction_563 : decode cX14_instruction 563 = .ok (.iload_n 1, 1) := by decide +kernel
theorem dX14_instruction_564 : decode cX14_instruction 564 = .ok (.bipush 10, 2) := by decide +kernel
theorem dX14_instruction_566 : decode cX14_instruction 566 = .ok (.invokevirtual 498, 3) := by decide +kernel
theorem dX14_instruction_569 : decode cX14_instruction 569 = .ok (.iconst 0, 1) := by decide +kernel
theorem dX14_instruction_570 : decode cX14_instruction 570 = .ok (.invokevirtual 472, 3) := by decide +kernel
theorem dX14_instruction_573 : decode cX14_instruction 573 = .ok (.goto 10, 3) := by decide +kernel
theorem dX14_instruction_576 : decode cX14_instruction 576 = .ok (.aload_n 0, 1) := by decide +kernel
theorem dX14_instruction_577 : decode cX14_instruction 577 = .ok (.iload_n 2, 1) := by decide +kernel
theorem dX14_instruction_578 : decode cX14_instruction 578 = .ok (.iconst 0, 1) := by decide +kernel
theorem dX14_instruction_579 : decode cX14_instruction 579 = .ok (.iconst 0, 1) := by decide +kernel
theorem dX14_instruction_580 : decode cX14_instruction 580 = .ok (.invokevirtual 472, 3) := by decide +kernel
theorem dX14_instruction_583 : decode cX14_instruction 583 = .ok (.return_, 1) := by decide +kernel
theorem dX14_intWork_0 : decode cX14_intWork 0 = .ok (.iload_n 0, 1) := by decide +kernel
theorem dX14_intWork_1 : decode cX14_intWork 1 = .ok (.tableswitch 215 96 128 #[147, 215, 215, 215, 151, 215, 215, 215, 155, 215, 215, 215, 159, 215, 215, 215, 173, 215, 215, 215, 215, 215, 215, 215, 186, 215, 193, 215, 200, 215, 207, 215, 211], 147) := by decide +kernel
theorem dX14_intWork_148 : decode cX14_intWork 148 = .ok (.iload_n 1, 1) := by decide +kernel
theorem dX14_intWork_149 : decode cX14_intWork 149 = .ok (.iload_n 2, 1) := by decide +kernel
theorem dX14_intWork_150 : decode cX14_intWork 150 = .ok (.iadd, 1) := by decide +kernel
theorem dX14_intWork_151 : decode cX14_intWork 151 = .ok (.ireturn, 1) := by decide +kernel
theorem dX14_intWork_152 : decode cX14_intWork 152 = .ok (.iload_n 1, 1) := by decide +kernel
theorem dX14_intWork_153 : decode cX14_intWork 153 = .ok (.iload_n 2, 1) := by decide +kernel
theorem dX14_intWork_154 : decode cX14_intWork 154 = .ok (.isub, 1) := by decide +kernel
theorem dX14_intWork_155 : decode cX14_intWork 155 = .ok (.ireturn, 1) := by decide +kernel
theorem dX14_intWork_156 : decode cX14_intWork 156 = .ok (.iload_n 1, 1) := by decide +kernel
theorem dX14_intWork_157 : decode cX14_intWork 157 = .ok (.iload_n 2, 1) := by decide +kernel
theorem dX14_intWork_158 : decode cX14_intWork 158 = .ok (.imul, 1) := by decide +kernel
theorem dX14_intWork_159 : decode cX14_intWork 159 = .ok (.ireturn, 1) := by decide +kernel
theorem dX14_intWork_160 : decode cX14_intWork 160 = .ok (.iload_n 2, 1) := by decide +kernel
theorem dX14_intWork_161 : decode cX14_intWork 161 = .ok (.iconst (-1), 1) := by decide +kernel
theorem dX14_intWork_162 : decode cX14_intWork 162 = .ok (.if_icmp .ne 8, 3) := by decide +kernel
theorem dX14_intWork_165 : decode cX14_intWork 165 = .ok (.iload_n 1, 1) := by decide +kernel
theorem dX14_intWork_166 : decode cX14_intWork 166 = .ok (.ineg, 1) := by decide +kernel
theorem dX14_intWork_167 : decode cX14_intWork 167 = .ok (.goto 6, 3) := by decide +kernel
theorem dX14_intWork_170 : decode cX14_intWork 170 = .ok (.iload_n 1, 1) := by decide +kernel
theorem dX14_intWork_171 : decode cX14_intWork 171 = .ok (.iload_n 2, 1) := by decide +kernel
theorem dX14_intWork_172 : decode cX14_intWork 172 = .ok (.idiv, 1) := by decide +kernel
theorem dX14_intWork_173 : decode cX14_intWork 173 = .ok (.ireturn, 1) := by decide +kernel
theorem dX14_intWork_174 : decode cX14_intWork 174 = .ok (.iload_n 2, 1) := by decide +kernel
theorem dX14_intWork_175 : decode cX14_intWork 175 = .ok (.iconst (-1), 1) := by decide +kernel
theorem dX14_intWork_176 : decode cX14_intWork 176 = .ok (.if_icmp .ne 7, 3) := by decide +kernel
theorem dX14_intWork_179 : decode cX14_intWork 179 = .ok (.iconst 0, 1) := by decide +kernel
theorem dX14_intWork_180 : decode cX14_intWork 180 = .ok (.goto 6, 3) := by decide +kernel
theorem dX14_intWork_183 : decode cX14_intWork 183 = .ok (.iload_n 1, 1) := by decide +kernel
theorem dX14_intWork_184 : decode cX14_intWork 184 = .ok (.iload_n 2, 1) := by decide +kernel
theorem dX14_intWork_185 : decode cX14_intWork 185 = .ok (.irem, 1) := by decide +kernel
theorem dX14_intWork_186 : decode cX14_intWork 186 = .ok (.ireturn, 1) := by decide +kernel
theorem dX14_intWork_187 : decode cX14_intWork 187 = .ok (.iload_n 1, 1) := by decide +kernel
theorem dX14_intWork_188 : decode cX14_intWork 188 = .ok (.iload_n 2, 1) := by decide +kernel
theorem dX14_intWork_189 : decode cX14_intWork 189 = .ok (.bipush 31, 2) := by decide +kernel
theorem dX14_intWork_191 : decode cX14_intWork 191 = .ok (.iand, 1) := by decide +kernel
theorem dX14_intWork_192 : decode cX14_intWork 192 = .ok (.ishl, 1) := by decide +kernel
theorem dX14_intWork_193 : decode cX14_intWork 193 = .ok (.ireturn, 1) := by decide +kernel
theorem dX14_intWork_194 : decode cX14_intWork 194 = .ok (.iload_n 1, 1) := by decide +kernel
theorem dX14_intWork_195 : decode cX14_intWork 195 = .ok (.iload_n 2, 1) := by decide +kernel
theorem dX14_intWork_196 : decode cX14_intWork 196 = .ok (.bipush 31, 2) := by decide +kernel
theorem dX14_intWork_198 : decode cX14_intWork 198 = .ok (.iand, 1) := by decide +kernel
theorem dX14_intWork_199 : decode cX14_intWork 199 = .ok (.ishr, 1) := by decide +kernel
theorem dX14_intWork_200 : decode cX14_intWork 200 = .ok (.ireturn, 1) := by decide +kernel
theorem dX14_intWork_201 : decode cX14_intWork 201 = .ok (.iload_n 1, 1) := by decide +kernel
theorem dX14_intWork_202 : decode cX14_intWork 202 = .ok (.iload_n 2, 1) := by decide +kernel
theorem dX14_intWork_203 : decode cX14_intWork 203 = .ok (.bipush 31, 2) := by decide +kernel
theorem dX14_intWork_205 : decode cX14_intWork 205 = .ok (.iand, 1) := by decide +kernel
theorem dX14_intWork_206 : decode cX14_intWork 206 = .ok (.iushr, 1) := by decide +kernel
theorem dX14_intWork_207 : decode cX14_intWork 207 = .ok (.ireturn, 1) := by decide +kernel
theorem dX14_intWork_208 : decode cX14_intWork 208 = .ok (.iload_n 1, 1) := by decide +kernel
theorem dX14_intWork_209 : decode cX14_intWork 209 = .ok (.iload_n 2, 1) := by decide +kernel
theorem dX14_intWork_210 : decode cX14_intWork 210 = .ok (.iand, 1) := by decide +kernel
theorem dX14_intWork_211 : decode cX14_intWork 211 = .ok (.ireturn, 1) := by decide +kernel
theorem dX14_intWork_212 : decode cX14_intWork 212 = .ok (.iload_n 1, 1) := by decide +kernel
theorem dX14_intWork_213 : decode cX14_intWork 213 = .ok (.iload_n 2, 1) := by decide +kernel
theorem dX14_intWork_214 : decode cX14_intWork 214 = .ok (.ior, 1) := by decide +kernel
theorem dX14_intWork_215 : decode cX14_intWork 215 = .ok (.ireturn, 1) := by decide +kernel
theorem dX14_intWork_216 : decode cX14_intWork 216 = .ok (.iload_n 1, 1) := by decide +kernel
theorem dX14_intWork_217 : decode cX14_intWork 217 = .ok (.iload_n 2, 1) := by decide +kernel
theorem dX14_intWork_218 : decode cX14_intWork 218 = .ok (.ixor, 1) := by decide +kernel
theorem dX14_intWork_219 : decode cX14_intWork 219 = .ok (.ireturn, 1) := by decide +kernel
theorem dX14_isBack_0 : decode cX14_isBack 0 = .ok (.aload_n 0, 1) := by decide +kernel
theorem dX14_isBack_1 : decode cX14_isBack 1 = .ok (.getfield 240, 3) := by decide +kernel
theorem dX14_isBack_4 : decode cX14_isBack 4 = .ok (.iload_n 1, 1) := by decide +kernel
theorem dX14_isBack_5 : decode cX14_isBack 5 = .ok (.iaload, 1) := by decide +kernel
theorem dX14_isBack_6 : decode cX14_isBack 6 = .ok (.invokestatic 1237, 3) := by decide +kernel
theorem dX14_isBack_9 : decode cX14_isBack 9 = .ok (.ifCond .eq 64, 3) := by decide +kernel
theorem dX14_isBack_12 : decode cX14_isBack 12 = .ok (.aload_n 0, 1) := by decide +kernel
theorem dX14_isBack_13 : decode cX14_isBack 13 = .ok (.getfield 240, 3) := by decide +kernel
theorem dX14_isBack_16 : decode cX14_isBack 16 = .ok (.iload_n 2, 1) := by decide +kernel
theorem dX14_isBack_17 : decode cX14_isBack 17 = .ok (.iaload, 1) := by decide +kernel
theorem dX14_isBack_18 : decode cX14_isBack 18 = .ok (.aload_n 0, 1) := by decide +kernel
theorem dX14_isBack_19 : decode cX14_isBack 19 = .ok (.getfield 240, 3) := by decide +kernel
theorem dX14_isBack_22 : decode cX14_isBack 22 = .ok (.iload_n 1, 1) := by decide +kernel
theorem dX14_isBack_23 : decode cX14_isBack 23 = .ok (.iaload, 1) := by decide +kernel
theorem dX14_isBack_24 : decode cX14_isBack 24 = .ok (.bipush 33, 2) := by decide +kernel
theorem dX14_isBack_26 : decode cX14_isBack 26 = .ok (.isub, 1) := by decide +kernel
theorem dX14_isBack_27 : decode cX14_isBack 27 = .ok (.if_icmp .ne 46, 3) := by decide +kernel
theorem dX14_isBack_30 : decode cX14_isBack 30 = .ok (.aload_n 0, 1) := by decide +kernel
theorem dX14_isBack_31 : decode cX14_isBack 31 = .ok (.getfield 243, 3) := by decide +kernel
theorem dX14_isBack_34 : decode cX14_isBack 34 = .ok (.iload_n 1, 1) := by decide +kernel
theorem dX14_isBack_35 : decode cX14_isBack 35 = .ok (.iaload, 1) := by decide +kernel
theorem dX14_isBack_36 : decode cX14_isBack 36 = .ok (.aload_n 0, 1) := by decide +kernel
theorem dX14_isBack_37 : decode cX14_isBack 37 = .ok (.getfield 243, 3) := by decide +kernel
theorem dX14_isBack_40 : decode cX14_isBack 40 = .ok (.iload_n 2, 1) := by decide +kernel
theorem dX14_isBack_41 : decode cX14_isBack 41 = .ok (.iaload, 1) := by decide +kernel
theorem dX14_isBack_42 : decode cX14_isBack 42 = .ok (.if_icmp .ne 31, 3) := by decide +kernel
theorem dX14_isBack_45 : decode cX14_isBack 45 = .ok (.aload_n 0, 1) := by decide +kernel
theorem dX14_isBack_46 : decode cX14_isBack 46 = .ok (.iload_n 2, 1) := by decide +kernel
theorem dX14_isBack_47 : decode cX14_isBack 47 = .ok (.invokevirtual 1234, 3) := by decide +kernel
theorem dX14_isBack_50 : decode cX14_isBack 50 = .ok (.aload_n 0, 1) := by decide +kernel
theorem dX14_isBack_51 : decode cX14_isBack 51 = .ok (.getfield 240, 3) := by decide +kernel
theorem dX14_isBack_54 : decode cX14_isBack 54 = .ok (.iload_n 2, 1) := by decide +kernel
theorem dX14_isBack_55 : decode cX14_isBack 55 = .ok (.iaload, 1) := by decide +kernel
theorem dX14_isBack_56 : decode cX14_isBack 56 = .ok (.aload_n 0, 1) := by decide +kernel
theorem dX14_isBack_57 : decode cX14_isBack 57 = .ok (.getfield 243, 3) := by decide +kernel
theorem dX14_isBack_60 : decode cX14_isBack 60 = .ok (.iload_n 2, 1) := by decide +kernel
theorem dX14_isBack_61 : decode cX14_isBack 61 = .ok (.iaload, 1) := by decide +kernel
theorem dX14_isBack_62 : decode cX14_isBack 62 = .ok (.invokestatic 1240, 3) := by decide +kernel
theorem dX14_isBack_65 : decode cX14_isBack 65 = .ok (.iand, 1) := by decide +kernel
theorem dX14_isBack_66 : decode cX14_isBack 66 = .ok (.ifCond .ne 7, 3) := by decide +kernel
theorem dX14_isBack_69 : decode cX14_isBack 69 = .ok (.iconst 1, 1) := by decide +kernel
theorem dX14_isBack_70 : decode cX14_isBack 70 = .ok (.goto 4, 3) := by decide +kernel
theorem dX14_isBack_73 : decode cX14_isBack 73 = .ok (.iconst 0, 1) := by decide +kernel
theorem dX14_isBack_74 : decode cX14_isBack 74 = .ok (.ireturn, 1) := by decide +kernel
theorem dX14_isByte_0 : decode cX14_isByte 0 = .ok (.iload_n 0, 1) := by decide +kernel
theorem dX14_isByte_1 : decode cX14_isByte 1 = .ok (.bipush (-128), 2) := by decide +kernel
theorem dX14_isByte_3 : decode cX14_isByte 3 = .ok (.if_icmp .lt 13, 3) := by decide +kernel
theorem dX14_isByte_6 : decode cX14_isByte 6 = .ok (.iload_n 0, 1) := by decide +kernel
theorem dX14_isByte_7 : decode cX14_isByte 7 = .ok (.bipush 127, 2) := by decide +kernel
theorem dX14_isByte_9 : decode cX14_isByte 9 = .ok (.if_icmp .gt 7, 3) := by decide +kernel
theorem dX14_isByte_12 : decode cX14_isByte 12 = .ok (.iconst 1, 1) := by decide +kernel
theorem dX14_isByte_13 : decode cX14_isByte 13 = .ok (.goto 4, 3) := by decide +kernel
theorem dX14_isByte_16 : decode cX14_isByte 16 = .ok (.iconst 0, 1) := by decide +kernel
theorem dX14_isByte_17 : decode cX14_isByte 17 = .ok (.ireturn, 1) := by decide +kernel
theorem dX14_isCaught_0 : decode cX14_isCaught 0 = .ok (.iload_n 1, 1) := by decide +kernel
theorem dX14_isCaught_1 : decode cX14_isCaught 1 = .ok (.aload_n 0, 1) := by decide +kernel
theorem dX14_isCaught_2 : decode cX14_isCaught 2 = .ok (.iload_n 2, 1) := by decide +kernel
theorem dX14_isCaught_3 : decode cX14_isCaught 3 = .ok (.iconst 0, 1) := by decide +kernel
theorem dX14_isCaught_4 : decode cX14_isCaught 4 = .ok (.invokevirtual 682, 3) := by decide +kernel
theorem dX14_isCaught_7 : decode cX14_isCaught 7 = .ok (.if_icmp .lt 17, 3) := by decide +kernel
theorem dX14_isCaught_10 : decode cX14_isCaught 10 = .ok (.iload_n 1, 1) := by decide +kernel
theorem dX14_isCaught_11 : decode cX14_isCaught 11 = .ok (.aload_n 0, 1) := by decide +kernel
theorem dX14_isCaught_12 : decode cX14_isCaught 12 = .ok (.iload_n 2, 1) := by decide +kernel
theorem dX14_isCaught_13 : decode cX14_isCaught 13 = .ok (.iconst 1, 1) := by decide +kernel
theorem dX14_isCaught_14 : decode cX14_isCaught 14 = .ok (.invokevirtual 682, 3) := by decide +kernel
theorem dX14_isCaught_17 : decode cX14_isCaught 17 = .ok (.if_icmp .ge 7, 3) := by decide +kernel
theorem dX14_isCaught_20 : decode cX14_isCaught 20 = .ok (.iconst 1, 1) := by decide +kernel
theorem dX14_isCaught_21 : decode cX14_isCaught 21 = .ok (.goto 4, 3) := by decide +kernel
theorem dX14_isCaught_24 : decode cX14_isCaught 24 = .ok (.iconst 0, 1) := by decide +kernel
theorem dX14_isCaught_25 : decode cX14_isCaught 25 = .ok (.ireturn, 1) := by decide +kernel
theorem dX14_isDropped_0 : decode cX14_isDropped 0 = .ok (.aload_n 0, 1) := by decide +kernel
theorem dX14_isDropped_1 : decode cX14_isDropped 1 = .ok (.getfield 240, 3) := by decide +kernel
theorem dX14_isDropped_4 : decode cX14_isDropped 4 = .ok (.iload_n 1, 1) := by decide +kernel
theorem dX14_isDropped_5 : decode cX14_isDropped 5 = .ok (.iaload, 1) := by decide +kernel
theorem dX14_isDropped_6 : decode cX14_isDropped 6 = .ok (.istore_n 3, 1) := by decide +kernel
theorem dX14_isDropped_7 : decode cX14_isDropped 7 = .ok (.aload_n 0, 1) := by decide +kernel
theorem dX14_isDropped_8 : decode cX14_isDropped 8 = .ok (.getfield 240, 3) := by decide +kernel
theorem dX14_isDropped_11 : decode cX14_isDropped 11 = .ok (.iload_n 2, 1) := by decide +kernel
theorem dX14_isDropped_12 : decode cX14_isDropped 12 = .ok (.iaload, 1) := by decide +kernel
theorem dX14_isDropped_13 : decode cX14_isDropped 13 = .ok (.bipush 87, 2) := by decide +kernel
theorem dX14_isDropped_15 : decode cX14_isDropped 15 = .ok (.if_icmp .ne 32, 3) := by decide +kernel
theorem dX14_isDropped_18 : decode cX14_isDropped 18 = .ok (.iload_n 3, 1) := by decide +kernel
theorem dX14_isDropped_19 : decode cX14_isDropped 19 = .ok (.bipush 18, 2) := by decide +kernel
theorem dX14_isDropped_21 : decode cX14_isDropped 21 = .ok (.if_icmp .eq 20, 3) := by decide +kernel
theorem dX14_isDropped_24 : decode cX14_isDropped 24 = .ok (.iload_n 3, 1) := by decide +kernel
theorem dX14_isDropped_25 : decode cX14_isDropped 25 = .ok (.iconst 1, 1) := by decide +kernel
theorem dX14_isDropped_26 : decode cX14_isDropped 26 = .ok (.if_icmp .eq 15, 3) := by decide +kernel
theorem dX14_isDropped_29 : decode cX14_isDropped 29 = .ok (.iload_n 3, 1) := by decide +kernel
theorem dX14_isDropped_30 : decode cX14_isDropped 30 = .ok (.bipush 21, 2) := by decide +kernel
theorem dX14_isDropped_32 : decode cX14_isDropped 32 = .ok (.if_icmp .eq 9, 3) := by decide +kernel
theorem dX14_isDropped_35 : decode cX14_isDropped 35 = .ok (.iload_n 3, 1) := by decide +kernel
theorem dX14_isDropped_36 : decode cX14_isDropped 36 = .ok (.bipush 25, 2) := by decide +kernel
theorem dX14_isDropped_38 : decode cX14_isDropped 38 = .ok (.if_icmp .ne 7, 3) := by decide +kernel
theorem dX14_isDropped_41 : decode cX14_isDropped 41 = .ok (.iconst 1, 1) := by decide +kernel
theorem dX14_isDropped_42 : decode cX14_isDropped 42 = .ok (.goto 4, 3) := by decide +kernel
theorem dX14_isDropped_45 : decode cX14_isDropped 45 = .ok (.iconst 0, 1) := by decide +kernel
theorem dX14_isDropped_46 : decode cX14_isDropped 46 = .ok (.ireturn, 1) := by decide +kernel
theorem dX14_isDropped_47 : decode cX14_isDropped 47 = .ok (.aload_n 0, 1) := by decide +kernel
theorem dX14_isDropped_48 : decode cX14_isDropped 48 = .ok (.getfield 240, 3) := by decide +kernel
theorem dX14_isDropped_51 : decode cX14_isDropped 51 = .ok (.iload_n 2, 1) := by decide +kernel
theorem dX14_isDropped_52 : decode cX14_isDropped 52 = .ok (.iaload, 1) := by decide +kernel
theorem dX14_isDropped_53 : decode cX14_isDropped 53 = .ok (.bipush 88, 2) := by decide +kernel
theorem dX14_isDropped_55 : decode cX14_isDropped 55 = .ok (.if_icmp .ne 19, 3) := by decide +kernel
theorem dX14_isDropped_58 : decode cX14_isDropped 58 = .ok (.iload_n 3, 1) := by decide +kernel
theorem dX14_isDropped_59 : decode cX14_isDropped 59 = .ok (.bipush 20, 2) := by decide +kernel
theorem dX14_isDropped_61 : decode cX14_isDropped 61 = .ok (.if_icmp .eq 9, 3) := by decide +kernel
theorem dX14_isDropped_64 : decode cX14_isDropped 64 = .ok (.iload_n 3, 1) := by decide +kernel
theorem dX14_isDropped_65 : decode cX14_isDropped 65 = .ok (.bipush 22, 2) := by decide +kernel
theorem dX14_isDropped_67 : decode cX14_isDropped 67 = .ok (.if_icmp .ne 7, 3) := by decide +kernel
theorem dX14_isDropped_70 : decode cX14_isDropped 70 = .ok (.iconst 1, 1) := by decide +kernel
theorem dX14_isDropped_71 : decode cX14_isDropped 71 = .ok (.goto 4, 3) := by decide +kernel
theorem dX14_isDropped_74 : decode cX14_isDropped 74 = .ok (.iconst 0, 1) := by decide +kernel
theorem dX14_isDropped_75 : decode cX14_isDropped 75 = .ok (.ireturn, 1) := by decide +kernel
theorem dX14_isEntry_0 : decode cX14_isEntry 0 = .ok (.iload_n 1, 1) := by decide +kernel
theorem dX14_isEntry_1 : decode cX14_isEntry 1 = .ok (.iconst 1, 1) := by decide +kernel
theorem dX14_isEntry_2 : decode cX14_isEntry 2 = .ok (.if_icmp .lt 25, 3) := by decide +kernel
theorem dX14_isEntry_5 : decode cX14_isEntry 5 = .ok (.iload_n 1, 1) := by decide +kernel
theorem dX14_isEntry_6 : decode cX14_isEntry 6 = .ok (.aload_n 0, 1) := by decide +kernel
theorem dX14_isEntry_7 : decode cX14_isEntry 7 = .ok (.getfield 338, 3) := by decide +kernel
theorem dX14_isEntry_10 : decode cX14_isEntry 10 = .ok (.if_icmp .ge 17, 3) := by decide +kernel
theorem dX14_isEntry_13 : decode cX14_isEntry 13 = .ok (.aload_n 0, 1) := by decide +kernel
theorem dX14_isEntry_14 : decode cX14_isEntry 14 = .ok (.getfield 30, 3) := by decide +kernel
theorem dX14_isEntry_17 : decode cX14_isEntry 17 = .ok (.iload_n 1, 1) := by decide +kernel
theorem dX14_isEntry_18 : decode cX14_isEntry 18 = .ok (.iaload, 1) := by decide +kernel
theorem dX14_isEntry_19 : decode cX14_isEntry 19 = .ok (.iload_n 2, 1) := by decide +kernel
theorem dX14_isEntry_20 : decode cX14_isEntry 20 = .ok (.if_icmp .ne 7, 3) := by decide +kernel
theorem dX14_isEntry_23 : decode cX14_isEntry 23 = .ok (.iconst 1, 1) := by decide +kernel
theorem dX14_isEntry_24 : decode cX14_isEntry 24 = .ok (.goto 4, 3) := by decide +kernel
theorem dX14_isEntry_27 : decode cX14_isEntry 27 = .ok (.iconst 0, 1) := by decide +kernel
theorem dX14_isEntry_28 : decode cX14_isEntry 28 = .ok (.ireturn, 1) := by decide +kernel
theorem dX14_isHeightFault_0 : decode cX14_isHeightFault 0 = .ok (.aload_n 0, 1) := by decide +kernel
theorem dX14_isHeightFault_1 : decode cX14_isHeightFault 1 = .ok (.getfield 88, 3) := by decide +kernel
theorem dX14_isHeightFault_4 : decode cX14_isHeightFault 4 = .ok (.iload_n 1, 1) := by decide +kernel
theorem dX14_isHeightFault_5 : decode cX14_isHeightFault 5 = .ok (.iaload, 1) := by decide +kernel
theorem dX14_isHeightFault_6 : decode cX14_isHeightFault 6 = .ok (.ifCond .eq 28, 3) := by decide +kernel
theorem dX14_isHeightFault_9 : decode cX14_isHeightFault 9 = .ok (.aload_n 0, 1) := by decide +kernel
theorem dX14_isHeightFault_10 : decode cX14_isHeightFault 10 = .ok (.iload_n 1, 1) := by decide +kernel
theorem dX14_isHeightFault_11 : decode cX14_isHeightFault 11 = .ok (.invokevirtual 774, 3) := by decide +kernel
theorem dX14_isHeightFault_14 : decode cX14_isHeightFault 14 = .ok (.ifCond .lt 16, 3) := by decide +kernel
theorem dX14_isHeightFault_17 : decode cX14_isHeightFault 17 = .ok (.aload_n 0, 1) := by decide +kernel
theorem dX14_isHeightFault_18 : decode cX14_isHeightFault 18 = .ok (.iload_n 1, 1) := by decide +kernel
theorem dX14_isHeightFault_19 : decode cX14_isHeightFault 19 = .ok (.aload_n 0, 1) := by decide +kernel
theorem dX14_isHeightFault_20 : decode cX14_isHeightFault 20 = .ok (.iload_n 1, 1) := by decide +kernel
theorem dX14_isHeightFault_21 : decode cX14_isHeightFault 21 = .ok (.invokevirtual 774, 3) := by decide +kernel
theorem dX14_isHeightFault_24 : decode cX14_isHeightFault 24 = .ok (.invokevirtual 768, 3) := by decide +kernel
theorem dX14_isHeightFault_27 : decode cX14_isHeightFault 27 = .ok (.ifCond .ne 7, 3) := by decide +kernel
theorem dX14_isHeightFault_30 : decode cX14_isHeightFault 30 = .ok (.iconst 1, 1) := by decide +kernel
theorem dX14_isHeightFault_31 : decode cX14_isHeightFault 31 = .ok (.goto 4, 3) := by decide +kernel
theorem dX14_isHeightFault_34 : decode cX14_isHeightFault 34 = .ok (.iconst 0, 1) := by decide +kernel
theorem dX14_isHeightFault_35 : decode cX14_isHeightFault 35 = .ok (.ireturn, 1) := by decide +kernel
theorem dX14_isIdle_0 : decode cX14_isIdle 0 = .ok (.aload_n 0, 1) := by decide +kernel
theorem dX14_isIdle_1 : decode cX14_isIdle 1 = .ok (.getfield 240, 3) := by decide +kernel
theorem dX14_isIdle_4 : decode cX14_isIdle 4 = .ok (.iload_n 2, 1) := by decide +kernel
theorem dX14_isIdle_5 : decode cX14_isIdle 5 = .ok (.iaload, 1) := by decide +kernel
theorem dX14_isIdle_6 : decode cX14_isIdle 6 = .ok (.istore_n 3, 1) := by decide +kernel
theorem dX14_isIdle_7 : decode cX14_isIdle 7 = .ok (.aload_n 0, 1) := by decide +kernel
theorem dX14_isIdle_8 : decode cX14_isIdle 8 = .ok (.getfield 240, 3) := by decide +kernel
theorem dX14_isIdle_11 : decode cX14_isIdle 11 = .ok (.iload_n 1, 1) := by decide +kernel
theorem dX14_isIdle_12 : decode cX14_isIdle 12 = .ok (.iaload, 1) := by decide +kernel
theorem dX14_isIdle_13 : decode cX14_isIdle 13 = .ok (.invokestatic 1231, 3) := by decide +kernel
theorem dX14_isIdle_16 : decode cX14_isIdle 16 = .ok (.ifCond .eq 30, 3) := by decide +kernel
theorem dX14_isIdle_19 : decode cX14_isIdle 19 = .ok (.iload_n 3, 1) := by decide +kernel
theorem dX14_isIdle_20 : decode cX14_isIdle 20 = .ok (.invokestatic 1211, 3) := by decide +kernel
theorem dX14_isIdle_23 : decode cX14_isIdle 23 = .ok (.ifCond .eq 23, 3) := by decide +kernel
theorem dX14_isIdle_26 : decode cX14_isIdle 26 = .ok (.iload_n 3, 1) := by decide +kernel
theorem dX14_isIdle_27 : decode cX14_isIdle 27 = .ok (.sipush 148, 3) := by decide +kernel
theorem dX14_isIdle_30 : decode cX14_isIdle 30 = .ok (.if_icmp .eq 16, 3) := by decide +kernel
theorem dX14_isIdle_33 : decode cX14_isIdle 33 = .ok (.aload_n 0, 1) := by decide +kernel
theorem dX14_isIdle_34 : decode cX14_isIdle 34 = .ok (.getfield 240, 3) := by decide +kernel
theorem dX14_isIdle_37 : decode cX14_isIdle 37 = .ok (.iload_n 1, 1) := by decide +kernel
theorem dX14_isIdle_38 : decode cX14_isIdle 38 = .ok (.iaload, 1) := by decide +kernel
theorem dX14_isIdle_39 : decode cX14_isIdle 39 = .ok (.iload_n 3, 1) := by decide +kernel
theorem dX14_isIdle_40 : decode cX14_isIdle 40 = .ok (.invokestatic 1217, 3) := by decide +kernel
theorem dX14_isIdle_43 : decode cX14_isIdle 43 = .ok (.if_icmp .eq 5, 3) := by decide +kernel
theorem dX14_isIdle_46 : decode cX14_isIdle 46 = .ok (.iconst 0, 1) := by decide +kernel
theorem dX14_isIdle_47 : decode cX14_isIdle 47 = .ok (.ireturn, 1) := by decide +kernel
theorem dX14_isIdle_48 : decode cX14_isIdle 48 = .ok (.aload_n 0, 1) := by decide +kernel
theorem dX14_isIdle_49 : decode cX14_isIdle 49 = .ok (.iload_n 1, 1) := by decide +kernel
theorem dX14_isIdle_50 : decode cX14_isIdle 50 = .ok (.invokevirtual 1220, 3) := by decide +kernel
theorem dX14_isIdle_53 : decode cX14_isIdle 53 = .ok (.lstore 4, 2) := by decide +kernel
theorem dX14_isIdle_55 : decode cX14_isIdle 55 = .ok (.iload_n 3, 1) := by decide +kernel
theorem dX14_isIdle_56 : decode cX14_isIdle 56 = .ok (.iload_n 3, 1) := by decide +kernel
theorem dX14_isIdle_57 : decode cX14_isIdle 57 = .ok (.iconst 2, 1) := by decide +kernel
theorem dX14_isIdle_58 : decode cX14_isIdle 58 = .ok (.irem, 1) := by decide +kernel
theorem dX14_isIdle_59 : decode cX14_isIdle 59 = .ok (.isub, 1) := by decide +kernel
theorem dX14_isIdle_60 : decode cX14_isIdle 60 = .ok (.istore 6, 2) := by decide +kernel
theorem dX14_isIdle_62 : decode cX14_isIdle 62 = .ok (.lload 4, 2) := by decide +kernel
theorem dX14_isIdle_64 : decode cX14_isIdle 64 = .ok (.lconst 0, 1) := by decide +kernel
theorem dX14_isIdle_65 : decode cX14_isIdle 65 = .ok (.lcmp, 1) := by decide +kernel
theorem dX14_isIdle_66 : decode cX14_isIdle 66 = .ok (.ifCond .ne 53, 3) := by decide +kernel
theorem dX14_isIdle_69 : decode cX14_isIdle 69 = .ok (.iload 6, 2) := by decide +kernel
theorem dX14_isIdle_71 : decode cX14_isIdle 71 = .ok (.bipush 96, 2) := by decide +kernel
theorem dX14_isIdle_73 : decode cX14_isIdle 73 = .ok (.if_icmp .eq 40, 3) := by decide +kernel
theorem dX14_isIdle_76 : decode cX14_isIdle 76 = .ok (.iload 6, 2) := by decide +kernel
theorem dX14_isIdle_78 : decode cX14_isIdle 78 = .ok (.bipush 100, 2) := by decide +kernel
theorem dX14_isIdle_80 : decode cX14_isIdle 80 = .ok (.if_icmp .eq 33, 3) := by decide +kernel
theorem dX14_isIdle_83 : decode cX14_isIdle 83 = .ok (.iload 6, 2) := by decide +kernel
theorem dX14_isIdle_85 : decode cX14_isIdle 85 = .ok (.sipush 128, 3) := by decide +kernel
theorem dX14_isIdle_88 : decode cX14_isIdle 88 = .ok (.if_icmp .eq 25, 3) := by decide +kernel
theorem dX14_isIdle_91 : decode cX14_isIdle 91 = .ok (.iload 6, 2) := by decide +kernel
theorem dX14_isIdle_93 : decode cX14_isIdle 93 = .ok (.sipush 130, 3) := by decide +kernel
theorem dX14_isIdle_96 : decode cX14_isIdle 96 = .ok (.if_icmp .eq 17, 3) := by decide +kernel
theorem dX14_isIdle_99 : decode cX14_isIdle 99 = .ok (.iload 6, 2) := by decide +kernel
theorem dX14_isIdle_101 : decode cX14_isIdle 101 = .ok (.bipush 120, 2) := by decide +kernel
theorem dX14_isIdle_103 : decode cX14_isIdle 103 = .ok (.if_icmp .lt 14, 3) := by decide +kernel
theorem dX14_isIdle_106 : decode cX14_isIdle 106 = .ok (.iload 6, 2) := by decide +kernel
theorem dX14_isIdle_108 : decode cX14_isIdle 108 = .ok (.bipush 124, 2) := by decide +kernel
theorem dX14_isIdle_110 : decode cX14_isIdle 110 = .ok (.if_icmp .gt 7, 3) := by decide +kernel
theorem dX14_isIdle_113 : decode cX14_isIdle 113 = .ok (.iconst 1, 1) := by decide +kernel
theorem dX14_isIdle_114 : decode cX14_isIdle 114 = .ok (.goto 4, 3) := by decide +kernel
theorem dX14_isIdle_117 : decode cX14_isIdle 117 = .ok (.iconst 0, 1) := by decide +kernel
theorem dX14_isIdle_118 : decode cX14_isIdle 118 = .ok (.ireturn, 1) := by decide +kernel
theorem dX14_isIdle_119 : decode cX14_isIdle 119 = .ok (.lload 4, 2) := by decide +kernel
theorem dX14_isIdle_121 : decode cX14_isIdle 121 = .ok (.lconst 1, 1) := by decide +kernel
theorem dX14_isIdle_122 : decode cX14_isIdle 122 = .ok (.lcmp, 1) := by decide +kernel
theorem dX14_isIdle_123 : decode cX14_isIdle 123 = .ok (.ifCond .ne 17, 3) := by decide +kernel
theorem dX14_isIdle_126 : decode cX14_isIdle 126 = .ok (.iload 6, 2) := by decide +kernel
theorem dX14_isIdle_128 : decode cX14_isIdle 128 = .ok (.bipush 104, 2) := by decide +kernel
theorem dX14_isIdle_130 : decode cX14_isIdle 130 = .ok (.if_icmp .eq 26, 3) := by decide +kernel
theorem dX14_isIdle_133 : decode cX14_isIdle 133 = .ok (.iload 6, 2) := by decide +kernel
theorem dX14_isIdle_135 : decode cX14_isIdle 135 = .ok (.bipush 108, 2) := by decide +kernel
theorem dX14_isIdle_137 : decode cX14_isIdle 137 = .ok (.if_icmp .eq 19, 3) := by decide +kernel
theorem dX14_isIdle_140 : decode cX14_isIdle 140 = .ok (.lload 4, 2) := by decide +kernel
theorem dX14_isIdle_142 : decode cX14_isIdle 142 = .ok (.ldc2_w 1069, 3) := by decide +kernel
theorem dX14_isIdle_145 : decode cX14_isIdle 145 = .ok (.lcmp, 1) := by decide +kernel
theorem dX14_isIdle_146 : decode cX14_isIdle 146 = .ok (.ifCond .ne 14, 3) := by decide +kernel
theorem dX14_isIdle_149 : decode cX14_isIdle 149 = .ok (.iload 6, 2) := by decide +kernel
theorem dX14_isIdle_151 : decode cX14_isIdle 151 = .ok (.bipush 126, 2) := by decide +kernel
theorem dX14_isIdle_153 : decode cX14_isIdle 153 = .ok (.if_icmp .ne 7, 3) := by decide +kernel
theorem dX14_isIdle_156 : decode cX14_isIdle 156 = .ok (.iconst 1, 1) := by decide +kernel
theorem dX14_isIdle_157 : decode cX14_isIdle 157 = .ok (.goto 4, 3) := by decide +kernel
theorem dX14_isIdle_160 : decode cX14_isIdle 160 = .ok (.iconst 0, 1) := by decide +kernel
theorem dX14_isIdle_161 : decode cX14_isIdle 161 = .ok (.ireturn, 1) := by decide +kernel
theorem dX14_isIn_0 : decode cX14_isIn 0 = .ok (.aload_n 0, 1) := by decide +kernel
theorem dX14_isIn_1 : decode cX14_isIn 1 = .ok (.getfield 264, 3) := by decide +kernel
theorem dX14_isIn_4 : decode cX14_isIn 4 = .ok (.iload_n 2, 1) := by decide +kernel
theorem dX14_isIn_5 : decode cX14_isIn 5 = .ok (.baload, 1) := by decide +kernel
theorem dX14_isIn_6 : decode cX14_isIn 6 = .ok (.ifCond .ne 27, 3) := by decide +kernel
theorem dX14_isIn_9 : decode cX14_isIn 9 = .ok (.iload_n 1, 1) := by decide +kernel
theorem dX14_isIn_10 : decode cX14_isIn 10 = .ok (.aload_n 0, 1) := by decide +kernel
theorem dX14_isIn_11 : decode cX14_isIn 11 = .ok (.getfield 252, 3) := by decide +kernel
theorem dX14_isIn_14 : decode cX14_isIn 14 = .ok (.iload_n 2, 1) := by decide +kernel
theorem dX14_isIn_15 : decode cX14_isIn 15 = .ok (.iaload, 1) := by decide +kernel
theorem dX14_isIn_16 : decode cX14_isIn 16 = .ok (.if_icmp .lt 17, 3) := by decide +kernel
theorem dX14_isIn_19 : decode cX14_isIn 19 = .ok (.iload_n 1, 1) := by decide +kernel
theorem dX14_isIn_20 : decode cX14_isIn 20 = .ok (.aload_n 0, 1) := by decide +kernel
theorem dX14_isIn_21 : decode cX14_isIn 21 = .ok (.getfield 255, 3) := by decide +kernel
theorem dX14_isIn_24 : decode cX14_isIn 24 = .ok (.iload_n 2, 1) := by decide +kernel
theorem dX14_isIn_25 : decode cX14_isIn 25 = .ok (.iaload, 1) := by decide +kernel
theorem dX14_isIn_26 : decode cX14_isIn 26 = .ok (.if_icmp .ge 7, 3) := by decide +kernel
theorem dX14_isIn_29 : decode cX14_isIn 29 = .ok (.iconst 1, 1) := by decide +kernel
theorem dX14_isIn_30 : decode cX14_isIn 30 = .ok (.goto 4, 3) := by decide +kernel
theorem dX14_isIn_33 : decode cX14_isIn 33 = .ok (.iconst 0, 1) := by decide +kernel
theorem dX14_isIn_34 : decode cX14_isIn 34 = .ok (.ireturn, 1) := by decide +kernel
theorem dX14_isJump_0 : decode cX14_isJump 0 = .ok (.iload_n 0, 1) := by decide +kernel
theorem dX14_isJump_1 : decode cX14_isJump 1 = .ok (.sipush 153, 3) := by decide +kernel
theorem dX14_isJump_4 : decode cX14_isJump 4 = .ok (.if_icmp .lt 10, 3) := by decide +kernel
theorem dX14_isJump_7 : decode cX14_isJump 7 = .ok (.iload_n 0, 1) := by decide +kernel
theorem dX14_isJump_8 : decode cX14_isJump 8 = .ok (.sipush 167, 3) := by decide +kernel
theorem dX14_isJump_11 : decode cX14_isJump 11 = .ok (.if_icmp .le 17, 3) := by decide +kernel
theorem dX14_isJump_14 : decode cX14_isJump 14 = .ok (.iload_n 0, 1) := by decide +kernel
theorem dX14_isJump_15 : decode cX14_isJump 15 = .ok (.sipush 198, 3) := by decide +kernel
theorem dX14_isJump_18 : decode cX14_isJump 18 = .ok (.if_icmp .eq 10, 3) := by decide +kernel
theorem dX14_isJump_21 : decode cX14_isJump 21 = .ok (.iload_n 0, 1) := by decide +kernel
theorem dX14_isJump_22 : decode cX14_isJump 22 = .ok (.sipush 199, 3) := by decide +kernel
theorem dX14_isJump_25 : decode cX14_isJump 25 = .ok (.if_icmp .ne 7, 3) := by decide +kernel
theorem dX14_isJump_28 : decode cX14_isJump 28 = .ok (.iconst 1, 1) := by decide +kernel
theorem dX14_isJump_29 : decode cX14_isJump 29 = .ok (.goto 4, 3) := by decide +kernel
theorem dX14_isJump_32 : decode cX14_isJump 32 = .ok (.iconst 0, 1) := by decide +kernel
theorem dX14_isJump_33 : decode cX14_isJump 33 = .ok (.ireturn, 1) := by decide +kernel
theorem dX14_isLoad_0 : decode cX14_isLoad 0 = .ok (.iload_n 0, 1) := by decide +kernel
theorem dX14_isLoad_1 : decode cX14_isLoad 1 = .ok (.bipush 21, 2) := by decide +kernel
theorem dX14_isLoad_3 : decode cX14_isLoad 3 = .ok (.if_icmp .eq 15, 3) := by decide +kernel
theorem dX14_isLoad_6 : decode cX14_isLoad 6 = .ok (.iload_n 0, 1) := by decide +kernel
theorem dX14_isLoad_7 : decode cX14_isLoad 7 = .ok (.bipush 22, 2) := by decide +kernel
theorem dX14_isLoad_9 : decode cX14_isLoad 9 = .ok (.if_icmp .eq 9, 3) := by decide +kernel
theorem dX14_isLoad_12 : decode cX14_isLoad 12 = .ok (.iload_n 0, 1) := by decide +kernel
theorem dX14_isLoad_13 : decode cX14_isLoad 13 = .ok (.bipush 25, 2) := by decide +kernel
theorem dX14_isLoad_15 : decode cX14_isLoad 15 = .ok (.if_icmp .ne 7, 3) := by decide +kernel
theorem dX14_isLoad_18 : decode cX14_isLoad 18 = .ok (.iconst 1, 1) := by decide +kernel
theorem dX14_isLoad_19 : decode cX14_isLoad 19 = .ok (.goto 4, 3) := by decide +kernel
theorem dX14_isLoad_22 : decode cX14_isLoad 22 = .ok (.iconst 0, 1) := by decide +kernel
theorem dX14_isLoad_23 : decode cX14_isLoad 23 = .ok (.ireturn, 1) := by decide +kernel
theorem dX14_isMethod_0 : decode cX14_isMethod 0 = .ok (.aload_n 0, 1) := by decide +kernel
theorem dX14_isMethod_1 : decode cX14_isMethod 1 = .ok (.iload_n 1, 1) := by decide +kernel
theorem dX14_isMethod_2 : decode cX14_isMethod 2 = .ok (.invokevirtual 658, 3) := by decide +kernel
theorem dX14_isMethod_5 : decode cX14_isMethod 5 = .ok (.ifnull 24, 3) := by decide +kernel
theorem dX14_isMethod_8 : decode cX14_isMethod 8 = .ok (.iload_n 2, 1) := by decide +kernel
theorem dX14_isMethod_9 : decode cX14_isMethod 9 = .ok (.ifCond .lt 20, 3) := by decide +kernel
theorem dX14_isMethod_12 : decode cX14_isMethod 12 = .ok (.iload_n 2, 1) := by decide +kernel
theorem dX14_isMethod_13 : decode cX14_isMethod 13 = .ok (.aload_n 0, 1) := by decide +kernel
theorem dX14_isMethod_14 : decode cX14_isMethod 14 = .ok (.getfield 11, 3) := by decide +kernel
theorem dX14_isMethod_17 : decode cX14_isMethod 17 = .ok (.iload_n 1, 1) := by decide +kernel
theorem dX14_isMethod_18 : decode cX14_isMethod 18 = .ok (.aaload, 1) := by decide +kernel
theorem dX14_isMethod_19 : decode cX14_isMethod 19 = .ok (.getfield 597, 3) := by decide +kernel
theorem dX14_isMethod_22 : decode cX14_isMethod 22 = .ok (.if_icmp .ge 7, 3) := by decide +kernel
theorem dX14_isMethod_25 : decode cX14_isMethod 25 = .ok (.iconst 1, 1) := by decide +kernel
theorem dX14_isMethod_26 : decode cX14_isMethod 26 = .ok (.goto 4, 3) := by decide +kernel
theorem dX14_isMethod_29 : decode cX14_isMethod 29 = .ok (.iconst 0, 1) := by decide +kernel
theorem dX14_isMethod_30 : decode cX14_isMethod 30 = .ok (.ireturn, 1) := by decide +kernel
theorem dX14_isMovable_0 : decode cX14_isMovable 0 = .ok (.iload_n 1, 1) := by decide +kernel
theorem dX14_isMovable_1 : decode cX14_isMovable 1 = .ok (.bipush 88, 2) := by decide +kernel
theorem dX14_isMovable_3 : decode cX14_isMovable 3 = .ok (.if_icmp .eq 9, 3) := by decide +kernel
theorem dX14_isMovable_6 : decode cX14_isMovable 6 = .ok (.iload_n 1, 1) := by decide +kernel
theorem dX14_isMovable_7 : decode cX14_isMovable 7 = .ok (.bipush 92, 2) := by decide +kernel
theorem dX14_isMovable_9 : decode cX14_isMovable 9 = .ok (.if_icmp .ne 25, 3) := by decide +kernel
theorem dX14_isMovable_12 : decode cX14_isMovable 12 = .ok (.aload_n 0, 1) := by decide +kernel
theorem dX14_isMovable_13 : decode cX14_isMovable 13 = .ok (.iconst 1, 1) := by decide +kernel
theorem dX14_isMovable_14 : decode cX14_isMovable 14 = .ok (.invokevirtual 1043, 3) := by decide +kernel
theorem dX14_isMovable_17 : decode cX14_isMovable 17 = .ok (.iconst 3, 1) := by decide +kernel
theorem dX14_isMovable_18 : decode cX14_isMovable 18 = .ok (.if_icmp .ne 16, 3) := by decide +kernel
theorem dX14_isMovable_21 : decode cX14_isMovable 21 = .ok (.aload_n 0, 1) := by decide +kernel
theorem dX14_isMovable_22 : decode cX14_isMovable 22 = .ok (.iconst 2, 1) := by decide +kernel
theorem dX14_isMovable_23 : decode cX14_isMovable 23 = .ok (.invokevirtual 1043, 3) := by decide +kernel
theorem dX14_isMovable_26 : decode cX14_isMovable 26 = .ok (.iconst 2, 1) := by decide +kernel
theorem dX14_isMovable_27 : decode cX14_isMovable 27 = .ok (.if_icmp .ne 7, 3) := by decide +kernel
theorem dX14_isMovable_30 : decode cX14_isMovable 30 = .ok (.iconst 1, 1) := by decide +kernel
theorem dX14_isMovable_31 : decode cX14_isMovable 31 = .ok (.goto 4, 3) := by decide +kernel
theorem dX14_isMovable_34 : decode cX14_isMovable 34 = .ok (.iconst 0, 1) := by decide +kernel
theorem dX14_isMovable_35 : decode cX14_isMovable 35 = .ok (.istore_n 2, 1) := by decide +kernel
theorem dX14_isMovable_36 : decode cX14_isMovable 36 = .ok (.iload_n 2, 1) := by decide +kernel
theorem dX14_isMovable_37 : decode cX14_isMovable 37 = .ok (.ifCond .ne 33, 3) := by decide +kernel
theorem dX14_isMovable_40 : decode cX14_isMovable 40 = .ok (.aload_n 0, 1) := by decide +kernel
theorem dX14_isMovable_41 : decode cX14_isMovable 41 = .ok (.iconst 1, 1) := by decide +kernel
theorem dX14_isMovable_42 : decode cX14_isMovable 42 = .ok (.invokevirtual 1043, 3) := by decide +kernel
theorem dX14_isMovable_45 : decode cX14_isMovable 45 = .ok (.invokestatic 817, 3) := by decide +kernel
theorem dX14_isMovable_48 : decode cX14_isMovable 48 = .ok (.ifCond .eq 26, 3) := by decide +kernel
theorem dX14_isMovable_51 : decode cX14_isMovable 51 = .ok (.iload_n 1, 1) := by decide +kernel
theorem dX14_isMovable_52 : decode cX14_isMovable 52 = .ok (.invokestatic 725, 3) := by decide +kernel
theorem dX14_isMovable_55 : decode cX14_isMovable 55 = .ok (.iconst 1, 1) := by decide +kernel
theorem dX14_isMovable_56 : decode cX14_isMovable 56 = .ok (.if_icmp .eq 14, 3) := by decide +kernel
theorem dX14_isMovable_59 : decode cX14_isMovable 59 = .ok (.aload_n 0, 1) := by decide +kernel
theorem dX14_isMovable_60 : decode cX14_isMovable 60 = .ok (.iconst 2, 1) := by decide +kernel
theorem dX14_isMovable_61 : decode cX14_isMovable 61 = .ok (.invokevirtual 1043, 3) := by decide +kernel
theorem dX14_isMovable_64 : decode cX14_isMovable 64 = .ok (.invokestatic 817, 3) := by decide +kernel
theorem dX14_isMovable_67 : decode cX14_isMovable 67 = .ok (.ifCond .eq 7, 3) := by decide +kernel
theorem dX14_isMovable_70 : decode cX14_isMovable 70 = .ok (.iconst 1, 1) := by decide +kernel
theorem dX14_isMovable_71 : decode cX14_isMovable 71 = .ok (.goto 4, 3) := by decide +kernel
theorem dX14_isMovable_74 : decode cX14_isMovable 74 = .ok (.iconst 0, 1) := by decide +kernel
theorem dX14_isMovable_75 : decode cX14_isMovable 75 = .ok (.ireturn, 1) := by decide +kernel
theorem dX14_isOne_0 : decode cX14_isOne 0 = .ok (.iload_n 0, 1) := by decide +kernel
theorem dX14_isOne_1 : decode cX14_isOne 1 = .ok (.iconst 1, 1) := by decide +kernel
theorem dX14_isOne_2 : decode cX14_isOne 2 = .ok (.if_icmp .eq 10, 3) := by decide +kernel
theorem dX14_isOne_5 : decode cX14_isOne 5 = .ok (.iload_n 0, 1) := by decide +kernel
theorem dX14_isOne_6 : decode cX14_isOne 6 = .ok (.invokestatic 777, 3) := by decide +kernel
theorem dX14_isOne_9 : decode cX14_isOne 9 = .ok (.ifCond .eq 7, 3) := by decide +kernel
theorem dX14_isOne_12 : decode cX14_isOne 12 = .ok (.iconst 1, 1) := by decide +kernel
theorem dX14_isOne_13 : decode cX14_isOne 13 = .ok (.goto 4, 3) := by decide +kernel
theorem dX14_isOne_16 : decode cX14_isOne 16 = .ok (.iconst 0, 1) := by decide +kernel
theorem dX14_isOne_17 : decode cX14_isOne 17 = .ok (.ireturn, 1) := by decide +kernel
theorem dX14_isOperator_0 : decode cX14_isOperator 0 = .ok (.iload_n 0, 1) := by decide +kernel
theorem dX14_isOperator_1 : decode cX14_isOperator 1 = .ok (.bipush 96, 2) := by decide +kernel
theorem dX14_isOperator_3 : decode cX14_isOperator 3 = .ok (.if_icmp .lt 9, 3) := by decide +kernel
theorem dX14_isOperator_6 : decode cX14_isOperator 6 = .ok (.iload_n 0, 1) := by decide +kernel
theorem dX14_isOperator_7 : decode cX14_isOperator 7 = .ok (.bipush 115, 2) := by decide +kernel
theorem dX14_isOperator_9 : decode cX14_isOperator 9 = .ok (.if_icmp .le 23, 3) := by decide +kernel
theorem dX14_isOperator_12 : decode cX14_isOperator 12 = .ok (.iload_n 0, 1) := by decide +kernel
theorem dX14_isOperator_13 : decode cX14_isOperator 13 = .ok (.bipush 120, 2) := by decide +kernel
theorem dX14_isOperator_15 : decode cX14_isOperator 15 = .ok (.if_icmp .lt 10, 3) := by decide +kernel
theorem dX14_isOperator_18 : decode cX14_isOperator 18 = .ok (.iload_n 0, 1) := by decide +kernel
theorem dX14_isOperator_19 : decode cX14_isOperator 19 = .ok (.sipush 131, 3) := by decide +kernel
theorem dX14_isOperator_22 : decode cX14_isOperator 22 = .ok (.if_icmp .le 10, 3) := by decide +kernel
theorem dX14_isOperator_25 : decode cX14_isOperator 25 = .ok (.iload_n 0, 1) := by decide +kernel
theorem dX14_isOperator_26 : decode cX14_isOperator 26 = .ok (.sipush 148, 3) := by decide +kernel
theorem dX14_isOperator_29 : decode cX14_isOperator 29 = .ok (.if_icmp .ne 7, 3) := by decide +kernel
theorem dX14_isOperator_32 : decode cX14_isOperator 32 = .ok (.iconst 1, 1) := by decide +kernel
theorem dX14_isOperator_33 : decode cX14_isOperator 33 = .ok (.goto 4, 3) := by decide +kernel
theorem dX14_isOperator_36 : decode cX14_isOperator 36 = .ok (.iconst 0, 1) := by decide +kernel
theorem dX14_isOperator_37 : decode cX14_isOperator 37 = .ok (.ireturn, 1) := by decide +kernel
theorem dX14_isPush_0 : decode cX14_isPush 0 = .ok (.iload_n 0, 1) := by decide +kernel
theorem dX14_isPush_1 : decode cX14_isPush 1 = .ok (.bipush 18, 2) := by decide +kernel
theorem dX14_isPush_3 : decode cX14_isPush 3 = .ok (.if_icmp .eq 9, 3) := by decide +kernel
theorem dX14_isPush_6 : decode cX14_isPush 6 = .ok (.iload_n 0, 1) := by decide +kernel
theorem dX14_isPush_7 : decode cX14_isPush 7 = .ok (.bipush 20, 2) := by decide +kernel
theorem dX14_isPush_9 : decode cX14_isPush 9 = .ok (.if_icmp .ne 7, 3) := by decide +kernel
theorem dX14_isPush_12 : decode cX14_isPush 12 = .ok (.iconst 1, 1) := by decide +kernel
theorem dX14_isPush_13 : decode cX14_isPush 13 = .ok (.goto 4, 3) := by decide +kernel
theorem dX14_isPush_16 : decode cX14_isPush 16 = .ok (.iconst 0, 1) := by decide +kernel
theorem dX14_isPush_17 : decode cX14_isPush 17 = .ok (.ireturn, 1) := by decide +kernel
theorem dX14_isRight_0 : decode cX14_isRight 0 = .ok (.aload_n 0, 1) := by decide +kernel
theorem dX14_isRight_1 : decode cX14_isRight 1 = .ok (.iload_n 1, 1) := by decide +kernel
theorem dX14_isRight_2 : decode cX14_isRight 2 = .ok (.invokevirtual 658, 3) := by decide +kernel
theorem dX14_isRight_5 : decode cX14_isRight 5 = .ok (.ifnull 20, 3) := by decide +kernel
theorem dX14_isRight_8 : decode cX14_isRight 8 = .ok (.aload_n 0, 1) := by decide +kernel
theorem dX14_isRight_9 : decode cX14_isRight 9 = .ok (.getfield 11, 3) := by decide +kernel
theorem dX14_isRight_12 : decode cX14_isRight 12 = .ok (.iload_n 1, 1) := by decide +kernel
theorem dX14_isRight_13 : decode cX14_isRight 13 = .ok (.aaload, 1) := by decide +kernel
theorem dX14_isRight_14 : decode cX14_isRight 14 = .ok (.getfield 847, 3) := by decide +kernel
theorem dX14_isRight_17 : decode cX14_isRight 17 = .ok (.iconst 1, 1) := by decide +kernel
theorem dX14_isRight_18 : decode cX14_isRight 18 = .ok (.if_icmp .ne 7, 3) := by decide +kernel
theorem dX14_isRight_21 : decode cX14_isRight 21 = .ok (.iconst 1, 1) := by decide +kernel
theorem dX14_isRight_22 : decode cX14_isRight 22 = .ok (.goto 4, 3) := by decide +kernel
theorem dX14_isRight_25 : decode cX14_isRight 25 = .ok (.iconst 0, 1) := by decide +kernel
theorem dX14_isRight_26 : decode cX14_isRight 26 = .ok (.ireturn, 1) := by decide +kernel
theorem dX14_isRightHeight_0 : decode cX14_isRightHeight 0 = .ok (.aload_n 0, 1) := by decide +kernel
theorem dX14_isRightHeight_1 : decode cX14_isRightHeight 1 = .ok (.iload_n 1, 1) := by decide +kernel
theorem dX14_isRightHeight_2 : decode cX14_isRightHeight 2 = .ok (.iload_n 2, 1) := by decide +kernel
theorem dX14_isRightHeight_3 : decode cX14_isRightHeight 3 = .ok (.invokevirtual 747, 3) := by decide +kernel
theorem dX14_isRightHeight_6 : decode cX14_isRightHeight 6 = .ok (.istore_n 3, 1) := by decide +kernel
theorem dX14_isRightHeight_7 : decode cX14_isRightHeight 7 = .ok (.iload_n 3, 1) := by decide +kernel
theorem dX14_isRightHeight_8 : decode cX14_isRightHeight 8 = .ok (.ifCond .lt 51, 3) := by decide +kernel
theorem dX14_isRightHeight_11 : decode cX14_isRightHeight 11 = .ok (.iload_n 3, 1) := by decide +kernel
theorem dX14_isRightHeight_12 : decode cX14_isRightHeight 12 = .ok (.aload_n 0, 1) := by decide +kernel
theorem dX14_isRightHeight_13 : decode cX14_isRightHeight 13 = .ok (.getfield 750, 3) := by decide +kernel
theorem dX14_isRightHeight_16 : decode cX14_isRightHeight 16 = .ok (.if_icmp .gt 43, 3) := by decide +kernel
theorem dX14_isRightHeight_19 : decode cX14_isRightHeight 19 = .ok (.aload_n 0, 1) := by decide +kernel
theorem dX14_isRightHeight_20 : decode cX14_isRightHeight 20 = .ok (.getfield 750, 3) := by decide +kernel
theorem dX14_isRightHeight_23 : decode cX14_isRightHeight 23 = .ok (.ifCond .gt 11, 3) := by decide +kernel
theorem dX14_isRightHeight_26 : decode cX14_isRightHeight 26 = .ok (.aload_n 0, 1) := by decide +kernel
theorem dX14_isRightHeight_27 : decode cX14_isRightHeight 27 = .ok (.iload_n 1, 1) := by decide +kernel
theorem dX14_isRightHeight_28 : decode cX14_isRightHeight 28 = .ok (.invokevirtual 753, 3) := by decide +kernel
theorem dX14_isRightHeight_31 : decode cX14_isRightHeight 31 = .ok (.ifCond .ne 28, 3) := by decide +kernel
theorem dX14_isRightHeight_34 : decode cX14_isRightHeight 34 = .ok (.aload_n 0, 1) := by decide +kernel
theorem dX14_isRightHeight_35 : decode cX14_isRightHeight 35 = .ok (.iload_n 1, 1) := by decide +kernel
theorem dX14_isRightHeight_36 : decode cX14_isRightHeight 36 = .ok (.invokevirtual 685, 3) := by decide +kernel
theorem dX14_isRightHeight_39 : decode cX14_isRightHeight 39 = .ok (.invokestatic 756, 3) := by decide +kernel
theorem dX14_isRightHeight_42 : decode cX14_isRightHeight 42 = .ok (.ifCond .eq 13, 3) := by decide +kernel
theorem dX14_isRightHeight_45 : decode cX14_isRightHeight 45 = .ok (.iload_n 1, 1) := by decide +kernel
theorem dX14_isRightHeight_46 : decode cX14_isRightHeight 46 = .ok (.aload_n 0, 1) := by decide +kernel
theorem dX14_isRightHeight_47 : decode cX14_isRightHeight 47 = .ok (.getfield 673, 3) := by decide +kernel
theorem dX14_isRightHeight_50 : decode cX14_isRightHeight 50 = .ok (.iconst 1, 1) := by decide +kernel
theorem dX14_isRightHeight_51 : decode cX14_isRightHeight 51 = .ok (.isub, 1) := by decide +kernel
theorem dX14_isRightHeight_52 : decode cX14_isRightHeight 52 = .ok (.if_icmp .eq 7, 3) := by decide +kernel
theorem dX14_isRightHeight_55 : decode cX14_isRightHeight 55 = .ok (.iconst 1, 1) := by decide +kernel
theorem dX14_isRightHeight_56 : decode cX14_isRightHeight 56 = .ok (.goto 4, 3) := by decide +kernel
theorem dX14_isRightHeight_59 : decode cX14_isRightHeight 59 = .ok (.iconst 0, 1) := by decide +kernel
theorem dX14_isRightHeight_60 : decode cX14_isRightHeight 60 = .ok (.ireturn, 1) := by decide +kernel
theorem dX14_isSame_0 : decode cX14_isSame 0 = .ok (.aload_n 0, 1) := by decide +kernel
theorem dX14_isSame_1 : decode cX14_isSame 1 = .ok (.getfield 40, 3) := by decide +kernel
theorem dX14_isSame_4 : decode cX14_isSame 4 = .ok (.iload_n 1, 1) := by decide +kernel
theorem dX14_isSame_5 : decode cX14_isSame 5 = .ok (.iaload, 1) := by decide +kernel
theorem dX14_isSame_6 : decode cX14_isSame 6 = .ok (.aload_n 0, 1) := by decide +kernel
theorem dX14_isSame_7 : decode cX14_isSame 7 = .ok (.getfield 40, 3) := by decide +kernel
theorem dX14_isSame_10 : decode cX14_isSame 10 = .ok (.iload_n 2, 1) := by decide +kernel
theorem dX14_isSame_11 : decode cX14_isSame 11 = .ok (.iaload, 1) := by decide +kernel
theorem dX14_isSame_12 : decode cX14_isSame 12 = .ok (.if_icmp .eq 5, 3) := by decide +kernel
theorem dX14_isSame_15 : decode cX14_isSame 15 = .ok (.iconst 0, 1) := by decide +kernel
theorem dX14_isSame_16 : decode cX14_isSame 16 = .ok (.ireturn, 1) := by decide +kernel
theorem dX14_isSame_17 : decode cX14_isSame 17 = .ok (.iconst 0, 1) := by decide +kernel
theorem dX14_isSame_18 : decode cX14_isSame 18 = .ok (.istore_n 3, 1) := by decide +kernel
theorem dX14_isSame_19 : decode cX14_isSame 19 = .ok (.iload_n 3, 1) := by decide +kernel
theorem dX14_isSame_20 : decode cX14_isSame 20 = .ok (.aload_n 0, 1) := by decide +kernel
theorem dX14_isSame_21 : decode cX14_isSame 21 = .ok (.getfield 40, 3) := by decide +kernel
theorem dX14_isSame_24 : decode cX14_isSame 24 = .ok (.iload_n 1, 1) := by decide +kernel
theorem dX14_isSame_25 : decode cX14_isSame 25 = .ok (.iaload, 1) := by decide +kernel
theorem dX14_isSame_26 : decode cX14_isSame 26 = .ok (.if_icmp .ge 26, 3) := by decide +kernel
theorem dX14_isSame_29 : decode cX14_isSame 29 = .ok (.aload_n 0, 1) := by decide +kernel
theorem dX14_isSame_30 : decode cX14_isSame 30 = .ok (.iload_n 1, 1) := by decide +kernel
theorem dX14_isSame_31 : decode cX14_isSame 31 = .ok (.iload_n 3, 1) := by decide +kernel
theorem dX14_isSame_32 : decode cX14_isSame 32 = .ok (.invokevirtual 387, 3) := by decide +kernel
theorem dX14_isSame_35 : decode cX14_isSame 35 = .ok (.aload_n 0, 1) := by decide +kernel
theorem dX14_isSame_36 : decode cX14_isSame 36 = .ok (.iload_n 2, 1) := by decide +kernel
theorem dX14_isSame_37 : decode cX14_isSame 37 = .ok (.iload_n 3, 1) := by decide +kernel
theorem dX14_isSame_38 : decode cX14_isSame 38 = .ok (.invokevirtual 387, 3) := by decide +kernel
theorem dX14_isSame_41 : decode cX14_isSame 41 = .ok (.if_icmp .eq 5, 3) := by decide +kernel
theorem dX14_isSame_44 : decode cX14_isSame 44 = .ok (.iconst 0, 1) := by decide +kernel
theorem dX14_isSame_45 : decode cX14_isSame 45 = .ok (.ireturn, 1) := by decide +kernel
theorem dX14_isSame_46 : decode cX14_isSame 46 = .ok (.iinc 3 1, 3) := by decide +kernel
theorem dX14_isSame_49 : decode cX14_isSame 49 = .ok (.goto (-30), 3) := by decide +kernel
theorem dX14_isSame_52 : decode cX14_isSame 52 = .ok (.iconst 1, 1) := by decide +kernel
theorem dX14_isSame_53 : decode cX14_isSame 53 = .ok (.ireturn, 1) := by decide +kernel
theorem dX14_isShort_0 : decode cX14_isShort 0 = .ok (.iload_n 0, 1) := by decide +kernel
theorem dX14_isShort_1 : decode cX14_isShort 1 = .ok (.sipush (-32768), 3) := by decide +kernel
theorem dX14_isShort_4 : decode cX14_isShort 4 = .ok (.if_icmp .lt 14, 3) := by decide +kernel
theorem dX14_isShort_7 : decode cX14_isShort 7 = .ok (.iload_n 0, 1) := by decide +kernel
theorem dX14_isShort_8 : decode cX14_isShort 8 = .ok (.sipush 32767, 3) := by decide +kernel
theorem dX14_isShort_11 : decode cX14_isShort 11 = .ok (.if_icmp .gt 7, 3) := by decide +kernel
theorem dX14_isShort_14 : decode cX14_isShort 14 = .ok (.iconst 1, 1) := by decide +kernel
theorem dX14_isShort_15 : decode cX14_isShort 15 = .ok (.goto 4, 3) := by decide +kernel
theorem dX14_isShort_18 : decode cX14_isShort 18 = .ok (.iconst 0, 1) := by decide +kernel
theorem dX14_isShort_19 : decode cX14_isShort 19 = .ok (.ireturn, 1) := by decide +kernel
theorem dX14_isSo_0 : decode cX14_isSo 0 = .ok (.iload_n 0, 1) := by decide +kernel
theorem dX14_isSo_1 : decode cX14_isSo 1 = .ok (.iconst 2, 1) := by decide +kernel
theorem dX14_isSo_2 : decode cX14_isSo 2 = .ok (.if_icmp .ge 31, 3) := by decide +kernel
theorem dX14_isSo_5 : decode cX14_isSo 5 = .ok (.iload_n 1, 1) := by decide +kernel
theorem dX14_isSo_6 : decode cX14_isSo 6 = .ok (.iload_n 2, 1) := by decide +kernel
theorem dX14_isSo_7 : decode cX14_isSo 7 = .ok (.if_icmp .ne 7, 3) := by decide +kernel
theorem dX14_isSo_10 : decode cX14_isSo 10 = .ok (.iconst 1, 1) := by decide +kernel
theorem dX14_isSo_11 : decode cX14_isSo 11 = .ok (.goto 4, 3) := by decide +kernel
theorem dX14_isSo_14 : decode cX14_isSo 14 = .ok (.iconst 0, 1) := by decide +kernel
theorem dX14_isSo_15 : decode cX14_isSo 15 = .ok (.iload_n 0, 1) := by decide +kernel
theorem dX14_isSo_16 : decode cX14_isSo 16 = .ok (.ifCond .ne 7, 3) := by decide +kernel
theorem dX14_isSo_19 : decode cX14_isSo 19 = .ok (.iconst 1, 1) := by decide +kernel
theorem dX14_isSo_20 : decode cX14_isSo 20 = .ok (.goto 4, 3) := by decide +kernel
theorem dX14_isSo_23 : decode cX14_isSo 23 = .ok (.iconst 0, 1) := by decide +kernel
theorem dX14_isSo_24 : decode cX14_isSo 24 = .ok (.if_icmp .ne 7, 3) := by decide +kernel
theorem dX14_isSo_27 : decode cX14_isSo 27 = .ok (.iconst 1, 1) := by decide +kernel
theorem dX14_isSo_28 : decode cX14_isSo 28 = .ok (.goto 4, 3) := by decide +kernel
theorem dX14_isSo_31 : decode cX14_isSo 31 = .ok (.iconst 0, 1) := by decide +kernel
theorem dX14_isSo_32 : decode cX14_isSo 32 = .ok (.ireturn, 1) := by decide +kernel
theorem dX14_isSo_33 : decode cX14_isSo 33 = .ok (.iload_n 0, 1) := by decide +kernel
theorem dX14_isSo_34 : decode cX14_isSo 34 = .ok (.iconst 4, 1) := by decide +kernel
theorem dX14_isSo_35 : decode cX14_isSo 35 = .ok (.if_icmp .ge 32, 3) := by decide +kernel
theorem dX14_isSo_38 : decode cX14_isSo 38 = .ok (.iload_n 1, 1) := by decide +kernel
theorem dX14_isSo_39 : decode cX14_isSo 39 = .ok (.iload_n 2, 1) := by decide +kernel
theorem dX14_isSo_40 : decode cX14_isSo 40 = .ok (.if_icmp .ge 7, 3) := by decide +kernel
theorem dX14_isSo_43 : decode cX14_isSo 43 = .ok (.iconst 1, 1) := by decide +kernel
theorem dX14_isSo_44 : decode cX14_isSo 44 = .ok (.goto 4, 3) := by decide +kernel
theorem dX14_isSo_47 : decode cX14_isSo 47 = .ok (.iconst 0, 1) := by decide +kernel
theorem dX14_isSo_48 : decode cX14_isSo 48 = .ok (.iload_n 0, 1) := by decide +kernel
theorem dX14_isSo_49 : decode cX14_isSo 49 = .ok (.iconst 2, 1) := by decide +kernel
theorem dX14_isSo_50 : decode cX14_isSo 50 = .ok (.if_icmp .ne 7, 3) := by decide +kernel
theorem dX14_isSo_53 : decode cX14_isSo 53 = .ok (.iconst 1, 1) := by decide +kernel
theorem dX14_isSo_54 : decode cX14_isSo 54 = .ok (.goto 4, 3) := by decide +kernel
theorem dX14_isSo_57 : decode cX14_isSo 57 = .ok (.iconst 0, 1) := by decide +kernel
theorem dX14_isSo_58 : decode cX14_isSo 58 = .ok (.if_icmp .ne 7, 3) := by decide +kernel
theorem dX14_isSo_61 : decode cX14_isSo 61 = .ok (.iconst 1, 1) := by decide +kernel
theorem dX14_isSo_62 : decode cX14_isSo 62 = .ok (.goto 4, 3) := by decide +kernel
theorem dX14_isSo_65 : decode cX14_isSo 65 = .ok (.iconst 0, 1) := by decide +kernel
theorem dX14_isSo_66 : decode cX14_isSo 66 = .ok (.ireturn, 1) := by decide +kernel
theorem dX14_isSo_67 : decode cX14_isSo 67 = .ok (.iload_n 1, 1) := by decide +kernel
theorem dX14_isSo_68 : decode cX14_isSo 68 = .ok (.iload_n 2, 1) := by decide +kernel
theorem dX14_isSo_69 : decode cX14_isSo 69 = .ok (.if_icmp .le 7, 3) := by decide +kernel
theorem dX14_isSo_72 : decode cX14_isSo 72 = .ok (.iconst 1, 1) := by decide +kernel
theorem dX14_isSo_73 : decode cX14_isSo 73 = .ok (.goto 4, 3) := by decide +kernel
theorem dX14_isSo_76 : decode cX14_isSo 76 = .ok (.iconst 0, 1) := by decide +kernel
theorem dX14_isSo_77 : decode cX14_isSo 77 = .ok (.iload_n 0, 1) := by decide +kernel
theorem dX14_isSo_78 : decode cX14_isSo 78 = .ok (.iconst 4, 1) := by decide +kernel
theorem dX14_isSo_79 : decode cX14_isSo 79 = .ok (.if_icmp .ne 7, 3) := by decide +kernel
theorem dX14_isSo_82 : decode cX14_isSo 82 = .ok (.iconst 1, 1) := by decide +kernel
theorem dX14_isSo_83 : decode cX14_isSo 83 = .ok (.goto 4, 3) := by decide +kernel
theorem dX14_isSo_86 : decode cX14_isSo 86 = .ok (.iconst 0, 1) := by decide +kernel
theorem dX14_isSo_87 : decode cX14_isSo 87 = .ok (.if_icmp .ne 7, 3) := by decide +kernel
theorem dX14_isSo_90 : decode cX14_isSo 90 = .ok (.iconst 1, 1) := by decide +kernel
theorem dX14_isSo_91 : decode cX14_isSo 91 = .ok (.goto 4, 3) := by decide +kernel
theorem dX14_isSo_94 : decode cX14_isSo 94 = .ok (.iconst 0, 1) := by decide +kernel
theorem dX14_isSo_95 : decode cX14_isSo 95 = .ok (.ireturn, 1) := by decide +kernel
theorem dX14_isStart_0 : decode cX14_isStart 0 = .ok (.iload_n 1, 1) := by decide +kernel
theorem dX14_isStart_1 : decode cX14_isStart 1 = .ok (.ifCond .lt 24, 3) := by decide +kernel
theorem dX14_isStart_4 : decode cX14_isStart 4 = .ok (.iload_n 1, 1) := by decide +kernel
theorem dX14_isStart_5 : decode cX14_isStart 5 = .ok (.aload_n 0, 1) := by decide +kernel
theorem dX14_isStart_6 : decode cX14_isStart 6 = .ok (.getfield 436, 3) := by decide +kernel
theorem dX14_isStart_9 : decode cX14_isStart 9 = .ok (.if_icmp .ge 16, 3) := by decide +kernel
theorem dX14_isStart_12 : decode cX14_isStart 12 = .ok (.aload_n 0, 1) := by decide +kernel
theorem dX14_isStart_13 : decode cX14_isStart 13 = .ok (.getfield 74, 3) := by decide +kernel
theorem dX14_isStart_16 : decode cX14_isStart 16 = .ok (.iload_n 1, 1) := by decide +kernel
theorem dX14_isStart_17 : decode cX14_isStart 17 = .ok (.iaload, 1) := by decide +kernel
theorem dX14_isStart_18 : decode cX14_isStart 18 = .ok (.ifCond .lt 7, 3) := by decide +kernel
theorem dX14_isStart_21 : decode cX14_isStart 21 = .ok (.iconst 1, 1) := by decide +kernel
theorem dX14_isStart_22 : decode cX14_isStart 22 = .ok (.goto 4, 3) := by decide +kernel
theorem dX14_isStart_25 : decode cX14_isStart 25 = .ok (.iconst 0, 1) := by decide +kernel
theorem dX14_isStart_26 : decode cX14_isStart 26 = .ok (.ireturn, 1) := by decide +kernel
theorem dX14_isStore_0 : decode cX14_isStore 0 = .ok (.iload_n 0, 1) := by decide +kernel
theorem dX14_isStore_1 : decode cX14_isStore 1 = .ok (.bipush 54, 2) := by decide +kernel
theorem dX14_isStore_3 : decode cX14_isStore 3 = .ok (.if_icmp .eq 15, 3) := by decide +kernel
theorem dX14_isStore_6 : decode cX14_isStore 6 = .ok (.iload_n 0, 1) := by decide +kernel
theorem dX14_isStore_7 : decode cX14_isStore 7 = .ok (.bipush 55, 2) := by decide +kernel
theorem dX14_isStore_9 : decode cX14_isStore 9 = .ok (.if_icmp .eq 9, 3) := by decide +kernel
theorem dX14_isStore_12 : decode cX14_isStore 12 = .ok (.iload_n 0, 1) := by decide +kernel
theorem dX14_isStore_13 : decode cX14_isStore 13 = .ok (.bipush 58, 2) := by decide +kernel
theorem dX14_isStore_15 : decode cX14_isStore 15 = .ok (.if_icmp .ne 7, 3) := by decide +kernel
theorem dX14_isStore_18 : decode cX14_isStore 18 = .ok (.iconst 1, 1) := by decide +kernel
theorem dX14_isStore_19 : decode cX14_isStore 19 = .ok (.goto 4, 3) := by decide +kernel
theorem dX14_isStore_22 : decode cX14_isStore 22 = .ok (.iconst 0, 1) := by decide +kernel
theorem dX14_isStore_23 : decode cX14_isStore 23 = .ok (.ireturn, 1) := by decide +kernel
theorem dX14_isSwitch_0 : decode cX14_isSwitch 0 = .ok (.iload_n 0, 1) := by decide +kernel
theorem dX14_isSwitch_1 : decode cX14_isSwitch 1 = .ok (.sipush 170, 3) := by decide +kernel
theorem dX14_isSwitch_4 : decode cX14_isSwitch 4 = .ok (.if_icmp .eq 10, 3) := by decide +kernel
theorem dX14_isSwitch_7 : decode cX14_isSwitch 7 = .ok (.iload_n 0, 1) := by decide +kernel
theorem dX14_isSwitch_8 : decode cX14_isSwitch 8 = .ok (.sipush 171, 3) := by decide +kernel
theorem dX14_isSwitch_11 : decode cX14_isSwitch 11 = .ok (.if_icmp .ne 7, 3) := by decide +kernel
theorem dX14_isSwitch_14 : decode cX14_isSwitch 14 = .ok (.iconst 1, 1) := by decide +kernel
theorem dX14_isSwitch_15 : decode cX14_isSwitch 15 = .ok (.goto 4, 3) := by decide +kernel
theorem dX14_isSwitch_18 : decode cX14_isSwitch 18 = .ok (.iconst 0, 1) := by decide +kernel
theorem dX14_isSwitch_19 : decode cX14_isSwitch 19 = .ok (.ireturn, 1) := by decide +kernel
theorem dX14_isTaken_0 : decode cX14_isTaken 0 = .ok (.iload_n 0, 1) := by decide +kernel
theorem dX14_isTaken_1 : decode cX14_isTaken 1 = .ok (.bipush 73, 2) := by decide +kernel
theorem dX14_isTaken_3 : decode cX14_isTaken 3 = .ok (.if_icmp .ne 14, 3) := by decide +kernel
theorem dX14_isTaken_6 : decode cX14_isTaken 6 = .ok (.iload_n 1, 1) := by decide +kernel
theorem dX14_isTaken_7 : decode cX14_isTaken 7 = .ok (.iconst 1, 1) := by decide +kernel
theorem dX14_isTaken_8 : decode cX14_isTaken 8 = .ok (.if_icmp .ne 7, 3) := by decide +kernel
theorem dX14_isTaken_11 : decode cX14_isTaken 11 = .ok (.iconst 1, 1) := by decide +kernel
theorem dX14_isTaken_12 : decode cX14_isTaken 12 = .ok (.goto 4, 3) := by decide +kernel
theorem dX14_isTaken_15 : decode cX14_isTaken 15 = .ok (.iconst 0, 1) := by decide +kernel
theorem dX14_isTaken_16 : decode cX14_isTaken 16 = .ok (.ireturn, 1) := by decide +kernel
theorem dX14_isTaken_17 : decode cX14_isTaken 17 = .ok (.iload_n 1, 1) := by decide +kernel
theorem dX14_isTaken_18 : decode cX14_isTaken 18 = .ok (.bipush 6, 2) := by decide +kernel
theorem dX14_isTaken_20 : decode cX14_isTaken 20 = .ok (.if_icmp .eq 25, 3) := by decide +kernel
theorem dX14_isTaken_23 : decode cX14_isTaken 23 = .ok (.iload_n 1, 1) := by decide +kernel
theorem dX14_isTaken_24 : decode cX14_isTaken 24 = .ok (.iconst 4, 1) := by decide +kernel
theorem dX14_isTaken_25 : decode cX14_isTaken 25 = .ok (.if_icmp .ne 9, 3) := by decide +kernel
theorem dX14_isTaken_28 : decode cX14_isTaken 28 = .ok (.iload_n 0, 1) := by decide +kernel
theorem dX14_isTaken_29 : decode cX14_isTaken 29 = .ok (.bipush 69, 2) := by decide +kernel
theorem dX14_isTaken_31 : decode cX14_isTaken 31 = .ok (.if_icmp .ne 14, 3) := by decide +kernel
theorem dX14_isTaken_34 : decode cX14_isTaken 34 = .ok (.iload_n 1, 1) := by decide +kernel
theorem dX14_isTaken_35 : decode cX14_isTaken 35 = .ok (.iconst 5, 1) := by decide +kernel
theorem dX14_isTaken_36 : decode cX14_isTaken 36 = .ok (.if_icmp .ne 13, 3) := by decide +kernel
theorem dX14_isTaken_39 : decode cX14_isTaken 39 = .ok (.iload_n 0, 1) := by decide +kernel
theorem dX14_isTaken_40 : decode cX14_isTaken 40 = .ok (.bipush 65, 2) := by decide +kernel
theorem dX14_isTaken_42 : decode cX14_isTaken 42 = .ok (.if_icmp .eq 7, 3) := by decide +kernel
theorem dX14_isTaken_45 : decode cX14_isTaken 45 = .ok (.iconst 1, 1) := by decide +kernel
theorem dX14_isTaken_46 : decode cX14_isTaken 46 = .ok (.goto 4, 3) := by decide +kernel
theorem dX14_isTaken_49 : decode cX14_isTaken 49 = .ok (.iconst 0, 1) := by decide +kernel
theorem dX14_isTaken_50 : decode cX14_isTaken 50 = .ok (.ireturn, 1) := by decide +kernel
theorem dX14_isText_0 : decode cX14_isText 0 = .ok (.aload_n 0, 1) := by decide +kernel
theorem dX14_isText_1 : decode cX14_isText 1 = .ok (.getfield 40, 3) := by decide +kernel
theorem dX14_isText_4 : decode cX14_isText 4 = .ok (.iload_n 1, 1) := by decide +kernel
theorem dX14_isText_5 : decode cX14_isText 5 = .ok (.iaload, 1) := by decide +kernel
theorem dX14_isText_6 : decode cX14_isText 6 = .ok (.aload_n 2, 1) := by decide +kernel
theorem dX14_isText_7 : decode cX14_isText 7 = .ok (.invokevirtual 404, 3) := by decide +kernel
theorem dX14_isText_10 : decode cX14_isText 10 = .ok (.if_icmp .eq 5, 3) := by decide +kernel
theorem dX14_isText_13 : decode cX14_isText 13 = .ok (.iconst 0, 1) := by decide +kernel
theorem dX14_isText_14 : decode cX14_isText 14 = .ok (.ireturn, 1) := by decide +kernel
theorem dX14_isText_15 : decode cX14_isText 15 = .ok (.iconst 0, 1) := by decide +kernel
theorem dX14_isText_16 : decode cX14_isText 16 = .ok (.istore_n 3, 1) := by decide +kernel
theorem dX14_isText_17 : decode cX14_isText 17 = .ok (.iload_n 3, 1) := by decide +kernel
theorem dX14_isText_18 : decode cX14_isText 18 = .ok (.aload_n 2, 1) := by decide +kernel
theorem dX14_isText_19 : decode cX14_isText 19 = .ok (.invokevirtual 404, 3) := by decide +kernel
theorem dX14_isText_22 : decode cX14_isText 22 = .ok (.if_icmp .ge 25, 3) := by decide +kernel
theorem dX14_isText_25 : decode cX14_isText 25 = .ok (.aload_n 0, 1) := by decide +kernel
theorem dX14_isText_26 : decode cX14_isText 26 = .ok (.iload_n 1, 1) := by decide +kernel
theorem dX14_isText_27 : decode cX14_isText 27 = .ok (.iload_n 3, 1) := by decide +kernel
theorem dX14_isText_28 : decode cX14_isText 28 = .ok (.invokevirtual 387, 3) := by decide +kernel
theorem dX14_isText_31 : decode cX14_isText 31 = .ok (.aload_n 2, 1) := by decide +kernel
theorem dX14_isText_32 : decode cX14_isText 32 = .ok (.iload_n 3, 1) := by decide +kernel
theorem dX14_isText_33 : decode cX14_isText 33 = .ok (.invokevirtual 408, 3) := by decide +kernel
theorem dX14_isText_36 : decode cX14_isText 36 = .ok (.if_icmp .eq 5, 3) := by decide +kernel
theorem dX14_isText_39 : decode cX14_isText 39 = .ok (.iconst 0, 1) := by decide +kernel
theorem dX14_isText_40 : decode cX14_isText 40 = .ok (.ireturn, 1) := by decide +kernel
theorem dX14_isText_41 : decode cX14_isText 41 = .ok (.iinc 3 1, 3) := by decide +kernel
theorem dX14_isText_44 : decode cX14_isText 44 = .ok (.goto (-27), 3) := by decide +kernel
theorem dX14_isText_47 : decode cX14_isText 47 = .ok (.iconst 1, 1) := by decide +kernel
theorem dX14_isText_48 : decode cX14_isText 48 = .ok (.ireturn, 1) := by decide +kernel
theorem dX14_isThing_0 : decode cX14_isThing 0 = .ok (.iload_n 0, 1) := by decide +kernel
theorem dX14_isThing_1 : decode cX14_isThing 1 = .ok (.iconst 4, 1) := by decide +kernel
theorem dX14_isThing_2 : decode cX14_isThing 2 = .ok (.if_icmp .eq 14, 3) := by decide +kernel
theorem dX14_isThing_5 : decode cX14_isThing 5 = .ok (.iload_n 0, 1) := by decide +kernel
theorem dX14_isThing_6 : decode cX14_isThing 6 = .ok (.iconst 5, 1) := by decide +kernel
theorem dX14_isThing_7 : decode cX14_isThing 7 = .ok (.if_icmp .eq 9, 3) := by decide +kernel
theorem dX14_isThing_10 : decode cX14_isThing 10 = .ok (.iload_n 0, 1) := by decide +kernel
theorem dX14_isThing_11 : decode cX14_isThing 11 = .ok (.bipush 6, 2) := by decide +kernel
theorem dX14_isThing_13 : decode cX14_isThing 13 = .ok (.if_icmp .ne 7, 3) := by decide +kernel
theorem dX14_isThing_16 : decode cX14_isThing 16 = .ok (.iconst 1, 1) := by decide +kernel
theorem dX14_isThing_17 : decode cX14_isThing 17 = .ok (.goto 4, 3) := by decide +kernel
theorem dX14_isThing_20 : decode cX14_isThing 20 = .ok (.iconst 0, 1) := by decide +kernel
theorem dX14_isThing_21 : decode cX14_isThing 21 = .ok (.ireturn, 1) := by decide +kernel
theorem dX14_isType_0 : decode cX14_isType 0 = .ok (.aload_n 0, 1) := by decide +kernel
theorem dX14_isType_1 : decode cX14_isType 1 = .ok (.iload_n 1, 1) := by decide +kernel
theorem dX14_isType_2 : decode cX14_isType 2 = .ok (.iconst 0, 1) := by decide +kernel
theorem dX14_isType_3 : decode cX14_isType 3 = .ok (.invokevirtual 391, 3) := by decide +kernel
theorem dX14_isType_6 : decode cX14_isType 6 = .ok (.ifCond .le 22, 3) := by decide +kernel
theorem dX14_isType_9 : decode cX14_isType 9 = .ok (.aload_n 0, 1) := by decide +kernel
theorem dX14_isType_10 : decode cX14_isType 10 = .ok (.iload_n 1, 1) := by decide +kernel
theorem dX14_isType_11 : decode cX14_isType 11 = .ok (.iconst 0, 1) := by decide +kernel
theorem dX14_isType_12 : decode cX14_isType 12 = .ok (.invokevirtual 391, 3) := by decide +kernel
theorem dX14_isType_15 : decode cX14_isType 15 = .ok (.aload_n 0, 1) := by decide +kernel
theorem dX14_isType_16 : decode cX14_isType 16 = .ok (.getfield 40, 3) := by decide +kernel
theorem dX14_isType_19 : decode cX14_isType 19 = .ok (.iload_n 1, 1) := by decide +kernel
theorem dX14_isType_20 : decode cX14_isType 20 = .ok (.iaload, 1) := by decide +kernel
theorem dX14_isType_21 : decode cX14_isType 21 = .ok (.if_icmp .ne 7, 3) := by decide +kernel
theorem dX14_isType_24 : decode cX14_isType 24 = .ok (.iconst 1, 1) := by decide +kernel
theorem dX14_isType_25 : decode cX14_isType 25 = .ok (.goto 4, 3) := by decide +kernel
theorem dX14_isType_28 : decode cX14_isType 28 = .ok (.iconst 0, 1) := by decide +kernel
theorem dX14_isType_29 : decode cX14_isType 29 = .ok (.ireturn, 1) := by decide +kernel
theorem dX14_join_0 : decode cX14_join 0 = .ok (.aload_n 0, 1) := by decide +kernel
theorem dX14_join_1 : decode cX14_join 1 = .ok (.iload_n 1, 1) := by decide +kernel
theorem dX14_join_2 : decode cX14_join 2 = .ok (.invokevirtual 774, 3) := by decide +kernel
theorem dX14_join_5 : decode cX14_join 5 = .ok (.ifCond .ge 36, 3) := by decide +kernel
theorem dX14_join_8 : decode cX14_join 8 = .ok (.aload_n 0, 1) := by decide +kernel
theorem dX14_join_9 : decode cX14_join 9 = .ok (.aload_n 0, 1) := by decide +kernel
theorem dX14_join_10 : decode cX14_join 10 = .ok (.getfield 740, 3) := by decide +kernel
theorem dX14_join_13 : decode cX14_join 13 = .ok (.ifCond .ne 12, 3) := by decide +kernel
theorem dX14_join_16 : decode cX14_join 16 = .ok (.aload_n 0, 1) := by decide +kernel
theorem dX14_join_17 : decode cX14_join 17 = .ok (.getfield 95, 3) := by decide +kernel
theorem dX14_join_20 : decode cX14_join 20 = .ok (.iload_n 1, 1) := by decide +kernel
theorem dX14_join_21 : decode cX14_join 21 = .ok (.baload, 1) := by decide +kernel
theorem dX14_join_22 : decode cX14_join 22 = .ok (.ifCond .ne 7, 3) := by decide +kernel
theorem dX14_join_25 : decode cX14_join 25 = .ok (.iconst 1, 1) := by decide +kernel
theorem dX14_join_26 : decode cX14_join 26 = .ok (.goto 4, 3) := by decide +kernel
theorem dX14_join_29 : decode cX14_join 29 = .ok (.iconst 0, 1) := by decide +kernel
theorem dX14_join_30 : decode cX14_join 30 = .ok (.putfield 740, 3) := by decide +kernel
theorem dX14_join_33 : decode cX14_join 33 = .ok (.aload_n 0, 1) := by decide +kernel
theorem dX14_join_34 : decode cX14_join 34 = .ok (.getfield 95, 3) := by decide +kernel
theorem dX14_join_37 : decode cX14_join 37 = .ok (.iload_n 1, 1) := by decide +kernel
theorem dX14_join_38 : decode cX14_join 38 = .ok (.iconst 1, 1) := by decide +kernel
theorem dX14_join_39 : decode cX14_join 39 = .ok (.bastore, 1) := by decide +kernel
theorem dX14_join_40 : decode cX14_join 40 = .ok (.return_, 1) := by decide +kernel
theorem dX14_join_41 : decode cX14_join 41 = .ok (.aload_n 0, 1) := by decide +kernel
theorem dX14_join_42 : decode cX14_join 42 = .ok (.iload_n 1, 1) := by decide +kernel
theorem dX14_join_43 : decode cX14_join 43 = .ok (.invokevirtual 774, 3) := by decide +kernel
theorem dX14_join_46 : decode cX14_join 46 = .ok (.istore_n 3, 1) := by decide +kernel
theorem dX14_join_47 : decode cX14_join 47 = .ok (.iconst 0, 1) := by decide +kernel
theorem dX14_join_48 : decode cX14_join 48 = .ok (.istore 4, 2) := by decide +kernel
theorem dX14_join_50 : decode cX14_join 50 = .ok (.iload 4, 2) := by decide +kernel
theorem dX14_join_52 : decode cX14_join 52 = .ok (.bipush 24, 2) := by decide +kernel
theorem dX14_join_54 : decode cX14_join 54 = .ok (.iload_n 3, 1) := by decide +kernel
theorem dX14_join_55 : decode cX14_join 55 = .ok (.iadd, 1) := by decide +kernel
theorem dX14_join_56 : decode cX14_join 56 = .ok (.if_icmp .ge 122, 3) := by decide +kernel
theorem dX14_join_59 : decode cX14_join 59 = .ok (.iload 4, 2) := by decide +kernel
theorem dX14_join_61 : decode cX14_join 61 = .ok (.bipush 24, 2) := by decide +kernel
theorem dX14_join_63 : decode cX14_join 63 = .ok (.if_icmp .ge 13, 3) := by decide +kernel
theorem dX14_join_66 : decode cX14_join 66 = .ok (.aload_n 0, 1) := by decide +kernel
theorem dX14_join_67 : decode cX14_join 67 = .ok (.getfield 99, 3) := by decide +kernel
theorem dX14_join_70 : decode cX14_join 70 = .ok (.iload 4, 2) := by decide +kernel
theorem dX14_join_72 : decode cX14_join 72 = .ok (.baload, 1) := by decide +kernel
theorem dX14_join_73 : decode cX14_join 73 = .ok (.goto 21, 3) := by decide +kernel
theorem dX14_join_76 : decode cX14_join 76 = .ok (.iload_n 2, 1) := by decide +kernel
theorem dX14_join_77 : decode cX14_join 77 = .ok (.ifCond .eq 7, 3) := by decide +kernel
theorem dX14_join_80 : decode cX14_join 80 = .ok (.iconst 5, 1) := by decide +kernel
theorem dX14_join_81 : decode cX14_join 81 = .ok (.goto 13, 3) := by decide +kernel
theorem dX14_join_84 : decode cX14_join 84 = .ok (.aload_n 0, 1) := by decide +kernel
theorem dX14_join_85 : decode cX14_join 85 = .ok (.getfield 102, 3) := by decide +kernel
theorem dX14_join_88 : decode cX14_join 88 = .ok (.iload 4, 2) := by decide +kernel
theorem dX14_join_90 : decode cX14_join 90 = .ok (.bipush 24, 2) := by decide +kernel
theorem dX14_join_92 : decode cX14_join 92 = .ok (.isub, 1) := by decide +kernel
theorem dX14_join_93 : decode cX14_join 93 = .ok (.baload, 1) := by decide +kernel
theorem dX14_join_94 : decode cX14_join 94 = .ok (.istore 5, 2) := by decide +kernel
theorem dX14_join_96 : decode cX14_join 96 = .ok (.aload_n 0, 1) := by decide +kernel
theorem dX14_join_97 : decode cX14_join 97 = .ok (.getfield 92, 3) := by decide +kernel
theorem dX14_join_100 : decode cX14_join 100 = .ok (.bipush 48, 2) := by decide +kernel
theorem dX14_join_102 : decode cX14_join 102 = .ok (.iload_n 1, 1) := by decide +kernel
theorem dX14_join_103 : decode cX14_join 103 = .ok (.imul, 1) := by decide +kernel
theorem dX14_join_104 : decode cX14_join 104 = .ok (.iload 4, 2) := by decide +kernel
theorem dX14_join_106 : decode cX14_join 106 = .ok (.iadd, 1) := by decide +kernel
theorem dX14_join_107 : decode cX14_join 107 = .ok (.baload, 1) := by decide +kernel
theorem dX14_join_108 : decode cX14_join 108 = .ok (.istore 6, 2) := by decide +kernel
theorem dX14_join_110 : decode cX14_join 110 = .ok (.aload_n 0, 1) := by decide +kernel
theorem dX14_join_111 : decode cX14_join 111 = .ok (.getfield 95, 3) := by decide +kernel
theorem dX14_join_114 : decode cX14_join 114 = .ok (.iload_n 1, 1) := by decide +kernel
theorem dX14_join_115 : decode cX14_join 115 = .ok (.baload, 1) := by decide +kernel
theorem dX14_join_116 : decode cX14_join 116 = .ok (.ifCond .eq 13, 3) := by decide +kernel
theorem dX14_join_119 : decode cX14_join 119 = .ok (.iload 6, 2) := by decide +kernel
theorem dX14_join_121 : decode cX14_join 121 = .ok (.iload 5, 2) := by decide +kernel
theorem dX14_join_123 : decode cX14_join 123 = .ok (.invokestatic 820, 3) := by decide +kernel
theorem dX14_join_126 : decode cX14_join 126 = .ok (.goto 5, 3) := by decide +kernel
theorem dX14_join_129 : decode cX14_join 129 = .ok (.iload 5, 2) := by decide +kernel
theorem dX14_join_131 : decode cX14_join 131 = .ok (.istore 7, 2) := by decide +kernel
theorem dX14_join_133 : decode cX14_join 133 = .ok (.aload_n 0, 1) := by decide +kernel
theorem dX14_join_134 : decode cX14_join 134 = .ok (.getfield 95, 3) := by decide +kernel
theorem dX14_join_137 : decode cX14_join 137 = .ok (.iload_n 1, 1) := by decide +kernel
theorem dX14_join_138 : decode cX14_join 138 = .ok (.baload, 1) := by decide +kernel
theorem dX14_join_139 : decode cX14_join 139 = .ok (.ifCond .eq 13, 3) := by decide +kernel
theorem dX14_join_142 : decode cX14_join 142 = .ok (.iload 7, 2) := by decide +kernel
theorem dX14_join_144 : decode cX14_join 144 = .ok (.iload 6, 2) := by decide +kernel
theorem dX14_join_146 : decode cX14_join 146 = .ok (.if_icmp .ne 6, 3) := by decide +kernel
theorem dX14_join_149 : decode cX14_join 149 = .ok (.goto 23, 3) := by decide +kernel
theorem dX14_join_152 : decode cX14_join 152 = .ok (.aload_n 0, 1) := by decide +kernel
theorem dX14_join_153 : decode cX14_join 153 = .ok (.getfield 92, 3) := by decide +kernel
theorem dX14_join_156 : decode cX14_join 156 = .ok (.bipush 48, 2) := by decide +kernel
theorem dX14_join_158 : decode cX14_join 158 = .ok (.iload_n 1, 1) := by decide +kernel
theorem dX14_join_159 : decode cX14_join 159 = .ok (.imul, 1) := by decide +kernel
theorem dX14_join_160 : decode cX14_join 160 = .ok (.iload 4, 2) := by decide +kernel
theorem dX14_join_162 : decode cX14_join 162 = .ok (.iadd, 1) := by decide +kernel
theorem dX14_join_163 : decode cX14_join 163 = .ok (.iload 7, 2) := by decide +kernel
theorem dX14_join_165 : decode cX14_join 165 = .ok (.i2b, 1) := by decide +kernel
theorem dX14_join_166 : decode cX14_join 166 = .ok (.bastore, 1) := by decide +kernel
theorem dX14_join_167 : decode cX14_join 167 = .ok (.aload_n 0, 1) := by decide +kernel
theorem dX14_join_168 : decode cX14_join 168 = .ok (.iconst 1, 1) := by decide +kernel
theorem dX14_join_169 : decode cX14_join 169 = .ok (.putfield 740, 3) := by decide +kernel
theorem dX14_join_172 : decode cX14_join 172 = .ok (.iinc 4 1, 3) := by decide +kernel
theorem dX14_join_175 : decode cX14_join 175 = .ok (.goto (-125), 3) := by decide +kernel
theorem dX14_join_178 : decode cX14_join 178 = .ok (.aload_n 0, 1) := by decide +kernel
theorem dX14_join_179 : decode cX14_join 179 = .ok (.aload_n 0, 1) := by decide +kernel
theorem dX14_join_180 : decode cX14_join 180 = .ok (.getfield 740, 3) := by decide +kernel
theorem dX14_join_183 : decode cX14_join 183 = .ok (.ifCond .ne 12, 3) := by decide +kernel
theorem dX14_join_186 : decode cX14_join 186 = .ok (.aload_n 0, 1) := by decide +kernel
theorem dX14_join_187 : decode cX14_join 187 = .ok (.getfield 95, 3) := by decide +kernel
theorem dX14_join_190 : decode cX14_join 190 = .ok (.iload_n 1, 1) := by decide +kernel
theorem dX14_join_191 : decode cX14_join 191 = .ok (.baload, 1) := by decide +kernel
theorem dX14_join_192 : decode cX14_join 192 = .ok (.ifCond .ne 7, 3) := by decide +kernel
theorem dX14_join_195 : decode cX14_join 195 = .ok (.iconst 1, 1) := by decide +kernel
theorem dX14_join_196 : decode cX14_join 196 = .ok (.goto 4, 3) := by decide +kernel
theorem dX14_join_199 : decode cX14_join 199 = .ok (.iconst 0, 1) := by decide +kernel
theorem dX14_join_200 : decode cX14_join 200 = .ok (.putfield 740, 3) := by decide +kernel
theorem dX14_join_203 : decode cX14_join 203 = .ok (.aload_n 0, 1) := by decide +kernel
theorem dX14_join_204 : decode cX14_join 204 = .ok (.getfield 95, 3) := by decide +kernel
theorem dX14_join_207 : decode cX14_join 207 = .ok (.iload_n 1, 1) := by decide +kernel
theorem dX14_join_208 : decode cX14_join 208 = .ok (.iconst 1, 1) := by decide +kernel
theorem dX14_join_209 : decode cX14_join 209 = .ok (.bastore, 1) := by decide +kernel
theorem dX14_join_210 : decode cX14_join 210 = .ok (.return_, 1) := by decide +kernel
theorem dX14_joined_0 : decode cX14_joined 0 = .ok (.iload_n 0, 1) := by decide +kernel
theorem dX14_joined_1 : decode cX14_joined 1 = .ok (.iload_n 1, 1) := by decide +kernel
theorem dX14_joined_2 : decode cX14_joined 2 = .ok (.if_icmp .ne 5, 3) := by decide +kernel
theorem dX14_joined_5 : decode cX14_joined 5 = .ok (.iload_n 0, 1) := by decide +kernel
theorem dX14_joined_6 : decode cX14_joined 6 = .ok (.ireturn, 1) := by decide +kernel
theorem dX14_joined_7 : decode cX14_joined 7 = .ok (.iload_n 0, 1) := by decide +kernel
theorem dX14_joined_8 : decode cX14_joined 8 = .ok (.bipush 6, 2) := by decide +kernel
theorem dX14_joined_10 : decode cX14_joined 10 = .ok (.if_icmp .ne 15, 3) := by decide +kernel
theorem dX14_joined_13 : decode cX14_joined 13 = .ok (.iload_n 1, 1) := by decide +kernel
theorem dX14_joined_14 : decode cX14_joined 14 = .ok (.iconst 4, 1) := by decide +kernel
theorem dX14_joined_15 : decode cX14_joined 15 = .ok (.if_icmp .eq 8, 3) := by decide +kernel
theorem dX14_joined_18 : decode cX14_joined 18 = .ok (.iload_n 1, 1) := by decide +kernel
theorem dX14_joined_19 : decode cX14_joined 19 = .ok (.iconst 5, 1) := by decide +kernel
theorem dX14_joined_20 : decode cX14_joined 20 = .ok (.if_icmp .ne 5, 3) := by decide +kernel
theorem dX14_joined_23 : decode cX14_joined 23 = .ok (.iload_n 1, 1) := by decide +kernel
theorem dX14_joined_24 : decode cX14_joined 24 = .ok (.ireturn, 1) := by decide +kernel
theorem dX14_joined_25 : decode cX14_joined 25 = .ok (.iload_n 1, 1) := by decide +kernel
theorem dX14_joined_26 : decode cX14_joined 26 = .ok (.bipush 6, 2) := by decide +kernel
theorem dX14_joined_28 : decode cX14_joined 28 = .ok (.if_icmp .ne 17, 3) := by decide +kernel
theorem dX14_joined_31 : decode cX14_joined 31 = .ok (.iload_n 0, 1) := by decide +kernel
theorem dX14_joined_32 : decode cX14_joined 32 = .ok (.iconst 4, 1) := by decide +kernel
theorem dX14_joined_33 : decode cX14_joined 33 = .ok (.if_icmp .eq 8, 3) := by decide +kernel
theorem dX14_joined_36 : decode cX14_joined 36 = .ok (.iload_n 0, 1) := by decide +kernel
theorem dX14_joined_37 : decode cX14_joined 37 = .ok (.iconst 5, 1) := by decide +kernel
theorem dX14_joined_38 : decode cX14_joined 38 = .ok (.if_icmp .ne 7, 3) := by decide +kernel
theorem dX14_joined_41 : decode cX14_joined 41 = .ok (.iload_n 0, 1) := by decide +kernel
theorem dX14_joined_42 : decode cX14_joined 42 = .ok (.goto 4, 3) := by decide +kernel
theorem dX14_joined_45 : decode cX14_joined 45 = .ok (.iconst 0, 1) := by decide +kernel
theorem dX14_joined_46 : decode cX14_joined 46 = .ok (.ireturn, 1) := by decide +kernel
theorem dX14_jump_0 : decode cX14_jump 0 = .ok (.iconst 1, 1) := by decide +kernel
theorem dX14_jump_1 : decode cX14_jump 1 = .ok (.istore 4, 2) := by decide +kernel
theorem dX14_jump_3 : decode cX14_jump 3 = .ok (.iload_n 2, 1) := by decide +kernel
theorem dX14_jump_4 : decode cX14_jump 4 = .ok (.sipush 159, 3) := by decide +kernel
theorem dX14_jump_7 : decode cX14_jump 7 = .ok (.if_icmp .lt 35, 3) := by decide +kernel
theorem dX14_jump_10 : decode cX14_jump 10 = .ok (.iload_n 2, 1) := by decide +kernel
theorem dX14_jump_11 : decode cX14_jump 11 = .ok (.sipush 164, 3) := by decide +kernel
theorem dX14_jump_14 : decode cX14_jump 14 = .ok (.if_icmp .gt 28, 3) := by decide +kernel
theorem dX14_jump_17 : decode cX14_jump 17 = .ok (.aload_n 0, 1) := by decide +kernel
theorem dX14_jump_18 : decode cX14_jump 18 = .ok (.invokevirtual 1018, 3) := by decide +kernel
theorem dX14_jump_21 : decode cX14_jump 21 = .ok (.istore 5, 2) := by decide +kernel
theorem dX14_jump_23 : decode cX14_jump 23 = .ok (.iload_n 2, 1) := by decide +kernel
theorem dX14_jump_24 : decode cX14_jump 24 = .ok (.sipush 159, 3) := by decide +kernel
theorem dX14_jump_27 : decode cX14_jump 27 = .ok (.isub, 1) := by decide +kernel
theorem dX14_jump_28 : decode cX14_jump 28 = .ok (.aload_n 0, 1) := by decide +kernel
theorem dX14_jump_29 : decode cX14_jump 29 = .ok (.invokevirtual 1018, 3) := by decide +kernel
theorem dX14_jump_32 : decode cX14_jump 32 = .ok (.iload 5, 2) := by decide +kernel
theorem dX14_jump_34 : decode cX14_jump 34 = .ok (.invokestatic 1053, 3) := by decide +kernel
theorem dX14_jump_37 : decode cX14_jump 37 = .ok (.istore 4, 2) := by decide +kernel
theorem dX14_jump_39 : decode cX14_jump 39 = .ok (.goto 141, 3) := by decide +kernel
theorem dX14_jump_42 : decode cX14_jump 42 = .ok (.iload_n 2, 1) := by decide +kernel
theorem dX14_jump_43 : decode cX14_jump 43 = .ok (.sipush 153, 3) := by decide +kernel
theorem dX14_jump_46 : decode cX14_jump 46 = .ok (.if_icmp .lt 28, 3) := by decide +kernel
theorem dX14_jump_49 : decode cX14_jump 49 = .ok (.iload_n 2, 1) := by decide +kernel
theorem dX14_jump_50 : decode cX14_jump 50 = .ok (.sipush 158, 3) := by decide +kernel
theorem dX14_jump_53 : decode cX14_jump 53 = .ok (.if_icmp .gt 21, 3) := by decide +kernel
theorem dX14_jump_56 : decode cX14_jump 56 = .ok (.iload_n 2, 1) := by decide +kernel
theorem dX14_jump_57 : decode cX14_jump 57 = .ok (.sipush 153, 3) := by decide +kernel
theorem dX14_jump_60 : decode cX14_jump 60 = .ok (.isub, 1) := by decide +kernel
theorem dX14_jump_61 : decode cX14_jump 61 = .ok (.aload_n 0, 1) := by decide +kernel
theorem dX14_jump_62 : decode cX14_jump 62 = .ok (.invokevirtual 1018, 3) := by decide +kernel
theorem dX14_jump_65 : decode cX14_jump 65 = .ok (.iconst 0, 1) := by decide +kernel
theorem dX14_jump_66 : decode cX14_jump 66 = .ok (.invokestatic 1053, 3) := by decide +kernel
theorem dX14_jump_69 : decode cX14_jump 69 = .ok (.istore 4, 2) := by decide +kernel
theorem dX14_jump_71 : decode cX14_jump 71 = .ok (.goto 109, 3) := by decide +kernel
theorem dX14_jump_74 : decode cX14_jump 74 = .ok (.iload_n 2, 1) := by decide +kernel
theorem dX14_jump_75 : decode cX14_jump 75 = .ok (.sipush 165, 3) := by decide +kernel
theorem dX14_jump_78 : decode cX14_jump 78 = .ok (.if_icmp .eq 10, 3) := by decide +kernel
theorem dX14_jump_81 : decode cX14_jump 81 = .ok (.iload_n 2, 1) := by decide +kernel
theorem dX14_jump_82 : decode cX14_jump 82 = .ok (.sipush 166, 3) := by decide +kernel
theorem dX14_jump_85 : decode cX14_jump 85 = .ok (.if_icmp .ne 51, 3) := by decide +kernel
theorem dX14_jump_88 : decode cX14_jump 88 = .ok (.aload_n 0, 1) := by decide +kernel
theorem dX14_jump_89 : decode cX14_jump 89 = .ok (.iconst 1, 1) := by decide +kernel
theorem dX14_jump_90 : decode cX14_jump 90 = .ok (.invokevirtual 1000, 3) := by decide +kernel
theorem dX14_jump_93 : decode cX14_jump 93 = .ok (.lstore 5, 2) := by decide +kernel
theorem dX14_jump_95 : decode cX14_jump 95 = .ok (.aload_n 0, 1) := by decide +kernel
theorem dX14_jump_96 : decode cX14_jump 96 = .ok (.iconst 1, 1) := by decide +kernel
theorem dX14_jump_97 : decode cX14_jump 97 = .ok (.invokevirtual 1000, 3) := by decide +kernel
theorem dX14_jump_100 : decode cX14_jump 100 = .ok (.lload 5, 2) := by decide +kernel
theorem dX14_jump_102 : decode cX14_jump 102 = .ok (.lcmp, 1) := by decide +kernel
theorem dX14_jump_103 : decode cX14_jump 103 = .ok (.ifCond .ne 7, 3) := by decide +kernel
theorem dX14_jump_106 : decode cX14_jump 106 = .ok (.iconst 1, 1) := by decide +kernel
theorem dX14_jump_107 : decode cX14_jump 107 = .ok (.goto 4, 3) := by decide +kernel
theorem dX14_jump_110 : decode cX14_jump 110 = .ok (.iconst 0, 1) := by decide +kernel
theorem dX14_jump_111 : decode cX14_jump 111 = .ok (.iload_n 2, 1) := by decide +kernel
theorem dX14_jump_112 : decode cX14_jump 112 = .ok (.sipush 165, 3) := by decide +kernel
theorem dX14_jump_115 : decode cX14_jump 115 = .ok (.if_icmp .ne 7, 3) := by decide +kernel
theorem dX14_jump_118 : decode cX14_jump 118 = .ok (.iconst 1, 1) := by decide +kernel
theorem dX14_jump_119 : decode cX14_jump 119 = .ok (.goto 4, 3) := by decide +kernel
theorem dX14_jump_122 : decode cX14_jump 122 = .ok (.iconst 0, 1) := by decide +kernel
theorem dX14_jump_123 : decode cX14_jump 123 = .ok (.if_icmp .ne 7, 3) := by decide +kernel
theorem dX14_jump_126 : decode cX14_jump 126 = .ok (.iconst 1, 1) := by decide +kernel
theorem dX14_jump_127 : decode cX14_jump 127 = .ok (.goto 4, 3) := by decide +kernel
theorem dX14_jump_130 : decode cX14_jump 130 = .ok (.iconst 0, 1) := by decide +kernel
theorem dX14_jump_131 : decode cX14_jump 131 = .ok (.istore 4, 2) := by decide +kernel
theorem dX14_jump_133 : decode cX14_jump 133 = .ok (.goto 47, 3) := by decide +kernel
theorem dX14_jump_136 : decode cX14_jump 136 = .ok (.iload_n 2, 1) := by decide +kernel
theorem dX14_jump_137 : decode cX14_jump 137 = .ok (.sipush 167, 3) := by decide +kernel
theorem dX14_jump_140 : decode cX14_jump 140 = .ok (.if_icmp .eq 40, 3) := by decide +kernel
theorem dX14_jump_143 : decode cX14_jump 143 = .ok (.aload_n 0, 1) := by decide +kernel
theorem dX14_jump_144 : decode cX14_jump 144 = .ok (.iconst 1, 1) := by decide +kernel
theorem dX14_jump_145 : decode cX14_jump 145 = .ok (.invokevirtual 1000, 3) := by decide +kernel
theorem dX14_jump_148 : decode cX14_jump 148 = .ok (.lconst 0, 1) := by decide +kernel
theorem dX14_jump_149 : decode cX14_jump 149 = .ok (.lcmp, 1) := by decide +kernel
theorem dX14_jump_150 : decode cX14_jump 150 = .ok (.ifCond .ne 7, 3) := by decide +kernel
theorem dX14_jump_153 : decode cX14_jump 153 = .ok (.iconst 1, 1) := by decide +kernel
theorem dX14_jump_154 : decode cX14_jump 154 = .ok (.goto 4, 3) := by decide +kernel
theorem dX14_jump_157 : decode cX14_jump 157 = .ok (.iconst 0, 1) := by decide +kernel
theorem dX14_jump_158 : decode cX14_jump 158 = .ok (.iload_n 2, 1) := by decide +kernel
theorem dX14_jump_159 : decode cX14_jump 159 = .ok (.sipush 198, 3) := by decide +kernel
theorem dX14_jump_162 : decode cX14_jump 162 = .ok (.if_icmp .ne 7, 3) := by decide +kernel
theorem dX14_jump_165 : decode cX14_jump 165 = .ok (.iconst 1, 1) := by decide +kernel
theorem dX14_jump_166 : decode cX14_jump 166 = .ok (.goto 4, 3) := by decide +kernel
theorem dX14_jump_169 : decode cX14_jump 169 = .ok (.iconst 0, 1) := by decide +kernel
theorem dX14_jump_170 : decode cX14_jump 170 = .ok (.if_icmp .ne 7, 3) := by decide +kernel
theorem dX14_jump_173 : decode cX14_jump 173 = .ok (.iconst 1, 1) := by decide +kernel
theorem dX14_jump_174 : decode cX14_jump 174 = .ok (.goto 4, 3) := by decide +kernel
theorem dX14_jump_177 : decode cX14_jump 177 = .ok (.iconst 0, 1) := by decide +kernel
theorem dX14_jump_178 : decode cX14_jump 178 = .ok (.istore 4, 2) := by decide +kernel
theorem dX14_jump_180 : decode cX14_jump 180 = .ok (.aload_n 0, 1) := by decide +kernel
theorem dX14_jump_181 : decode cX14_jump 181 = .ok (.iload 4, 2) := by decide +kernel
theorem dX14_jump_183 : decode cX14_jump 183 = .ok (.ifCond .eq 7, 3) := by decide +kernel
theorem dX14_jump_186 : decode cX14_jump 186 = .ok (.iload_n 3, 1) := by decide +kernel
theorem dX14_jump_187 : decode cX14_jump 187 = .ok (.goto 6, 3) := by decide +kernel
theorem dX14_jump_190 : decode cX14_jump 190 = .ok (.iload_n 1, 1) := by decide +kernel
theorem dX14_jump_191 : decode cX14_jump 191 = .ok (.iconst 1, 1) := by decide +kernel
theorem dX14_jump_192 : decode cX14_jump 192 = .ok (.iadd, 1) := by decide +kernel
theorem dX14_jump_193 : decode cX14_jump 193 = .ok (.invokevirtual 1006, 3) := by decide +kernel
theorem dX14_jump_196 : decode cX14_jump 196 = .ok (.return_, 1) := by decide +kernel
theorem dX14_keep_0 : decode cX14_keep 0 = .ok (.aload_n 0, 1) := by decide +kernel
theorem dX14_keep_1 : decode cX14_keep 1 = .ok (.getfield 112, 3) := by decide +kernel
theorem dX14_keep_4 : decode cX14_keep 4 = .ok (.iload_n 1, 1) := by decide +kernel
theorem dX14_keep_5 : decode cX14_keep 5 = .ok (.aload_n 0, 1) := by decide +kernel
theorem dX14_keep_6 : decode cX14_keep 6 = .ok (.getfield 95, 3) := by decide +kernel
theorem dX14_keep_9 : decode cX14_keep 9 = .ok (.iload_n 2, 1) := by decide +kernel
theorem dX14_keep_10 : decode cX14_keep 10 = .ok (.baload, 1) := by decide +kernel
theorem dX14_keep_11 : decode cX14_keep 11 = .ok (.ifCond .eq 11, 3) := by decide +kernel
theorem dX14_keep_14 : decode cX14_keep 14 = .ok (.aload_n 0, 1) := by decide +kernel
theorem dX14_keep_15 : decode cX14_keep 15 = .ok (.iload_n 2, 1) := by decide +kernel
theorem dX14_keep_16 : decode cX14_keep 16 = .ok (.invokevirtual 774, 3) := by decide +kernel
theorem dX14_keep_19 : decode cX14_keep 19 = .ok (.goto 4, 3) := by decide +kernel
theorem dX14_keep_22 : decode cX14_keep 22 = .ok (.iconst (-1), 1) := by decide +kernel
theorem dX14_keep_23 : decode cX14_keep 23 = .ok (.iastore, 1) := by decide +kernel
theorem dX14_keep_24 : decode cX14_keep 24 = .ok (.iconst 0, 1) := by decide +kernel
theorem dX14_keep_25 : decode cX14_keep 25 = .ok (.istore_n 3, 1) := by decide +kernel
theorem dX14_keep_26 : decode cX14_keep 26 = .ok (.iload_n 3, 1) := by decide +kernel
theorem dX14_keep_27 : decode cX14_keep 27 = .ok (.iconst 3, 1) := by decide +kernel
theorem dX14_keep_28 : decode cX14_keep 28 = .ok (.if_icmp .ge 67, 3) := by decide +kernel
theorem dX14_keep_31 : decode cX14_keep 31 = .ok (.iconst 0, 1) := by decide +kernel
theorem dX14_keep_32 : decode cX14_keep 32 = .ok (.istore 4, 2) := by decide +kernel
theorem dX14_keep_34 : decode cX14_keep 34 = .ok (.iconst 0, 1) := by decide +kernel
theorem dX14_keep_35 : decode cX14_keep 35 = .ok (.istore 5, 2) := by decide +kernel
theorem dX14_keep_37 : decode cX14_keep 37 = .ok (.iload 5, 2) := by decide +kernel
theorem dX14_keep_39 : decode cX14_keep 39 = .ok (.bipush 8, 2) := by decide +kernel
theorem dX14_keep_41 : decode cX14_keep 41 = .ok (.if_icmp .ge 36, 3) := by decide +kernel
theorem dX14_keep_44 : decode cX14_keep 44 = .ok (.iload 4, 2) := by decide +kernel
theorem dX14_keep_46 : decode cX14_keep 46 = .ok (.aload_n 0, 1) := by decide +kernel
theorem dX14_keep_47 : decode cX14_keep 47 = .ok (.getfield 92, 3) := by decide +kernel
theorem dX14_keep_50 : decode cX14_keep 50 = .ok (.bipush 48, 2) := by decide +kernel
theorem dX14_keep_52 : decode cX14_keep 52 = .ok (.iload_n 2, 1) := by decide +kernel
theorem dX14_keep_53 : decode cX14_keep 53 = .ok (.imul, 1) := by decide +kernel
theorem dX14_keep_54 : decode cX14_keep 54 = .ok (.bipush 8, 2) := by decide +kernel
theorem dX14_keep_56 : decode cX14_keep 56 = .ok (.iload_n 3, 1) := by decide +kernel
theorem dX14_keep_57 : decode cX14_keep 57 = .ok (.imul, 1) := by decide +kernel
theorem dX14_keep_58 : decode cX14_keep 58 = .ok (.iadd, 1) := by decide +kernel
theorem dX14_keep_59 : decode cX14_keep 59 = .ok (.iload 5, 2) := by decide +kernel
theorem dX14_keep_61 : decode cX14_keep 61 = .ok (.iadd, 1) := by decide +kernel
theorem dX14_keep_62 : decode cX14_keep 62 = .ok (.baload, 1) := by decide +kernel
theorem dX14_keep_63 : decode cX14_keep 63 = .ok (.iconst 4, 1) := by decide +kernel
theorem dX14_keep_64 : decode cX14_keep 64 = .ok (.iload 5, 2) := by decide +kernel
theorem dX14_keep_66 : decode cX14_keep 66 = .ok (.imul, 1) := by decide +kernel
theorem dX14_keep_67 : decode cX14_keep 67 = .ok (.ishl, 1) := by decide +kernel
theorem dX14_keep_68 : decode cX14_keep 68 = .ok (.ior, 1) := by decide +kernel
theorem dX14_keep_69 : decode cX14_keep 69 = .ok (.istore 4, 2) := by decide +kernel
theorem dX14_keep_71 : decode cX14_keep 71 = .ok (.iinc 5 1, 3) := by decide +kernel
theorem dX14_keep_74 : decode cX14_keep 74 = .ok (.goto (-37), 3) := by decide +kernel
theorem dX14_keep_77 : decode cX14_keep 77 = .ok (.aload_n 0, 1) := by decide +kernel
theorem dX14_keep_78 : decode cX14_keep 78 = .ok (.getfield 112, 3) := by decide +kernel
theorem dX14_keep_81 : decode cX14_keep 81 = .ok (.iload_n 1, 1) := by decide +kernel
theorem dX14_keep_82 : decode cX14_keep 82 = .ok (.iconst 1, 1) := by decide +kernel
theorem dX14_keep_83 : decode cX14_keep 83 = .ok (.iadd, 1) := by decide +kernel
theorem dX14_keep_84 : decode cX14_keep 84 = .ok (.iload_n 3, 1) := by decide +kernel
theorem dX14_keep_85 : decode cX14_keep 85 = .ok (.iadd, 1) := by decide +kernel
theorem dX14_keep_86 : decode cX14_keep 86 = .ok (.iload 4, 2) := by decide +kernel
theorem dX14_keep_88 : decode cX14_keep 88 = .ok (.iastore, 1) := by decide +kernel
theorem dX14_keep_89 : decode cX14_keep 89 = .ok (.iinc 3 1, 3) := by decide +kernel
theorem dX14_keep_92 : decode cX14_keep 92 = .ok (.goto (-66), 3) := by decide +kernel
theorem dX14_keep_95 : decode cX14_keep 95 = .ok (.return_, 1) := by decide +kernel
theorem dX14_kept_0 : decode cX14_kept 0 = .ok (.aload_n 0, 1) := by decide +kernel
theorem dX14_kept_1 : decode cX14_kept 1 = .ok (.getfield 11, 3) := by decide +kernel
theorem dX14_kept_4 : decode cX14_kept 4 = .ok (.aload_n 0, 1) := by decide +kernel
theorem dX14_kept_5 : decode cX14_kept 5 = .ok (.getfield 647, 3) := by decide +kernel
theorem dX14_kept_8 : decode cX14_kept 8 = .ok (.aload_n 1, 1) := by decide +kernel
theorem dX14_kept_9 : decode cX14_kept 9 = .ok (.aastore, 1) := by decide +kernel
theorem dX14_kept_10 : decode cX14_kept 10 = .ok (.aload_n 0, 1) := by decide +kernel
theorem dX14_kept_11 : decode cX14_kept 11 = .ok (.dup, 1) := by decide +kernel
theorem dX14_kept_12 : decode cX14_kept 12 = .ok (.getfield 647, 3) := by decide +kernel
theorem dX14_kept_15 : decode cX14_kept 15 = .ok (.iconst 1, 1) := by decide +kernel
theorem dX14_kept_16 : decode cX14_kept 16 = .ok (.iadd, 1) := by decide +kernel
theorem dX14_kept_17 : decode cX14_kept 17 = .ok (.putfield 647, 3) := by decide +kernel
theorem dX14_kept_20 : decode cX14_kept 20 = .ok (.aload_n 0, 1) := by decide +kernel
theorem dX14_kept_21 : decode cX14_kept 21 = .ok (.getfield 647, 3) := by decide +kernel
theorem dX14_kept_24 : decode cX14_kept 24 = .ok (.iconst 1, 1) := by decide +kernel
theorem dX14_kept_25 : decode cX14_kept 25 = .ok (.isub, 1) := by decide +kernel
theorem dX14_kept_26 : decode cX14_kept 26 = .ok (.ireturn, 1) := by decide +kernel
theorem dX14_keptDraft_0 : decode cX14_keptDraft 0 = .ok (.aload_n 0, 1) := by decide +kernel
theorem dX14_keptDraft_1 : decode cX14_keptDraft 1 = .ok (.aload_n 0, 1) := by decide +kernel
theorem dX14_keptDraft_2 : decode cX14_keptDraft 2 = .ok (.getfield 223, 3) := by decide +kernel
theorem dX14_keptDraft_5 : decode cX14_keptDraft 5 = .ok (.invokevirtual 955, 3) := by decide +kernel
theorem dX14_keptDraft_8 : decode cX14_keptDraft 8 = .ok (.aload_n 0, 1) := by decide +kernel
theorem dX14_keptDraft_9 : decode cX14_keptDraft 9 = .ok (.aload_n 0, 1) := by decide +kernel
theorem dX14_keptDraft_10 : decode cX14_keptDraft 10 = .ok (.aload_n 0, 1) := by decide +kernel
theorem dX14_keptDraft_11 : decode cX14_keptDraft 11 = .ok (.getfield 137, 3) := by decide +kernel
theorem dX14_keptDraft_14 : decode cX14_keptDraft 14 = .ok (.aload_n 0, 1) := by decide +kernel
theorem dX14_keptDraft_15 : decode cX14_keptDraft 15 = .ok (.getfield 897, 3) := by decide +kernel
theorem dX14_keptDraft_18 : decode cX14_keptDraft 18 = .ok (.invokevirtual 650, 3) := by decide +kernel
theorem dX14_keptDraft_21 : decode cX14_keptDraft 21 = .ok (.invokevirtual 654, 3) := by decide +kernel
theorem dX14_keptDraft_24 : decode cX14_keptDraft 24 = .ok (.ireturn, 1) := by decide +kernel
theorem dX14_keptDraft_25 : decode cX14_keptDraft 25 = .ok (.astore_n 1, 1) := by decide +kernel
theorem dX14_keptDraft_26 : decode cX14_keptDraft 26 = .ok (.bipush (-3), 2) := by decide +kernel
theorem dX14_keptDraft_28 : decode cX14_keptDraft 28 = .ok (.ireturn, 1) := by decide +kernel
theorem dX14_lastOne_0 : decode cX14_lastOne 0 = .ok (.aload_n 0, 1) := by decide +kernel
theorem dX14_lastOne_1 : decode cX14_lastOne 1 = .ok (.getfield 1130, 3) := by decide +kernel
theorem dX14_lastOne_4 : decode cX14_lastOne 4 = .ok (.iconst 1, 1) := by decide +kernel
theorem dX14_lastOne_5 : decode cX14_lastOne 5 = .ok (.isub, 1) := by decide +kernel
theorem dX14_lastOne_6 : decode cX14_lastOne 6 = .ok (.istore_n 1, 1) := by decide +kernel
theorem dX14_lastOne_7 : decode cX14_lastOne 7 = .ok (.aload_n 0, 1) := by decide +kernel
theorem dX14_lastOne_8 : decode cX14_lastOne 8 = .ok (.getfield 249, 3) := by decide +kernel
theorem dX14_lastOne_11 : decode cX14_lastOne 11 = .ok (.iload_n 1, 1) := by decide +kernel
theorem dX14_lastOne_12 : decode cX14_lastOne 12 = .ok (.baload, 1) := by decide +kernel
theorem dX14_lastOne_13 : decode cX14_lastOne 13 = .ok (.ifCond .eq 9, 3) := by decide +kernel
theorem dX14_lastOne_16 : decode cX14_lastOne 16 = .ok (.iinc 1 (-1), 3) := by decide +kernel
theorem dX14_lastOne_19 : decode cX14_lastOne 19 = .ok (.goto (-12), 3) := by decide +kernel
theorem dX14_lastOne_22 : decode cX14_lastOne 22 = .ok (.iload_n 1, 1) := by decide +kernel
theorem dX14_lastOne_23 : decode cX14_lastOne 23 = .ok (.ireturn, 1) := by decide +kernel
theorem dX14_layout_0 : decode cX14_layout 0 = .ok (.iconst 0, 1) := by decide +kernel
theorem dX14_layout_1 : decode cX14_layout 1 = .ok (.istore_n 1, 1) := by decide +kernel
theorem dX14_layout_2 : decode cX14_layout 2 = .ok (.iload_n 1, 1) := by decide +kernel
theorem dX14_layout_3 : decode cX14_layout 3 = .ok (.bipush 8, 2) := by decide +kernel
theorem dX14_layout_5 : decode cX14_layout 5 = .ok (.if_icmp .ge 54, 3) := by decide +kernel
theorem dX14_layout_8 : decode cX14_layout 8 = .ok (.aload_n 0, 1) := by decide +kernel
theorem dX14_layout_9 : decode cX14_layout 9 = .ok (.iload_n 1, 1) := by decide +kernel
theorem dX14_layout_10 : decode cX14_layout 10 = .ok (.aload_n 0, 1) := by decide +kernel
theorem dX14_layout_11 : decode cX14_layout 11 = .ok (.getfield 322, 3) := by decide +kernel
theorem dX14_layout_14 : decode cX14_layout 14 = .ok (.if_icmp .ge 7, 3) := by decide +kernel
theorem dX14_layout_17 : decode cX14_layout 17 = .ok (.iconst 1, 1) := by decide +kernel
theorem dX14_layout_18 : decode cX14_layout 18 = .ok (.goto 4, 3) := by decide +kernel
theorem dX14_layout_21 : decode cX14_layout 21 = .ok (.iconst 0, 1) := by decide +kernel
theorem dX14_layout_22 : decode cX14_layout 22 = .ok (.iconst 2, 1) := by decide +kernel
theorem dX14_layout_23 : decode cX14_layout 23 = .ok (.aload_n 0, 1) := by decide +kernel
theorem dX14_layout_24 : decode cX14_layout 24 = .ok (.getfield 322, 3) := by decide +kernel
theorem dX14_layout_27 : decode cX14_layout 27 = .ok (.invokevirtual 325, 3) := by decide +kernel
theorem dX14_layout_30 : decode cX14_layout 30 = .ok (.aload_n 0, 1) := by decide +kernel
theorem dX14_layout_31 : decode cX14_layout 31 = .ok (.aload_n 0, 1) := by decide +kernel
theorem dX14_layout_32 : decode cX14_layout 32 = .ok (.iload_n 1, 1) := by decide +kernel
theorem dX14_layout_33 : decode cX14_layout 33 = .ok (.invokevirtual 312, 3) := by decide +kernel
theorem dX14_layout_36 : decode cX14_layout 36 = .ok (.iload_n 1, 1) := by decide +kernel
theorem dX14_layout_37 : decode cX14_layout 37 = .ok (.invokestatic 329, 3) := by decide +kernel
theorem dX14_layout_40 : decode cX14_layout 40 = .ok (.if_icmp .ne 7, 3) := by decide +kernel
theorem dX14_layout_43 : decode cX14_layout 43 = .ok (.iconst 1, 1) := by decide +kernel
theorem dX14_layout_44 : decode cX14_layout 44 = .ok (.goto 4, 3) := by decide +kernel
theorem dX14_layout_47 : decode cX14_layout 47 = .ok (.iconst 0, 1) := by decide +kernel
theorem dX14_layout_48 : decode cX14_layout 48 = .ok (.iconst 1, 1) := by decide +kernel
theorem dX14_layout_49 : decode cX14_layout 49 = .ok (.iload_n 1, 1) := by decide +kernel
theorem dX14_layout_50 : decode cX14_layout 50 = .ok (.invokevirtual 325, 3) := by decide +kernel
theorem dX14_layout_53 : decode cX14_layout 53 = .ok (.iinc 1 1, 3) := by decide +kernel
theorem dX14_layout_56 : decode cX14_layout 56 = .ok (.goto (-54), 3) := by decide +kernel
theorem dX14_layout_59 : decode cX14_layout 59 = .ok (.aload_n 0, 1) := by decide +kernel
theorem dX14_layout_60 : decode cX14_layout 60 = .ok (.bipush 8, 2) := by decide +kernel
theorem dX14_layout_62 : decode cX14_layout 62 = .ok (.putfield 319, 3) := by decide +kernel
theorem dX14_layout_65 : decode cX14_layout 65 = .ok (.aload_n 0, 1) := by decide +kernel
theorem dX14_layout_66 : decode cX14_layout 66 = .ok (.aload_n 0, 1) := by decide +kernel
theorem dX14_layout_67 : decode cX14_layout 67 = .ok (.aload_n 0, 1) := by decide +kernel
theorem dX14_layout_68 : decode cX14_layout 68 = .ok (.ldc2_w 332, 3) := by decide +kernel
theorem dX14_layout_71 : decode cX14_layout 71 = .ok (.invokevirtual 334, 3) := by decide +kernel
theorem dX14_layout_74 : decode cX14_layout 74 = .ok (.invokevirtual 316, 3) := by decide +kernel
theorem dX14_layout_77 : decode cX14_layout 77 = .ok (.putfield 338, 3) := by decide +kernel
theorem dX14_layout_80 : decode cX14_layout 80 = .ok (.aload_n 0, 1) := by decide +kernel
theorem dX14_layout_81 : decode cX14_layout 81 = .ok (.aload_n 0, 1) := by decide +kernel
theorem dX14_layout_82 : decode cX14_layout 82 = .ok (.getfield 338, 3) := by decide +kernel
theorem dX14_layout_85 : decode cX14_layout 85 = .ok (.iconst 1, 1) := by decide +kernel
theorem dX14_layout_86 : decode cX14_layout 86 = .ok (.if_icmp .lt 17, 3) := by decide +kernel
theorem dX14_layout_89 : decode cX14_layout 89 = .ok (.aload_n 0, 1) := by decide +kernel
theorem dX14_layout_90 : decode cX14_layout 90 = .ok (.getfield 338, 3) := by decide +kernel
theorem dX14_layout_93 : decode cX14_layout 93 = .ok (.sipush 500, 3) := by decide +kernel
theorem dX14_layout_96 : decode cX14_layout 96 = .ok (.if_icmp .gt 7, 3) := by decide +kernel
theorem dX14_layout_99 : decode cX14_layout 99 = .ok (.iconst 1, 1) := by decide +kernel
theorem dX14_layout_100 : decode cX14_layout 100 = .ok (.goto 4, 3) := by decide +kernel
theorem dX14_layout_103 : decode cX14_layout 103 = .ok (.iconst 0, 1) := by decide +kernel
theorem dX14_layout_104 : decode cX14_layout 104 = .ok (.iconst 5, 1) := by decide +kernel
theorem dX14_layout_105 : decode cX14_layout 105 = .ok (.bipush 8, 2) := by decide +kernel
theorem dX14_layout_107 : decode cX14_layout 107 = .ok (.invokevirtual 325, 3) := by decide +kernel
theorem dX14_layout_110 : decode cX14_layout 110 = .ok (.iconst 0, 1) := by decide +kernel
theorem dX14_layout_111 : decode cX14_layout 111 = .ok (.istore_n 1, 1) := by decide +kernel
theorem dX14_layout_112 : decode cX14_layout 112 = .ok (.iload_n 1, 1) := by decide +kernel
theorem dX14_layout_113 : decode cX14_layout 113 = .ok (.aload_n 0, 1) := by decide +kernel
theorem dX14_layout_114 : decode cX14_layout 114 = .ok (.getfield 30, 3) := by decide +kernel
theorem dX14_layout_117 : decode cX14_layout 117 = .ok (.arraylength, 1) := by decide +kernel
theorem dX14_layout_118 : decode cX14_layout 118 = .ok (.if_icmp .ge 16, 3) := by decide +kernel
theorem dX14_layout_121 : decode cX14_layout 121 = .ok (.aload_n 0, 1) := by decide +kernel
theorem dX14_layout_122 : decode cX14_layout 122 = .ok (.getfield 30, 3) := by decide +kernel
theorem dX14_layout_125 : decode cX14_layout 125 = .ok (.iload_n 1, 1) := by decide +kernel
theorem dX14_layout_126 : decode cX14_layout 126 = .ok (.iconst 0, 1) := by decide +kernel
theorem dX14_layout_127 : decode cX14_layout 127 = .ok (.iastore, 1) := by decide +kernel
theorem dX14_layout_128 : decode cX14_layout 128 = .ok (.iinc 1 1, 3) := by decide +kernel
theorem dX14_layout_131 : decode cX14_layout 131 = .ok (.goto (-19), 3) := by decide +kernel
theorem dX14_layout_134 : decode cX14_layout 134 = .ok (.iconst 1, 1) := by decide +kernel
theorem dX14_layout_135 : decode cX14_layout 135 = .ok (.istore_n 1, 1) := by decide +kernel
theorem dX14_layout_136 : decode cX14_layout 136 = .ok (.iload_n 1, 1) := by decide +kernel
theorem dX14_layout_137 : decode cX14_layout 137 = .ok (.aload_n 0, 1) := by decide +kernel
theorem dX14_layout_138 : decode cX14_layout 138 = .ok (.getfield 338, 3) := by decide +kernel
theorem dX14_layout_141 : decode cX14_layout 141 = .ok (.if_icmp .ge 29, 3) := by decide +kernel
theorem dX14_layout_144 : decode cX14_layout 144 = .ok (.aload_n 0, 1) := by decide +kernel
theorem dX14_layout_145 : decode cX14_layout 145 = .ok (.iload_n 1, 1) := by decide +kernel
theorem dX14_layout_146 : decode cX14_layout 146 = .ok (.invokevirtual 341, 3) := by decide +kernel
theorem dX14_layout_149 : decode cX14_layout 149 = .ok (.iload_n 1, 1) := by decide +kernel
theorem dX14_layout_150 : decode cX14_layout 150 = .ok (.aload_n 0, 1) := by decide +kernel
theorem dX14_layout_151 : decode cX14_layout 151 = .ok (.getfield 30, 3) := by decide +kernel
theorem dX14_layout_154 : decode cX14_layout 154 = .ok (.iload_n 1, 1) := by decide +kernel
theorem dX14_layout_155 : decode cX14_layout 155 = .ok (.iaload, 1) := by decide +kernel
theorem dX14_layout_156 : decode cX14_layout 156 = .ok (.iconst 5, 1) := by decide +kernel
theorem dX14_layout_157 : decode cX14_layout 157 = .ok (.if_icmp .ne 7, 3) := by decide +kernel
theorem dX14_layout_160 : decode cX14_layout 160 = .ok (.iconst 2, 1) := by decide +kernel
theorem dX14_layout_161 : decode cX14_layout 161 = .ok (.goto 4, 3) := by decide +kernel
theorem dX14_layout_164 : decode cX14_layout 164 = .ok (.iconst 1, 1) := by decide +kernel
theorem dX14_layout_165 : decode cX14_layout 165 = .ok (.iadd, 1) := by decide +kernel
theorem dX14_layout_166 : decode cX14_layout 166 = .ok (.istore_n 1, 1) := by decide +kernel
theorem dX14_layout_167 : decode cX14_layout 167 = .ok (.goto (-31), 3) := by decide +kernel
theorem dX14_layout_170 : decode cX14_layout 170 = .ok (.aload_n 0, 1) := by decide +kernel
theorem dX14_layout_171 : decode cX14_layout 171 = .ok (.aload_n 0, 1) := by decide +kernel
theorem dX14_layout_172 : decode cX14_layout 172 = .ok (.ldc2_w 332, 3) := by decide +kernel
theorem dX14_layout_175 : decode cX14_layout 175 = .ok (.invokevirtual 334, 3) := by decide +kernel
theorem dX14_layout_178 : decode cX14_layout 178 = .ok (.putfield 344, 3) := by decide +kernel
theorem dX14_layout_181 : decode cX14_layout 181 = .ok (.aload_n 0, 1) := by decide +kernel
theorem dX14_layout_182 : decode cX14_layout 182 = .ok (.ldc2_w 347, 3) := by decide +kernel
theorem dX14_layout_185 : decode cX14_layout 185 = .ok (.invokevirtual 334, 3) := by decide +kernel
theorem dX14_layout_188 : decode cX14_layout 188 = .ok (.pop, 1) := by decide +kernel
theorem dX14_layout_189 : decode cX14_layout 189 = .ok (.aload_n 0, 1) := by decide +kernel
theorem dX14_layout_190 : decode cX14_layout 190 = .ok (.iconst 0, 1) := by decide +kernel
theorem dX14_layout_191 : decode cX14_layout 191 = .ok (.putfield 349, 3) := by decide +kernel
theorem dX14_layout_194 : decode cX14_layout 194 = .ok (.aload_n 0, 1) := by decide +kernel
theorem dX14_layout_195 : decode cX14_layout 195 = .ok (.iconst 0, 1) := by decide +kernel
theorem dX14_layout_196 : decode cX14_layout 196 = .ok (.putfield 352, 3) := by decide +kernel
theorem dX14_layout_199 : decode cX14_layout 199 = .ok (.aload_n 0, 1) := by decide +kernel
theorem dX14_layout_200 : decode cX14_layout 200 = .ok (.invokevirtual 355, 3) := by decide +kernel
theorem dX14_layout_203 : decode cX14_layout 203 = .ok (.aload_n 0, 1) := by decide +kernel
theorem dX14_layout_204 : decode cX14_layout 204 = .ok (.aload_n 0, 1) := by decide +kernel
theorem dX14_layout_205 : decode cX14_layout 205 = .ok (.getfield 349, 3) := by decide +kernel
theorem dX14_layout_208 : decode cX14_layout 208 = .ok (.putfield 358, 3) := by decide +kernel
theorem dX14_layout_211 : decode cX14_layout 211 = .ok (.aload_n 0, 1) := by decide +kernel
theorem dX14_layout_212 : decode cX14_layout 212 = .ok (.invokevirtual 355, 3) := by decide +kernel
theorem dX14_layout_215 : decode cX14_layout 215 = .ok (.aload_n 0, 1) := by decide +kernel
theorem dX14_layout_216 : decode cX14_layout 216 = .ok (.iconst (-1), 1) := by decide +kernel
theorem dX14_layout_217 : decode cX14_layout 217 = .ok (.invokevirtual 361, 3) := by decide +kernel
theorem dX14_layout_220 : decode cX14_layout 220 = .ok (.aload_n 0, 1) := by decide +kernel
theorem dX14_layout_221 : decode cX14_layout 221 = .ok (.aload_n 0, 1) := by decide +kernel
theorem dX14_layout_222 : decode cX14_layout 222 = .ok (.getfield 319, 3) := by decide +kernel
theorem dX14_layout_225 : decode cX14_layout 225 = .ok (.putfield 364, 3) := by decide +kernel
theorem dX14_layout_228 : decode cX14_layout 228 = .ok (.return_, 1) := by decide +kernel
theorem dX14_leads_0 : decode cX14_leads 0 = .ok (.aload_n 0, 1) := by decide +kernel
theorem dX14_leads_1 : decode cX14_leads 1 = .ok (.dup, 1) := by decide +kernel
theorem dX14_leads_2 : decode cX14_leads 2 = .ok (.getfield 1202, 3) := by decide +kernel
theorem dX14_leads_5 : decode cX14_leads 5 = .ok (.iconst 1, 1) := by decide +kernel
theorem dX14_leads_6 : decode cX14_leads 6 = .ok (.iadd, 1) := by decide +kernel
theorem dX14_leads_7 : decode cX14_leads 7 = .ok (.putfield 1202, 3) := by decide +kernel
theorem dX14_leads_10 : decode cX14_leads 10 = .ok (.iload_n 1, 1) := by decide +kernel
theorem dX14_leads_11 : decode cX14_leads 11 = .ok (.istore_n 2, 1) := by decide +kernel
theorem dX14_leads_12 : decode cX14_leads 12 = .ok (.aload_n 0, 1) := by decide +kernel
theorem dX14_leads_13 : decode cX14_leads 13 = .ok (.getfield 240, 3) := by decide +kernel
theorem dX14_leads_16 : decode cX14_leads 16 = .ok (.iload_n 2, 1) := by decide +kernel
theorem dX14_leads_17 : decode cX14_leads 17 = .ok (.iaload, 1) := by decide +kernel
theorem dX14_leads_18 : decode cX14_leads 18 = .ok (.sipush 167, 3) := by decide +kernel
theorem dX14_leads_21 : decode cX14_leads 21 = .ok (.if_icmp .ne 38, 3) := by decide +kernel
theorem dX14_leads_24 : decode cX14_leads 24 = .ok (.aload_n 0, 1) := by decide +kernel
theorem dX14_leads_25 : decode cX14_leads 25 = .ok (.getfield 273, 3) := by decide +kernel
theorem dX14_leads_28 : decode cX14_leads 28 = .ok (.iload_n 2, 1) := by decide +kernel
theorem dX14_leads_29 : decode cX14_leads 29 = .ok (.iaload, 1) := by decide +kernel
theorem dX14_leads_30 : decode cX14_leads 30 = .ok (.aload_n 0, 1) := by decide +kernel
theorem dX14_leads_31 : decode cX14_leads 31 = .ok (.getfield 1202, 3) := by decide +kernel
theorem dX14_leads_34 : decode cX14_leads 34 = .ok (.if_icmp .ne 5, 3) := by decide +kernel
theorem dX14_leads_37 : decode cX14_leads 37 = .ok (.iconst (-1), 1) := by decide +kernel
theorem dX14_leads_38 : decode cX14_leads 38 = .ok (.ireturn, 1) := by decide +kernel
theorem dX14_leads_39 : decode cX14_leads 39 = .ok (.aload_n 0, 1) := by decide +kernel
theorem dX14_leads_40 : decode cX14_leads 40 = .ok (.getfield 273, 3) := by decide +kernel
theorem dX14_leads_43 : decode cX14_leads 43 = .ok (.iload_n 2, 1) := by decide +kernel
theorem dX14_leads_44 : decode cX14_leads 44 = .ok (.aload_n 0, 1) := by decide +kernel
theorem dX14_leads_45 : decode cX14_leads 45 = .ok (.getfield 1202, 3) := by decide +kernel
theorem dX14_leads_48 : decode cX14_leads 48 = .ok (.iastore, 1) := by decide +kernel
theorem dX14_leads_49 : decode cX14_leads 49 = .ok (.aload_n 0, 1) := by decide +kernel
theorem dX14_leads_50 : decode cX14_leads 50 = .ok (.iload_n 2, 1) := by decide +kernel
theorem dX14_leads_51 : decode cX14_leads 51 = .ok (.iconst 0, 1) := by decide +kernel
theorem dX14_leads_52 : decode cX14_leads 52 = .ok (.invokevirtual 1142, 3) := by decide +kernel
theorem dX14_leads_55 : decode cX14_leads 55 = .ok (.istore_n 2, 1) := by decide +kernel
theorem dX14_leads_56 : decode cX14_leads 56 = .ok (.goto (-44), 3) := by decide +kernel
theorem dX14_leads_59 : decode cX14_leads 59 = .ok (.iload_n 2, 1) := by decide +kernel
theorem dX14_leads_60 : decode cX14_leads 60 = .ok (.ireturn, 1) := by decide +kernel
theorem dX14_leastLocals_0 : decode cX14_leastLocals 0 = .ok (.aload_n 1, 1) := by decide +kernel
theorem dX14_leastLocals_1 : decode cX14_leastLocals 1 = .ok (.invokestatic 731, 3) := by decide +kernel
theorem dX14_leastLocals_4 : decode cX14_leastLocals 4 = .ok (.istore_n 2, 1) := by decide +kernel
theorem dX14_leastLocals_5 : decode cX14_leastLocals 5 = .ok (.iconst 0, 1) := by decide +kernel
theorem dX14_leastLocals_6 : decode cX14_leastLocals 6 = .ok (.istore_n 3, 1) := by decide +kernel
theorem dX14_leastLocals_7 : decode cX14_leastLocals 7 = .ok (.iload_n 3, 1) := by decide +kernel
theorem dX14_leastLocals_8 : decode cX14_leastLocals 8 = .ok (.aload_n 0, 1) := by decide +kernel
theorem dX14_leastLocals_9 : decode cX14_leastLocals 9 = .ok (.getfield 673, 3) := by decide +kernel
theorem dX14_leastLocals_12 : decode cX14_leastLocals 12 = .ok (.if_icmp .ge 90, 3) := by decide +kernel
theorem dX14_leastLocals_15 : decode cX14_leastLocals 15 = .ok (.aload_n 0, 1) := by decide +kernel
theorem dX14_leastLocals_16 : decode cX14_leastLocals 16 = .ok (.iload_n 3, 1) := by decide +kernel
theorem dX14_leastLocals_17 : decode cX14_leastLocals 17 = .ok (.invokevirtual 685, 3) := by decide +kernel
theorem dX14_leastLocals_20 : decode cX14_leastLocals 20 = .ok (.istore 4, 2) := by decide +kernel
theorem dX14_leastLocals_22 : decode cX14_leastLocals 22 = .ok (.iload 4, 2) := by decide +kernel
theorem dX14_leastLocals_24 : decode cX14_leastLocals 24 = .ok (.bipush 22, 2) := by decide +kernel
theorem dX14_leastLocals_26 : decode cX14_leastLocals 26 = .ok (.if_icmp .eq 10, 3) := by decide +kernel
theorem dX14_leastLocals_29 : decode cX14_leastLocals 29 = .ok (.iload 4, 2) := by decide +kernel
theorem dX14_leastLocals_31 : decode cX14_leastLocals 31 = .ok (.bipush 55, 2) := by decide +kernel
theorem dX14_leastLocals_33 : decode cX14_leastLocals 33 = .ok (.if_icmp .ne 15, 3) := by decide +kernel
theorem dX14_leastLocals_36 : decode cX14_leastLocals 36 = .ok (.iload_n 2, 1) := by decide +kernel
theorem dX14_leastLocals_37 : decode cX14_leastLocals 37 = .ok (.aload_n 0, 1) := by decide +kernel
theorem dX14_leastLocals_38 : decode cX14_leastLocals 38 = .ok (.iload_n 3, 1) := by decide +kernel
theorem dX14_leastLocals_39 : decode cX14_leastLocals 39 = .ok (.invokevirtual 697, 3) := by decide +kernel
theorem dX14_leastLocals_42 : decode cX14_leastLocals 42 = .ok (.iconst 2, 1) := by decide +kernel
theorem dX14_leastLocals_43 : decode cX14_leastLocals 43 = .ok (.iadd, 1) := by decide +kernel
theorem dX14_leastLocals_44 : decode cX14_leastLocals 44 = .ok (.invokestatic 926, 3) := by decide +kernel
theorem dX14_leastLocals_47 : decode cX14_leastLocals 47 = .ok (.istore_n 2, 1) := by decide +kernel
theorem dX14_leastLocals_48 : decode cX14_leastLocals 48 = .ok (.iload 4, 2) := by decide +kernel
theorem dX14_leastLocals_50 : decode cX14_leastLocals 50 = .ok (.bipush 21, 2) := by decide +kernel
theorem dX14_leastLocals_52 : decode cX14_leastLocals 52 = .ok (.if_icmp .eq 32, 3) := by decide +kernel

theorem dX9_putCounters_325 : decode cX9_putCounters 325 = .ok (.aload_n 0, 1) := by decide +kernel
theorem dX9_putCounters_326 : decode cX9_putCounters 326 = .ok (.aload_n 1, 1) := by decide +kernel
theorem dX9_putCounters_327 : decode cX9_putCounters 327 = .ok (.getfield 115, 3) := by decide +kernel
theorem dX9_putCounters_330 : decode cX9_putCounters 330 = .ok (.iload 5, 2) := by decide +kernel
theorem dX9_putCounters_332 : decode cX9_putCounters 332 = .ok (.iaload, 1) := by decide +kernel
theorem dX9_putCounters_333 : decode cX9_putCounters 333 = .ok (.invokevirtual 100, 3) := by decide +kernel
theorem dX9_putCounters_336 : decode cX9_putCounters 336 = .ok (.aload_n 1, 1) := by decide +kernel
theorem dX9_putCounters_337 : decode cX9_putCounters 337 = .ok (.getfield 118, 3) := by decide +kernel
theorem dX9_putCounters_340 : decode cX9_putCounters 340 = .ok (.iload 5, 2) := by decide +kernel
theorem dX9_putCounters_342 : decode cX9_putCounters 342 = .ok (.iaload, 1) := by decide +kernel
theorem dX9_putCounters_343 : decode cX9_putCounters 343 = .ok (.invokevirtual 121, 3) := by decide +kernel
theorem dX9_putCounters_346 : decode cX9_putCounters 346 = .ok (.iinc 5 1, 3) := by decide +kernel
theorem dX9_putCounters_349 : decode cX9_putCounters 349 = .ok (.goto (-59), 3) := by decide +kernel
theorem dX9_putCounters_352 : decode cX9_putCounters 352 = .ok (.return_, 1) := by decide +kernel
theorem dX9_putPush_0 : decode cX9_putPush 0 = .ok (.aload_n 0, 1) := by decide +kernel
theorem dX9_putPush_1 : decode cX9_putPush 1 = .ok (.getfield 14, 3) := by decide +kernel
theorem dX9_putPush_4 : decode cX9_putPush 4 = .ok (.iload_n 1, 1) := by decide +kernel
theorem dX9_putPush_5 : decode cX9_putPush 5 = .ok (.iload_n 2, 1) := by decide +kernel
theorem dX9_putPush_6 : decode cX9_putPush 6 = .ok (.iconst 2, 1) := by decide +kernel
theorem dX9_putPush_7 : decode cX9_putPush 7 = .ok (.if_icmp .ne 8, 3) := by decide +kernel
theorem dX9_putPush_10 : decode cX9_putPush 10 = .ok (.bipush 20, 2) := by decide +kernel
theorem dX9_putPush_12 : decode cX9_putPush 12 = .ok (.goto 5, 3) := by decide +kernel
theorem dX9_putPush_15 : decode cX9_putPush 15 = .ok (.bipush 17, 2) := by decide +kernel
theorem dX9_putPush_17 : decode cX9_putPush 17 = .ok (.lload_n 3, 1) := by decide +kernel
theorem dX9_putPush_18 : decode cX9_putPush 18 = .ok (.invokevirtual 200, 3) := by decide +kernel
theorem dX9_putPush_21 : decode cX9_putPush 21 = .ok (.return_, 1) := by decide +kernel
theorem dX9_reachFrom_0 : decode cX9_reachFrom 0 = .ok (.aload_n 0, 1) := by decide +kernel
theorem dX9_reachFrom_1 : decode cX9_reachFrom 1 = .ok (.getfield 14, 3) := by decide +kernel
theorem dX9_reachFrom_4 : decode cX9_reachFrom 4 = .ok (.iload_n 1, 1) := by decide +kernel
theorem dX9_reachFrom_5 : decode cX9_reachFrom 5 = .ok (.invokevirtual 71, 3) := by decide +kernel
theorem dX9_reachFrom_8 : decode cX9_reachFrom 8 = .ok (.invokestatic 186, 3) := by decide +kernel
theorem dX9_reachFrom_11 : decode cX9_reachFrom 11 = .ok (.ifCond .eq 17, 3) := by decide +kernel
theorem dX9_reachFrom_14 : decode cX9_reachFrom 14 = .ok (.aload_n 0, 1) := by decide +kernel
theorem dX9_reachFrom_15 : decode cX9_reachFrom 15 = .ok (.iload_n 1, 1) := by decide +kernel
theorem dX9_reachFrom_16 : decode cX9_reachFrom 16 = .ok (.iconst 1, 1) := by decide +kernel
theorem dX9_reachFrom_17 : decode cX9_reachFrom 17 = .ok (.iadd, 1) := by decide +kernel
theorem dX9_reachFrom_18 : decode cX9_reachFrom 18 = .ok (.invokevirtual 191, 3) := by decide +kernel
theorem dX9_reachFrom_21 : decode cX9_reachFrom 21 = .ok (.ifCond .eq 7, 3) := by decide +kernel
theorem dX9_reachFrom_24 : decode cX9_reachFrom 24 = .ok (.iconst 1, 1) := by decide +kernel
theorem dX9_reachFrom_25 : decode cX9_reachFrom 25 = .ok (.goto 4, 3) := by decide +kernel
theorem dX9_reachFrom_28 : decode cX9_reachFrom 28 = .ok (.iconst 0, 1) := by decide +kernel
theorem dX9_reachFrom_29 : decode cX9_reachFrom 29 = .ok (.istore_n 2, 1) := by decide +kernel
theorem dX9_reachFrom_30 : decode cX9_reachFrom 30 = .ok (.aload_n 0, 1) := by decide +kernel
theorem dX9_reachFrom_31 : decode cX9_reachFrom 31 = .ok (.getfield 14, 3) := by decide +kernel
theorem dX9_reachFrom_34 : decode cX9_reachFrom 34 = .ok (.iload_n 1, 1) := by decide +kernel
theorem dX9_reachFrom_35 : decode cX9_reachFrom 35 = .ok (.invokevirtual 94, 3) := by decide +kernel
theorem dX9_reachFrom_38 : decode cX9_reachFrom 38 = .ok (.istore_n 3, 1) := by decide +kernel
theorem dX9_reachFrom_39 : decode cX9_reachFrom 39 = .ok (.iconst 0, 1) := by decide +kernel
theorem dX9_reachFrom_40 : decode cX9_reachFrom 40 = .ok (.istore 4, 2) := by decide +kernel
theorem dX9_reachFrom_42 : decode cX9_reachFrom 42 = .ok (.iload 4, 2) := by decide +kernel
theorem dX9_reachFrom_44 : decode cX9_reachFrom 44 = .ok (.iload_n 3, 1) := by decide +kernel
theorem dX9_reachFrom_45 : decode cX9_reachFrom 45 = .ok (.if_icmp .ge 26, 3) := by decide +kernel
theorem dX9_reachFrom_48 : decode cX9_reachFrom 48 = .ok (.iload_n 2, 1) := by decide +kernel
theorem dX9_reachFrom_49 : decode cX9_reachFrom 49 = .ok (.aload_n 0, 1) := by decide +kernel
theorem dX9_reachFrom_50 : decode cX9_reachFrom 50 = .ok (.aload_n 0, 1) := by decide +kernel
theorem dX9_reachFrom_51 : decode cX9_reachFrom 51 = .ok (.getfield 14, 3) := by decide +kernel
theorem dX9_reachFrom_54 : decode cX9_reachFrom 54 = .ok (.iload_n 1, 1) := by decide +kernel
theorem dX9_reachFrom_55 : decode cX9_reachFrom 55 = .ok (.iload 4, 2) := by decide +kernel
theorem dX9_reachFrom_57 : decode cX9_reachFrom 57 = .ok (.invokevirtual 97, 3) := by decide +kernel
theorem dX9_reachFrom_60 : decode cX9_reachFrom 60 = .ok (.invokevirtual 191, 3) := by decide +kernel
theorem dX9_reachFrom_63 : decode cX9_reachFrom 63 = .ok (.ior, 1) := by decide +kernel
theorem dX9_reachFrom_64 : decode cX9_reachFrom 64 = .ok (.istore_n 2, 1) := by decide +kernel
theorem dX9_reachFrom_65 : decode cX9_reachFrom 65 = .ok (.iinc 4 1, 3) := by decide +kernel
theorem dX9_reachFrom_68 : decode cX9_reachFrom 68 = .ok (.goto (-26), 3) := by decide +kernel
theorem dX9_reachFrom_71 : decode cX9_reachFrom 71 = .ok (.iconst 0, 1) := by decide +kernel
theorem dX9_reachFrom_72 : decode cX9_reachFrom 72 = .ok (.istore 4, 2) := by decide +kernel
theorem dX9_reachFrom_74 : decode cX9_reachFrom 74 = .ok (.iload 4, 2) := by decide +kernel
theorem dX9_reachFrom_76 : decode cX9_reachFrom 76 = .ok (.aload_n 0, 1) := by decide +kernel
theorem dX9_reachFrom_77 : decode cX9_reachFrom 77 = .ok (.getfield 14, 3) := by decide +kernel
theorem dX9_reachFrom_80 : decode cX9_reachFrom 80 = .ok (.getfield 106, 3) := by decide +kernel
theorem dX9_reachFrom_83 : decode cX9_reachFrom 83 = .ok (.if_icmp .ge 47, 3) := by decide +kernel
theorem dX9_reachFrom_86 : decode cX9_reachFrom 86 = .ok (.iload_n 2, 1) := by decide +kernel
theorem dX9_reachFrom_87 : decode cX9_reachFrom 87 = .ok (.aload_n 0, 1) := by decide +kernel
theorem dX9_reachFrom_88 : decode cX9_reachFrom 88 = .ok (.getfield 14, 3) := by decide +kernel
theorem dX9_reachFrom_91 : decode cX9_reachFrom 91 = .ok (.iload 4, 2) := by decide +kernel
theorem dX9_reachFrom_93 : decode cX9_reachFrom 93 = .ok (.iload_n 1, 1) := by decide +kernel
theorem dX9_reachFrom_94 : decode cX9_reachFrom 94 = .ok (.invokevirtual 194, 3) := by decide +kernel
theorem dX9_reachFrom_97 : decode cX9_reachFrom 97 = .ok (.ifCond .eq 24, 3) := by decide +kernel
theorem dX9_reachFrom_100 : decode cX9_reachFrom 100 = .ok (.aload_n 0, 1) := by decide +kernel
theorem dX9_reachFrom_101 : decode cX9_reachFrom 101 = .ok (.aload_n 0, 1) := by decide +kernel
theorem dX9_reachFrom_102 : decode cX9_reachFrom 102 = .ok (.getfield 14, 3) := by decide +kernel
theorem dX9_reachFrom_105 : decode cX9_reachFrom 105 = .ok (.getfield 115, 3) := by decide +kernel
theorem dX9_reachFrom_108 : decode cX9_reachFrom 108 = .ok (.iload 4, 2) := by decide +kernel
theorem dX9_reachFrom_110 : decode cX9_reachFrom 110 = .ok (.iaload, 1) := by decide +kernel
theorem dX9_reachFrom_111 : decode cX9_reachFrom 111 = .ok (.invokevirtual 191, 3) := by decide +kernel
theorem dX9_reachFrom_114 : decode cX9_reachFrom 114 = .ok (.ifCond .eq 7, 3) := by decide +kernel
theorem dX9_reachFrom_117 : decode cX9_reachFrom 117 = .ok (.iconst 1, 1) := by decide +kernel
theorem dX9_reachFrom_118 : decode cX9_reachFrom 118 = .ok (.goto 4, 3) := by decide +kernel
theorem dX9_reachFrom_121 : decode cX9_reachFrom 121 = .ok (.iconst 0, 1) := by decide +kernel
theorem dX9_reachFrom_122 : decode cX9_reachFrom 122 = .ok (.ior, 1) := by decide +kernel
theorem dX9_reachFrom_123 : decode cX9_reachFrom 123 = .ok (.istore_n 2, 1) := by decide +kernel
theorem dX9_reachFrom_124 : decode cX9_reachFrom 124 = .ok (.iinc 4 1, 3) := by decide +kernel
theorem dX9_reachFrom_127 : decode cX9_reachFrom 127 = .ok (.goto (-53), 3) := by decide +kernel
theorem dX9_reachFrom_130 : decode cX9_reachFrom 130 = .ok (.iload_n 2, 1) := by decide +kernel
theorem dX9_reachFrom_131 : decode cX9_reachFrom 131 = .ok (.ireturn, 1) := by decide +kernel

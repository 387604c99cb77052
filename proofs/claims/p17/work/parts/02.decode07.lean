theorem dX11_begin_261 : decode cX11_begin 261 = .ok (.aload_n 0, 1) := by decide +kernel
theorem dX11_begin_262 : decode cX11_begin 262 = .ok (.ldc 117, 2) := by decide +kernel
theorem dX11_begin_264 : decode cX11_begin 264 = .ok (.invokevirtual 79, 3) := by decide +kernel
theorem dX11_begin_267 : decode cX11_begin 267 = .ok (.iastore, 1) := by decide +kernel
theorem dX11_begin_268 : decode cX11_begin 268 = .ok (.aload_n 0, 1) := by decide +kernel
theorem dX11_begin_269 : decode cX11_begin 269 = .ok (.aload_n 0, 1) := by decide +kernel
theorem dX11_begin_270 : decode cX11_begin 270 = .ok (.getfield 31, 3) := by decide +kernel
theorem dX11_begin_273 : decode cX11_begin 273 = .ok (.iload 5, 2) := by decide +kernel
theorem dX11_begin_275 : decode cX11_begin 275 = .ok (.iaload, 1) := by decide +kernel
theorem dX11_begin_276 : decode cX11_begin 276 = .ok (.aload_n 0, 1) := by decide +kernel
theorem dX11_begin_277 : decode cX11_begin 277 = .ok (.getfield 34, 3) := by decide +kernel
theorem dX11_begin_280 : decode cX11_begin 280 = .ok (.iload 5, 2) := by decide +kernel
theorem dX11_begin_282 : decode cX11_begin 282 = .ok (.iaload, 1) := by decide +kernel
theorem dX11_begin_283 : decode cX11_begin 283 = .ok (.iconst 0, 1) := by decide +kernel
theorem dX11_begin_284 : decode cX11_begin 284 = .ok (.invokevirtual 119, 3) := by decide +kernel
theorem dX11_begin_287 : decode cX11_begin 287 = .ok (.iinc 5 1, 3) := by decide +kernel
theorem dX11_begin_290 : decode cX11_begin 290 = .ok (.goto (-135), 3) := by decide +kernel
theorem dX11_begin_293 : decode cX11_begin 293 = .ok (.aload_n 0, 1) := by decide +kernel
theorem dX11_begin_294 : decode cX11_begin 294 = .ok (.getfield 18, 3) := by decide +kernel
theorem dX11_begin_297 : decode cX11_begin 297 = .ok (.aload_n 0, 1) := by decide +kernel
theorem dX11_begin_298 : decode cX11_begin 298 = .ok (.getfield 56, 3) := by decide +kernel
theorem dX11_begin_301 : decode cX11_begin 301 = .ok (.getfield 123, 3) := by decide +kernel
theorem dX11_begin_304 : decode cX11_begin 304 = .ok (.invokevirtual 105, 3) := by decide +kernel
theorem dX11_begin_307 : decode cX11_begin 307 = .ok (.return_, 1) := by decide +kernel
theorem dX11_classOf_0 : decode cX11_classOf 0 = .ok (.iload_n 1, 1) := by decide +kernel
theorem dX11_classOf_1 : decode cX11_classOf 1 = .ok (.iconst (-1), 1) := by decide +kernel
theorem dX11_classOf_2 : decode cX11_classOf 2 = .ok (.if_icmp .ne 7, 3) := by decide +kernel
theorem dX11_classOf_5 : decode cX11_classOf 5 = .ok (.iconst 0, 1) := by decide +kernel
theorem dX11_classOf_6 : decode cX11_classOf 6 = .ok (.goto 17, 3) := by decide +kernel
theorem dX11_classOf_9 : decode cX11_classOf 9 = .ok (.aload_n 0, 1) := by decide +kernel
theorem dX11_classOf_10 : decode cX11_classOf 10 = .ok (.bipush 7, 2) := by decide +kernel
theorem dX11_classOf_12 : decode cX11_classOf 12 = .ok (.aload_n 0, 1) := by decide +kernel
theorem dX11_classOf_13 : decode cX11_classOf 13 = .ok (.iload_n 1, 1) := by decide +kernel
theorem dX11_classOf_14 : decode cX11_classOf 14 = .ok (.invokestatic 228, 3) := by decide +kernel
theorem dX11_classOf_17 : decode cX11_classOf 17 = .ok (.invokevirtual 79, 3) := by decide +kernel
theorem dX11_classOf_20 : decode cX11_classOf 20 = .ok (.invokevirtual 95, 3) := by decide +kernel
theorem dX11_classOf_23 : decode cX11_classOf 23 = .ok (.ireturn, 1) := by decide +kernel
theorem dX11_counterEntry_0 : decode cX11_counterEntry 0 = .ok (.aload_n 0, 1) := by decide +kernel
theorem dX11_counterEntry_1 : decode cX11_counterEntry 1 = .ok (.iconst 1, 1) := by decide +kernel
theorem dX11_counterEntry_2 : decode cX11_counterEntry 2 = .ok (.invokevirtual 147, 3) := by decide +kernel
theorem dX11_counterEntry_5 : decode cX11_counterEntry 5 = .ok (.aload_n 0, 1) := by decide +kernel
theorem dX11_counterEntry_6 : decode cX11_counterEntry 6 = .ok (.getfield 21, 3) := by decide +kernel
theorem dX11_counterEntry_9 : decode cX11_counterEntry 9 = .ok (.iload_n 1, 1) := by decide +kernel
theorem dX11_counterEntry_10 : decode cX11_counterEntry 10 = .ok (.bipush 10, 2) := by decide +kernel
theorem dX11_counterEntry_12 : decode cX11_counterEntry 12 = .ok (.if_icmp .ge 7, 3) := by decide +kernel
theorem dX11_counterEntry_15 : decode cX11_counterEntry 15 = .ok (.iconst 2, 1) := by decide +kernel
theorem dX11_counterEntry_16 : decode cX11_counterEntry 16 = .ok (.goto 4, 3) := by decide +kernel
theorem dX11_counterEntry_19 : decode cX11_counterEntry 19 = .ok (.iconst 3, 1) := by decide +kernel
theorem dX11_counterEntry_20 : decode cX11_counterEntry 20 = .ok (.invokevirtual 105, 3) := by decide +kernel
theorem dX11_counterEntry_23 : decode cX11_counterEntry 23 = .ok (.aload_n 0, 1) := by decide +kernel
theorem dX11_counterEntry_24 : decode cX11_counterEntry 24 = .ok (.getfield 21, 3) := by decide +kernel
theorem dX11_counterEntry_27 : decode cX11_counterEntry 27 = .ok (.bipush 99, 2) := by decide +kernel
theorem dX11_counterEntry_29 : decode cX11_counterEntry 29 = .ok (.invokevirtual 129, 3) := by decide +kernel
theorem dX11_counterEntry_32 : decode cX11_counterEntry 32 = .ok (.iload_n 1, 1) := by decide +kernel
theorem dX11_counterEntry_33 : decode cX11_counterEntry 33 = .ok (.bipush 10, 2) := by decide +kernel
theorem dX11_counterEntry_35 : decode cX11_counterEntry 35 = .ok (.if_icmp .lt 17, 3) := by decide +kernel
theorem dX11_counterEntry_38 : decode cX11_counterEntry 38 = .ok (.aload_n 0, 1) := by decide +kernel
theorem dX11_counterEntry_39 : decode cX11_counterEntry 39 = .ok (.getfield 21, 3) := by decide +kernel
theorem dX11_counterEntry_42 : decode cX11_counterEntry 42 = .ok (.bipush 48, 2) := by decide +kernel
theorem dX11_counterEntry_44 : decode cX11_counterEntry 44 = .ok (.iload_n 1, 1) := by decide +kernel
theorem dX11_counterEntry_45 : decode cX11_counterEntry 45 = .ok (.bipush 10, 2) := by decide +kernel
theorem dX11_counterEntry_47 : decode cX11_counterEntry 47 = .ok (.idiv, 1) := by decide +kernel
theorem dX11_counterEntry_48 : decode cX11_counterEntry 48 = .ok (.iadd, 1) := by decide +kernel
theorem dX11_counterEntry_49 : decode cX11_counterEntry 49 = .ok (.invokevirtual 129, 3) := by decide +kernel
theorem dX11_counterEntry_52 : decode cX11_counterEntry 52 = .ok (.aload_n 0, 1) := by decide +kernel
theorem dX11_counterEntry_53 : decode cX11_counterEntry 53 = .ok (.getfield 21, 3) := by decide +kernel
theorem dX11_counterEntry_56 : decode cX11_counterEntry 56 = .ok (.bipush 48, 2) := by decide +kernel
theorem dX11_counterEntry_58 : decode cX11_counterEntry 58 = .ok (.iload_n 1, 1) := by decide +kernel
theorem dX11_counterEntry_59 : decode cX11_counterEntry 59 = .ok (.bipush 10, 2) := by decide +kernel
theorem dX11_counterEntry_61 : decode cX11_counterEntry 61 = .ok (.irem, 1) := by decide +kernel
theorem dX11_counterEntry_62 : decode cX11_counterEntry 62 = .ok (.iadd, 1) := by decide +kernel
theorem dX11_counterEntry_63 : decode cX11_counterEntry 63 = .ok (.invokevirtual 129, 3) := by decide +kernel
theorem dX11_counterEntry_66 : decode cX11_counterEntry 66 = .ok (.aload_n 0, 1) := by decide +kernel
theorem dX11_counterEntry_67 : decode cX11_counterEntry 67 = .ok (.invokevirtual 160, 3) := by decide +kernel
theorem dX11_counterEntry_70 : decode cX11_counterEntry 70 = .ok (.ireturn, 1) := by decide +kernel
theorem dX11_entryOfWanted_0 : decode cX11_entryOfWanted 0 = .ok (.iconst 1, 1) := by decide +kernel
theorem dX11_entryOfWanted_1 : decode cX11_entryOfWanted 1 = .ok (.istore_n 1, 1) := by decide +kernel
theorem dX11_entryOfWanted_2 : decode cX11_entryOfWanted 2 = .ok (.iload_n 1, 1) := by decide +kernel
theorem dX11_entryOfWanted_3 : decode cX11_entryOfWanted 3 = .ok (.aload_n 0, 1) := by decide +kernel
theorem dX11_entryOfWanted_4 : decode cX11_entryOfWanted 4 = .ok (.getfield 64, 3) := by decide +kernel
theorem dX11_entryOfWanted_7 : decode cX11_entryOfWanted 7 = .ok (.if_icmp .ge 28, 3) := by decide +kernel
theorem dX11_entryOfWanted_10 : decode cX11_entryOfWanted 10 = .ok (.iload_n 1, 1) := by decide +kernel
theorem dX11_entryOfWanted_11 : decode cX11_entryOfWanted 11 = .ok (.aload_n 0, 1) := by decide +kernel
theorem dX11_entryOfWanted_12 : decode cX11_entryOfWanted 12 = .ok (.getfield 24, 3) := by decide +kernel
theorem dX11_entryOfWanted_15 : decode cX11_entryOfWanted 15 = .ok (.arraylength, 1) := by decide +kernel
theorem dX11_entryOfWanted_16 : decode cX11_entryOfWanted 16 = .ok (.if_icmp .ge 19, 3) := by decide +kernel
theorem dX11_entryOfWanted_19 : decode cX11_entryOfWanted 19 = .ok (.aload_n 0, 1) := by decide +kernel
theorem dX11_entryOfWanted_20 : decode cX11_entryOfWanted 20 = .ok (.iload_n 1, 1) := by decide +kernel
theorem dX11_entryOfWanted_21 : decode cX11_entryOfWanted 21 = .ok (.invokevirtual 136, 3) := by decide +kernel
theorem dX11_entryOfWanted_24 : decode cX11_entryOfWanted 24 = .ok (.ifCond .eq 5, 3) := by decide +kernel
theorem dX11_entryOfWanted_27 : decode cX11_entryOfWanted 27 = .ok (.iload_n 1, 1) := by decide +kernel
theorem dX11_entryOfWanted_28 : decode cX11_entryOfWanted 28 = .ok (.ireturn, 1) := by decide +kernel
theorem dX11_entryOfWanted_29 : decode cX11_entryOfWanted 29 = .ok (.iinc 1 1, 3) := by decide +kernel
theorem dX11_entryOfWanted_32 : decode cX11_entryOfWanted 32 = .ok (.goto (-30), 3) := by decide +kernel
theorem dX11_entryOfWanted_35 : decode cX11_entryOfWanted 35 = .ok (.aload_n 0, 1) := by decide +kernel
theorem dX11_entryOfWanted_36 : decode cX11_entryOfWanted 36 = .ok (.getfield 21, 3) := by decide +kernel
theorem dX11_entryOfWanted_39 : decode cX11_entryOfWanted 39 = .ok (.iconst 0, 1) := by decide +kernel
theorem dX11_entryOfWanted_40 : decode cX11_entryOfWanted 40 = .ok (.invokevirtual 140, 3) := by decide +kernel
theorem dX11_entryOfWanted_43 : decode cX11_entryOfWanted 43 = .ok (.iconst 5, 1) := by decide +kernel
theorem dX11_entryOfWanted_44 : decode cX11_entryOfWanted 44 = .ok (.if_icmp .ne 7, 3) := by decide +kernel
theorem dX11_entryOfWanted_47 : decode cX11_entryOfWanted 47 = .ok (.iconst 2, 1) := by decide +kernel
theorem dX11_entryOfWanted_48 : decode cX11_entryOfWanted 48 = .ok (.goto 4, 3) := by decide +kernel
theorem dX11_entryOfWanted_51 : decode cX11_entryOfWanted 51 = .ok (.iconst 1, 1) := by decide +kernel
theorem dX11_entryOfWanted_52 : decode cX11_entryOfWanted 52 = .ok (.istore_n 1, 1) := by decide +kernel
theorem dX11_entryOfWanted_53 : decode cX11_entryOfWanted 53 = .ok (.aload_n 0, 1) := by decide +kernel
theorem dX11_entryOfWanted_54 : decode cX11_entryOfWanted 54 = .ok (.getfield 64, 3) := by decide +kernel
theorem dX11_entryOfWanted_57 : decode cX11_entryOfWanted 57 = .ok (.iload_n 1, 1) := by decide +kernel
theorem dX11_entryOfWanted_58 : decode cX11_entryOfWanted 58 = .ok (.iadd, 1) := by decide +kernel
theorem dX11_entryOfWanted_59 : decode cX11_entryOfWanted 59 = .ok (.sipush 500, 3) := by decide +kernel
theorem dX11_entryOfWanted_62 : decode cX11_entryOfWanted 62 = .ok (.if_icmp .le 10, 3) := by decide +kernel
theorem dX11_entryOfWanted_65 : decode cX11_entryOfWanted 65 = .ok (.aload_n 0, 1) := by decide +kernel
theorem dX11_entryOfWanted_66 : decode cX11_entryOfWanted 66 = .ok (.iconst 1, 1) := by decide +kernel
theorem dX11_entryOfWanted_67 : decode cX11_entryOfWanted 67 = .ok (.putfield 67, 3) := by decide +kernel
theorem dX11_entryOfWanted_70 : decode cX11_entryOfWanted 70 = .ok (.iconst 0, 1) := by decide +kernel
theorem dX11_entryOfWanted_71 : decode cX11_entryOfWanted 71 = .ok (.ireturn, 1) := by decide +kernel
theorem dX11_entryOfWanted_72 : decode cX11_entryOfWanted 72 = .ok (.aload_n 0, 1) := by decide +kernel
theorem dX11_entryOfWanted_73 : decode cX11_entryOfWanted 73 = .ok (.getfield 24, 3) := by decide +kernel
theorem dX11_entryOfWanted_76 : decode cX11_entryOfWanted 76 = .ok (.aload_n 0, 1) := by decide +kernel
theorem dX11_entryOfWanted_77 : decode cX11_entryOfWanted 77 = .ok (.getfield 64, 3) := by decide +kernel
theorem dX11_entryOfWanted_80 : decode cX11_entryOfWanted 80 = .ok (.aload_n 0, 1) := by decide +kernel
theorem dX11_entryOfWanted_81 : decode cX11_entryOfWanted 81 = .ok (.getfield 12, 3) := by decide +kernel
theorem dX11_entryOfWanted_84 : decode cX11_entryOfWanted 84 = .ok (.getfield 60, 3) := by decide +kernel
theorem dX11_entryOfWanted_87 : decode cX11_entryOfWanted 87 = .ok (.iastore, 1) := by decide +kernel
theorem dX11_entryOfWanted_88 : decode cX11_entryOfWanted 88 = .ok (.aload_n 0, 1) := by decide +kernel
theorem dX11_entryOfWanted_89 : decode cX11_entryOfWanted 89 = .ok (.getfield 12, 3) := by decide +kernel
theorem dX11_entryOfWanted_92 : decode cX11_entryOfWanted 92 = .ok (.aload_n 0, 1) := by decide +kernel
theorem dX11_entryOfWanted_93 : decode cX11_entryOfWanted 93 = .ok (.getfield 21, 3) := by decide +kernel
theorem dX11_entryOfWanted_96 : decode cX11_entryOfWanted 96 = .ok (.invokevirtual 132, 3) := by decide +kernel
theorem dX11_entryOfWanted_99 : decode cX11_entryOfWanted 99 = .ok (.aload_n 0, 1) := by decide +kernel
theorem dX11_entryOfWanted_100 : decode cX11_entryOfWanted 100 = .ok (.getfield 28, 3) := by decide +kernel
theorem dX11_entryOfWanted_103 : decode cX11_entryOfWanted 103 = .ok (.aload_n 0, 1) := by decide +kernel
theorem dX11_entryOfWanted_104 : decode cX11_entryOfWanted 104 = .ok (.getfield 64, 3) := by decide +kernel
theorem dX11_entryOfWanted_107 : decode cX11_entryOfWanted 107 = .ok (.aload_n 0, 1) := by decide +kernel
theorem dX11_entryOfWanted_108 : decode cX11_entryOfWanted 108 = .ok (.getfield 12, 3) := by decide +kernel
theorem dX11_entryOfWanted_111 : decode cX11_entryOfWanted 111 = .ok (.getfield 60, 3) := by decide +kernel
theorem dX11_entryOfWanted_114 : decode cX11_entryOfWanted 114 = .ok (.iastore, 1) := by decide +kernel
theorem dX11_entryOfWanted_115 : decode cX11_entryOfWanted 115 = .ok (.aload_n 0, 1) := by decide +kernel
theorem dX11_entryOfWanted_116 : decode cX11_entryOfWanted 116 = .ok (.dup, 1) := by decide +kernel
theorem dX11_entryOfWanted_117 : decode cX11_entryOfWanted 117 = .ok (.getfield 64, 3) := by decide +kernel
theorem dX11_entryOfWanted_120 : decode cX11_entryOfWanted 120 = .ok (.iload_n 1, 1) := by decide +kernel
theorem dX11_entryOfWanted_121 : decode cX11_entryOfWanted 121 = .ok (.iadd, 1) := by decide +kernel
theorem dX11_entryOfWanted_122 : decode cX11_entryOfWanted 122 = .ok (.putfield 64, 3) := by decide +kernel
theorem dX11_entryOfWanted_125 : decode cX11_entryOfWanted 125 = .ok (.iload_n 1, 1) := by decide +kernel
theorem dX11_entryOfWanted_126 : decode cX11_entryOfWanted 126 = .ok (.iconst 2, 1) := by decide +kernel
theorem dX11_entryOfWanted_127 : decode cX11_entryOfWanted 127 = .ok (.if_icmp .ne 39, 3) := by decide +kernel
theorem dX11_entryOfWanted_130 : decode cX11_entryOfWanted 130 = .ok (.aload_n 0, 1) := by decide +kernel
theorem dX11_entryOfWanted_131 : decode cX11_entryOfWanted 131 = .ok (.getfield 24, 3) := by decide +kernel
theorem dX11_entryOfWanted_134 : decode cX11_entryOfWanted 134 = .ok (.aload_n 0, 1) := by decide +kernel
theorem dX11_entryOfWanted_135 : decode cX11_entryOfWanted 135 = .ok (.getfield 64, 3) := by decide +kernel
theorem dX11_entryOfWanted_138 : decode cX11_entryOfWanted 138 = .ok (.iconst 1, 1) := by decide +kernel

theorem dX3_addLoop_82 : decode cX3_addLoop 82 = .ok (.goto (-56), 3) := by decide +kernel
theorem dX3_addLoop_85 : decode cX3_addLoop 85 = .ok (.iconst 0, 1) := by decide +kernel
theorem dX3_addLoop_86 : decode cX3_addLoop 86 = .ok (.istore_n 3, 1) := by decide +kernel
theorem dX3_addLoop_87 : decode cX3_addLoop 87 = .ok (.iload_n 2, 1) := by decide +kernel
theorem dX3_addLoop_88 : decode cX3_addLoop 88 = .ok (.ifCond .le 71, 3) := by decide +kernel
theorem dX3_addLoop_91 : decode cX3_addLoop 91 = .ok (.iload_n 3, 1) := by decide +kernel
theorem dX3_addLoop_92 : decode cX3_addLoop 92 = .ok (.aload_n 0, 1) := by decide +kernel
theorem dX3_addLoop_93 : decode cX3_addLoop 93 = .ok (.getfield 78, 3) := by decide +kernel
theorem dX3_addLoop_96 : decode cX3_addLoop 96 = .ok (.if_icmp .ge 63, 3) := by decide +kernel
theorem dX3_addLoop_99 : decode cX3_addLoop 99 = .ok (.iinc 2 (-1), 3) := by decide +kernel
theorem dX3_addLoop_102 : decode cX3_addLoop 102 = .ok (.aload_n 0, 1) := by decide +kernel
theorem dX3_addLoop_103 : decode cX3_addLoop 103 = .ok (.getfield 50, 3) := by decide +kernel
theorem dX3_addLoop_106 : decode cX3_addLoop 106 = .ok (.iload_n 2, 1) := by decide +kernel
theorem dX3_addLoop_107 : decode cX3_addLoop 107 = .ok (.iaload, 1) := by decide +kernel
theorem dX3_addLoop_108 : decode cX3_addLoop 108 = .ok (.istore 4, 2) := by decide +kernel
theorem dX3_addLoop_110 : decode cX3_addLoop 110 = .ok (.aload_n 0, 1) := by decide +kernel
theorem dX3_addLoop_111 : decode cX3_addLoop 111 = .ok (.getfield 24, 3) := by decide +kernel
theorem dX3_addLoop_114 : decode cX3_addLoop 114 = .ok (.iload 4, 2) := by decide +kernel
theorem dX3_addLoop_116 : decode cX3_addLoop 116 = .ok (.iaload, 1) := by decide +kernel
theorem dX3_addLoop_117 : decode cX3_addLoop 117 = .ok (.istore 5, 2) := by decide +kernel
theorem dX3_addLoop_119 : decode cX3_addLoop 119 = .ok (.iload 5, 2) := by decide +kernel
theorem dX3_addLoop_121 : decode cX3_addLoop 121 = .ok (.aload_n 0, 1) := by decide +kernel
theorem dX3_addLoop_122 : decode cX3_addLoop 122 = .ok (.getfield 24, 3) := by decide +kernel
theorem dX3_addLoop_125 : decode cX3_addLoop 125 = .ok (.iload 4, 2) := by decide +kernel
theorem dX3_addLoop_127 : decode cX3_addLoop 127 = .ok (.iconst 1, 1) := by decide +kernel
theorem dX3_addLoop_128 : decode cX3_addLoop 128 = .ok (.iadd, 1) := by decide +kernel
theorem dX3_addLoop_129 : decode cX3_addLoop 129 = .ok (.iaload, 1) := by decide +kernel
theorem dX3_addLoop_130 : decode cX3_addLoop 130 = .ok (.if_icmp .ge 23, 3) := by decide +kernel
theorem dX3_addLoop_133 : decode cX3_addLoop 133 = .ok (.aload_n 0, 1) := by decide +kernel
theorem dX3_addLoop_134 : decode cX3_addLoop 134 = .ok (.iload_n 1, 1) := by decide +kernel
theorem dX3_addLoop_135 : decode cX3_addLoop 135 = .ok (.aload_n 0, 1) := by decide +kernel
theorem dX3_addLoop_136 : decode cX3_addLoop 136 = .ok (.getfield 27, 3) := by decide +kernel
theorem dX3_addLoop_139 : decode cX3_addLoop 139 = .ok (.iload 5, 2) := by decide +kernel
theorem dX3_addLoop_141 : decode cX3_addLoop 141 = .ok (.iaload, 1) := by decide +kernel
theorem dX3_addLoop_142 : decode cX3_addLoop 142 = .ok (.iload_n 2, 1) := by decide +kernel
theorem dX3_addLoop_143 : decode cX3_addLoop 143 = .ok (.invokevirtual 175, 3) := by decide +kernel
theorem dX3_addLoop_146 : decode cX3_addLoop 146 = .ok (.istore_n 2, 1) := by decide +kernel
theorem dX3_addLoop_147 : decode cX3_addLoop 147 = .ok (.iinc 5 1, 3) := by decide +kernel
theorem dX3_addLoop_150 : decode cX3_addLoop 150 = .ok (.goto (-31), 3) := by decide +kernel
theorem dX3_addLoop_153 : decode cX3_addLoop 153 = .ok (.iinc 3 1, 3) := by decide +kernel
theorem dX3_addLoop_156 : decode cX3_addLoop 156 = .ok (.goto (-69), 3) := by decide +kernel
theorem dX3_addLoop_159 : decode cX3_addLoop 159 = .ok (.return_, 1) := by decide +kernel
theorem dX3_addToLoop_0 : decode cX3_addToLoop 0 = .ok (.aload_n 0, 1) := by decide +kernel
theorem dX3_addToLoop_1 : decode cX3_addToLoop 1 = .ok (.getfield 30, 3) := by decide +kernel
theorem dX3_addToLoop_4 : decode cX3_addToLoop 4 = .ok (.iload_n 2, 1) := by decide +kernel
theorem dX3_addToLoop_5 : decode cX3_addToLoop 5 = .ok (.baload, 1) := by decide +kernel
theorem dX3_addToLoop_6 : decode cX3_addToLoop 6 = .ok (.ifCond .eq 22, 3) := by decide +kernel
theorem dX3_addToLoop_9 : decode cX3_addToLoop 9 = .ok (.aload_n 0, 1) := by decide +kernel
theorem dX3_addToLoop_10 : decode cX3_addToLoop 10 = .ok (.getfield 47, 3) := by decide +kernel
theorem dX3_addToLoop_13 : decode cX3_addToLoop 13 = .ok (.iload_n 2, 1) := by decide +kernel
theorem dX3_addToLoop_14 : decode cX3_addToLoop 14 = .ok (.iaload, 1) := by decide +kernel
theorem dX3_addToLoop_15 : decode cX3_addToLoop 15 = .ok (.iload_n 1, 1) := by decide +kernel
theorem dX3_addToLoop_16 : decode cX3_addToLoop 16 = .ok (.if_icmp .eq 12, 3) := by decide +kernel
theorem dX3_addToLoop_19 : decode cX3_addToLoop 19 = .ok (.iload_n 3, 1) := by decide +kernel
theorem dX3_addToLoop_20 : decode cX3_addToLoop 20 = .ok (.aload_n 0, 1) := by decide +kernel
theorem dX3_addToLoop_21 : decode cX3_addToLoop 21 = .ok (.getfield 50, 3) := by decide +kernel
theorem dX3_addToLoop_24 : decode cX3_addToLoop 24 = .ok (.arraylength, 1) := by decide +kernel
theorem dX3_addToLoop_25 : decode cX3_addToLoop 25 = .ok (.if_icmp .lt 5, 3) := by decide +kernel
theorem dX3_addToLoop_28 : decode cX3_addToLoop 28 = .ok (.iload_n 3, 1) := by decide +kernel
theorem dX3_addToLoop_29 : decode cX3_addToLoop 29 = .ok (.ireturn, 1) := by decide +kernel
theorem dX3_addToLoop_30 : decode cX3_addToLoop 30 = .ok (.aload_n 0, 1) := by decide +kernel
theorem dX3_addToLoop_31 : decode cX3_addToLoop 31 = .ok (.getfield 47, 3) := by decide +kernel
theorem dX3_addToLoop_34 : decode cX3_addToLoop 34 = .ok (.iload_n 2, 1) := by decide +kernel
theorem dX3_addToLoop_35 : decode cX3_addToLoop 35 = .ok (.iload_n 1, 1) := by decide +kernel
theorem dX3_addToLoop_36 : decode cX3_addToLoop 36 = .ok (.iastore, 1) := by decide +kernel
theorem dX3_addToLoop_37 : decode cX3_addToLoop 37 = .ok (.aload_n 0, 1) := by decide +kernel
theorem dX3_addToLoop_38 : decode cX3_addToLoop 38 = .ok (.getfield 44, 3) := by decide +kernel
theorem dX3_addToLoop_41 : decode cX3_addToLoop 41 = .ok (.iload_n 2, 1) := by decide +kernel
theorem dX3_addToLoop_42 : decode cX3_addToLoop 42 = .ok (.dup2, 1) := by decide +kernel
theorem dX3_addToLoop_43 : decode cX3_addToLoop 43 = .ok (.iaload, 1) := by decide +kernel
theorem dX3_addToLoop_44 : decode cX3_addToLoop 44 = .ok (.iconst 1, 1) := by decide +kernel
theorem dX3_addToLoop_45 : decode cX3_addToLoop 45 = .ok (.iadd, 1) := by decide +kernel
theorem dX3_addToLoop_46 : decode cX3_addToLoop 46 = .ok (.iastore, 1) := by decide +kernel
theorem dX3_addToLoop_47 : decode cX3_addToLoop 47 = .ok (.aload_n 0, 1) := by decide +kernel
theorem dX3_addToLoop_48 : decode cX3_addToLoop 48 = .ok (.getfield 50, 3) := by decide +kernel
theorem dX3_addToLoop_51 : decode cX3_addToLoop 51 = .ok (.iload_n 3, 1) := by decide +kernel
theorem dX3_addToLoop_52 : decode cX3_addToLoop 52 = .ok (.iload_n 2, 1) := by decide +kernel
theorem dX3_addToLoop_53 : decode cX3_addToLoop 53 = .ok (.iastore, 1) := by decide +kernel
theorem dX3_addToLoop_54 : decode cX3_addToLoop 54 = .ok (.iload_n 3, 1) := by decide +kernel
theorem dX3_addToLoop_55 : decode cX3_addToLoop 55 = .ok (.iconst 1, 1) := by decide +kernel
theorem dX3_addToLoop_56 : decode cX3_addToLoop 56 = .ok (.iadd, 1) := by decide +kernel
theorem dX3_addToLoop_57 : decode cX3_addToLoop 57 = .ok (.ireturn, 1) := by decide +kernel
theorem dX3_begin_0 : decode cX3_begin 0 = .ok (.iload_n 1, 1) := by decide +kernel
theorem dX3_begin_1 : decode cX3_begin 1 = .ok (.ifCond .lt 21, 3) := by decide +kernel
theorem dX3_begin_4 : decode cX3_begin 4 = .ok (.iload_n 1, 1) := by decide +kernel
theorem dX3_begin_5 : decode cX3_begin 5 = .ok (.aload_n 0, 1) := by decide +kernel
theorem dX3_begin_6 : decode cX3_begin 6 = .ok (.getfield 53, 3) := by decide +kernel
theorem dX3_begin_9 : decode cX3_begin 9 = .ok (.getfield 82, 3) := by decide +kernel
theorem dX3_begin_12 : decode cX3_begin 12 = .ok (.if_icmp .ge 10, 3) := by decide +kernel
theorem dX3_begin_15 : decode cX3_begin 15 = .ok (.aload_n 0, 1) := by decide +kernel
theorem dX3_begin_16 : decode cX3_begin 16 = .ok (.getfield 15, 3) := by decide +kernel
theorem dX3_begin_19 : decode cX3_begin 19 = .ok (.iload_n 1, 1) := by decide +kernel
theorem dX3_begin_20 : decode cX3_begin 20 = .ok (.iconst 1, 1) := by decide +kernel
theorem dX3_begin_21 : decode cX3_begin 21 = .ok (.iastore, 1) := by decide +kernel
theorem dX3_begin_22 : decode cX3_begin 22 = .ok (.return_, 1) := by decide +kernel
theorem dX3_blockAt_0 : decode cX3_blockAt 0 = .ok (.iload_n 1, 1) := by decide +kernel
theorem dX3_blockAt_1 : decode cX3_blockAt 1 = .ok (.ifCond .lt 23, 3) := by decide +kernel
theorem dX3_blockAt_4 : decode cX3_blockAt 4 = .ok (.iload_n 1, 1) := by decide +kernel
theorem dX3_blockAt_5 : decode cX3_blockAt 5 = .ok (.aload_n 0, 1) := by decide +kernel
theorem dX3_blockAt_6 : decode cX3_blockAt 6 = .ok (.getfield 15, 3) := by decide +kernel
theorem dX3_blockAt_9 : decode cX3_blockAt 9 = .ok (.arraylength, 1) := by decide +kernel
theorem dX3_blockAt_10 : decode cX3_blockAt 10 = .ok (.if_icmp .ge 14, 3) := by decide +kernel
theorem dX3_blockAt_13 : decode cX3_blockAt 13 = .ok (.iload_n 1, 1) := by decide +kernel
theorem dX3_blockAt_14 : decode cX3_blockAt 14 = .ok (.aload_n 0, 1) := by decide +kernel
theorem dX3_blockAt_15 : decode cX3_blockAt 15 = .ok (.getfield 53, 3) := by decide +kernel
theorem dX3_blockAt_18 : decode cX3_blockAt 18 = .ok (.getfield 82, 3) := by decide +kernel
theorem dX3_blockAt_21 : decode cX3_blockAt 21 = .ok (.if_icmp .lt 5, 3) := by decide +kernel
theorem dX3_blockAt_24 : decode cX3_blockAt 24 = .ok (.iconst (-1), 1) := by decide +kernel
theorem dX3_blockAt_25 : decode cX3_blockAt 25 = .ok (.ireturn, 1) := by decide +kernel
theorem dX3_blockAt_26 : decode cX3_blockAt 26 = .ok (.aload_n 0, 1) := by decide +kernel
theorem dX3_blockAt_27 : decode cX3_blockAt 27 = .ok (.getfield 15, 3) := by decide +kernel
theorem dX3_blockAt_30 : decode cX3_blockAt 30 = .ok (.iload_n 1, 1) := by decide +kernel
theorem dX3_blockAt_31 : decode cX3_blockAt 31 = .ok (.iaload, 1) := by decide +kernel
theorem dX3_blockAt_32 : decode cX3_blockAt 32 = .ok (.istore_n 2, 1) := by decide +kernel
theorem dX3_blockAt_33 : decode cX3_blockAt 33 = .ok (.iload_n 2, 1) := by decide +kernel
theorem dX3_blockAt_34 : decode cX3_blockAt 34 = .ok (.ifCond .lt 25, 3) := by decide +kernel
theorem dX3_blockAt_37 : decode cX3_blockAt 37 = .ok (.iload_n 2, 1) := by decide +kernel
theorem dX3_blockAt_38 : decode cX3_blockAt 38 = .ok (.aload_n 0, 1) := by decide +kernel
theorem dX3_blockAt_39 : decode cX3_blockAt 39 = .ok (.getfield 78, 3) := by decide +kernel
theorem dX3_blockAt_42 : decode cX3_blockAt 42 = .ok (.if_icmp .ge 17, 3) := by decide +kernel
theorem dX3_blockAt_45 : decode cX3_blockAt 45 = .ok (.aload_n 0, 1) := by decide +kernel
theorem dX3_blockAt_46 : decode cX3_blockAt 46 = .ok (.getfield 9, 3) := by decide +kernel
theorem dX3_blockAt_49 : decode cX3_blockAt 49 = .ok (.iload_n 2, 1) := by decide +kernel
theorem dX3_blockAt_50 : decode cX3_blockAt 50 = .ok (.iaload, 1) := by decide +kernel
theorem dX3_blockAt_51 : decode cX3_blockAt 51 = .ok (.iload_n 1, 1) := by decide +kernel
theorem dX3_blockAt_52 : decode cX3_blockAt 52 = .ok (.if_icmp .ne 7, 3) := by decide +kernel
theorem dX3_blockAt_55 : decode cX3_blockAt 55 = .ok (.iload_n 2, 1) := by decide +kernel
theorem dX3_blockAt_56 : decode cX3_blockAt 56 = .ok (.goto 4, 3) := by decide +kernel
theorem dX3_blockAt_59 : decode cX3_blockAt 59 = .ok (.iconst (-1), 1) := by decide +kernel
theorem dX3_blockAt_60 : decode cX3_blockAt 60 = .ok (.ireturn, 1) := by decide +kernel
theorem dX3_dominates_0 : decode cX3_dominates 0 = .ok (.aload_n 0, 1) := by decide +kernel
theorem dX3_dominates_1 : decode cX3_dominates 1 = .ok (.getfield 34, 3) := by decide +kernel
theorem dX3_dominates_4 : decode cX3_dominates 4 = .ok (.iload_n 2, 1) := by decide +kernel
theorem dX3_dominates_5 : decode cX3_dominates 5 = .ok (.aload_n 0, 1) := by decide +kernel
theorem dX3_dominates_6 : decode cX3_dominates 6 = .ok (.getfield 124, 3) := by decide +kernel
theorem dX3_dominates_9 : decode cX3_dominates 9 = .ok (.imul, 1) := by decide +kernel
theorem dX3_dominates_10 : decode cX3_dominates 10 = .ok (.iload_n 1, 1) := by decide +kernel
theorem dX3_dominates_11 : decode cX3_dominates 11 = .ok (.bipush 6, 2) := by decide +kernel
theorem dX3_dominates_13 : decode cX3_dominates 13 = .ok (.ishr, 1) := by decide +kernel
theorem dX3_dominates_14 : decode cX3_dominates 14 = .ok (.iadd, 1) := by decide +kernel
theorem dX3_dominates_15 : decode cX3_dominates 15 = .ok (.laload, 1) := by decide +kernel
theorem dX3_dominates_16 : decode cX3_dominates 16 = .ok (.iload_n 1, 1) := by decide +kernel
theorem dX3_dominates_17 : decode cX3_dominates 17 = .ok (.bipush 63, 2) := by decide +kernel
theorem dX3_dominates_19 : decode cX3_dominates 19 = .ok (.iand, 1) := by decide +kernel
theorem dX3_dominates_20 : decode cX3_dominates 20 = .ok (.lushr, 1) := by decide +kernel
theorem dX3_dominates_21 : decode cX3_dominates 21 = .ok (.lconst 1, 1) := by decide +kernel
theorem dX3_dominates_22 : decode cX3_dominates 22 = .ok (.land, 1) := by decide +kernel
theorem dX3_dominates_23 : decode cX3_dominates 23 = .ok (.lconst 0, 1) := by decide +kernel
theorem dX3_dominates_24 : decode cX3_dominates 24 = .ok (.lcmp, 1) := by decide +kernel
theorem dX3_dominates_25 : decode cX3_dominates 25 = .ok (.ifCond .eq 7, 3) := by decide +kernel

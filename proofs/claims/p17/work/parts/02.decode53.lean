theorem dX5_enter_68 : decode cX5_enter 68 = .ok (.getfield 126, 3) := by decide +kernel
theorem dX5_enter_71 : decode cX5_enter 71 = .ok (.if_icmp .gt 24, 3) := by decide +kernel
theorem dX5_enter_74 : decode cX5_enter 74 = .ok (.iload 4, 2) := by decide +kernel
theorem dX5_enter_76 : decode cX5_enter 76 = .ok (.iload_n 2, 1) := by decide +kernel
theorem dX5_enter_77 : decode cX5_enter 77 = .ok (.iadd, 1) := by decide +kernel
theorem dX5_enter_78 : decode cX5_enter 78 = .ok (.aload_n 0, 1) := by decide +kernel
theorem dX5_enter_79 : decode cX5_enter 79 = .ok (.getfield 25, 3) := by decide +kernel
theorem dX5_enter_82 : decode cX5_enter 82 = .ok (.arraylength, 1) := by decide +kernel
theorem dX5_enter_83 : decode cX5_enter 83 = .ok (.if_icmp .gt 12, 3) := by decide +kernel
theorem dX5_enter_86 : decode cX5_enter 86 = .ok (.aload_n 0, 1) := by decide +kernel
theorem dX5_enter_87 : decode cX5_enter 87 = .ok (.getfield 126, 3) := by decide +kernel
theorem dX5_enter_90 : decode cX5_enter 90 = .ok (.bipush 24, 2) := by decide +kernel
theorem dX5_enter_92 : decode cX5_enter 92 = .ok (.if_icmp .le 24, 3) := by decide +kernel
theorem dX5_enter_95 : decode cX5_enter 95 = .ok (.aload_n 0, 1) := by decide +kernel
theorem dX5_enter_96 : decode cX5_enter 96 = .ok (.dup, 1) := by decide +kernel
theorem dX5_enter_97 : decode cX5_enter 97 = .ok (.getfield 76, 3) := by decide +kernel
theorem dX5_enter_100 : decode cX5_enter 100 = .ok (.iconst 1, 1) := by decide +kernel
theorem dX5_enter_101 : decode cX5_enter 101 = .ok (.iadd, 1) := by decide +kernel
theorem dX5_enter_102 : decode cX5_enter 102 = .ok (.putfield 76, 3) := by decide +kernel
theorem dX5_enter_105 : decode cX5_enter 105 = .ok (.aload_n 0, 1) := by decide +kernel
theorem dX5_enter_106 : decode cX5_enter 106 = .ok (.dup, 1) := by decide +kernel
theorem dX5_enter_107 : decode cX5_enter 107 = .ok (.getfield 123, 3) := by decide +kernel
theorem dX5_enter_110 : decode cX5_enter 110 = .ok (.iconst 1, 1) := by decide +kernel
theorem dX5_enter_111 : decode cX5_enter 111 = .ok (.iadd, 1) := by decide +kernel
theorem dX5_enter_112 : decode cX5_enter 112 = .ok (.putfield 123, 3) := by decide +kernel
theorem dX5_enter_115 : decode cX5_enter 115 = .ok (.return_, 1) := by decide +kernel
theorem dX5_enter_116 : decode cX5_enter 116 = .ok (.aload_n 0, 1) := by decide +kernel
theorem dX5_enter_117 : decode cX5_enter 117 = .ok (.getfield 28, 3) := by decide +kernel
theorem dX5_enter_120 : decode cX5_enter 120 = .ok (.iload_n 3, 1) := by decide +kernel
theorem dX5_enter_121 : decode cX5_enter 121 = .ok (.aload_n 0, 1) := by decide +kernel
theorem dX5_enter_122 : decode cX5_enter 122 = .ok (.getfield 25, 3) := by decide +kernel
theorem dX5_enter_125 : decode cX5_enter 125 = .ok (.iload 4, 2) := by decide +kernel
theorem dX5_enter_127 : decode cX5_enter 127 = .ok (.iload_n 2, 1) := by decide +kernel
theorem dX5_enter_128 : decode cX5_enter 128 = .ok (.invokestatic 270, 3) := by decide +kernel
theorem dX5_enter_131 : decode cX5_enter 131 = .ok (.aload_n 0, 1) := by decide +kernel
theorem dX5_enter_132 : decode cX5_enter 132 = .ok (.iconst 1, 1) := by decide +kernel
theorem dX5_enter_133 : decode cX5_enter 133 = .ok (.aload_n 0, 1) := by decide +kernel
theorem dX5_enter_134 : decode cX5_enter 134 = .ok (.getfield 123, 3) := by decide +kernel
theorem dX5_enter_137 : decode cX5_enter 137 = .ok (.invokevirtual 129, 3) := by decide +kernel
theorem dX5_enter_140 : decode cX5_enter 140 = .ok (.aload_n 0, 1) := by decide +kernel
theorem dX5_enter_141 : decode cX5_enter 141 = .ok (.iconst 2, 1) := by decide +kernel
theorem dX5_enter_142 : decode cX5_enter 142 = .ok (.aload_n 0, 1) := by decide +kernel
theorem dX5_enter_143 : decode cX5_enter 143 = .ok (.getfield 126, 3) := by decide +kernel
theorem dX5_enter_146 : decode cX5_enter 146 = .ok (.iload_n 2, 1) := by decide +kernel
theorem dX5_enter_147 : decode cX5_enter 147 = .ok (.isub, 1) := by decide +kernel
theorem dX5_enter_148 : decode cX5_enter 148 = .ok (.invokevirtual 129, 3) := by decide +kernel
theorem dX5_enter_151 : decode cX5_enter 151 = .ok (.aload_n 0, 1) := by decide +kernel
theorem dX5_enter_152 : decode cX5_enter 152 = .ok (.dup, 1) := by decide +kernel
theorem dX5_enter_153 : decode cX5_enter 153 = .ok (.getfield 106, 3) := by decide +kernel
theorem dX5_enter_156 : decode cX5_enter 156 = .ok (.iconst 1, 1) := by decide +kernel
theorem dX5_enter_157 : decode cX5_enter 157 = .ok (.iadd, 1) := by decide +kernel
theorem dX5_enter_158 : decode cX5_enter 158 = .ok (.putfield 106, 3) := by decide +kernel
theorem dX5_enter_161 : decode cX5_enter 161 = .ok (.aload_n 0, 1) := by decide +kernel
theorem dX5_enter_162 : decode cX5_enter 162 = .ok (.iload_n 1, 1) := by decide +kernel
theorem dX5_enter_163 : decode cX5_enter 163 = .ok (.invokevirtual 109, 3) := by decide +kernel
theorem dX5_enter_166 : decode cX5_enter 166 = .ok (.return_, 1) := by decide +kernel
theorem dX5_fieldAt_0 : decode cX5_fieldAt 0 = .ok (.aload_n 0, 1) := by decide +kernel
theorem dX5_fieldAt_1 : decode cX5_fieldAt 1 = .ok (.getfield 38, 3) := by decide +kernel
theorem dX5_fieldAt_4 : decode cX5_fieldAt 4 = .ok (.ifnull 24, 3) := by decide +kernel
theorem dX5_fieldAt_7 : decode cX5_fieldAt 7 = .ok (.iload_n 1, 1) := by decide +kernel
theorem dX5_fieldAt_8 : decode cX5_fieldAt 8 = .ok (.ifCond .lt 20, 3) := by decide +kernel
theorem dX5_fieldAt_11 : decode cX5_fieldAt 11 = .ok (.iload_n 1, 1) := by decide +kernel
theorem dX5_fieldAt_12 : decode cX5_fieldAt 12 = .ok (.aload_n 0, 1) := by decide +kernel
theorem dX5_fieldAt_13 : decode cX5_fieldAt 13 = .ok (.getfield 38, 3) := by decide +kernel
theorem dX5_fieldAt_16 : decode cX5_fieldAt 16 = .ok (.getfield 57, 3) := by decide +kernel
theorem dX5_fieldAt_19 : decode cX5_fieldAt 19 = .ok (.if_icmp .ge 9, 3) := by decide +kernel
theorem dX5_fieldAt_22 : decode cX5_fieldAt 22 = .ok (.iload_n 1, 1) := by decide +kernel
theorem dX5_fieldAt_23 : decode cX5_fieldAt 23 = .ok (.bipush 24, 2) := by decide +kernel
theorem dX5_fieldAt_25 : decode cX5_fieldAt 25 = .ok (.if_icmp .lt 7, 3) := by decide +kernel
theorem dX5_fieldAt_28 : decode cX5_fieldAt 28 = .ok (.lconst 0, 1) := by decide +kernel
theorem dX5_fieldAt_29 : decode cX5_fieldAt 29 = .ok (.goto 9, 3) := by decide +kernel
theorem dX5_fieldAt_32 : decode cX5_fieldAt 32 = .ok (.aload_n 0, 1) := by decide +kernel
theorem dX5_fieldAt_33 : decode cX5_fieldAt 33 = .ok (.getfield 9, 3) := by decide +kernel
theorem dX5_fieldAt_36 : decode cX5_fieldAt 36 = .ok (.iload_n 1, 1) := by decide +kernel
theorem dX5_fieldAt_37 : decode cX5_fieldAt 37 = .ok (.laload, 1) := by decide +kernel
theorem dX5_fieldAt_38 : decode cX5_fieldAt 38 = .ok (.lreturn, 1) := by decide +kernel
theorem dX5_frameAt_0 : decode cX5_frameAt 0 = .ok (.aload_n 0, 1) := by decide +kernel
theorem dX5_frameAt_1 : decode cX5_frameAt 1 = .ok (.getfield 106, 3) := by decide +kernel
theorem dX5_frameAt_4 : decode cX5_frameAt 4 = .ok (.ifCond .lt 28, 3) := by decide +kernel
theorem dX5_frameAt_7 : decode cX5_frameAt 7 = .ok (.aload_n 0, 1) := by decide +kernel
theorem dX5_frameAt_8 : decode cX5_frameAt 8 = .ok (.getfield 106, 3) := by decide +kernel
theorem dX5_frameAt_11 : decode cX5_frameAt 11 = .ok (.bipush 60, 2) := by decide +kernel
theorem dX5_frameAt_13 : decode cX5_frameAt 13 = .ok (.if_icmp .ge 19, 3) := by decide +kernel
theorem dX5_frameAt_16 : decode cX5_frameAt 16 = .ok (.aload_n 0, 1) := by decide +kernel
theorem dX5_frameAt_17 : decode cX5_frameAt 17 = .ok (.getfield 31, 3) := by decide +kernel
theorem dX5_frameAt_20 : decode cX5_frameAt 20 = .ok (.iconst 3, 1) := by decide +kernel
theorem dX5_frameAt_21 : decode cX5_frameAt 21 = .ok (.aload_n 0, 1) := by decide +kernel
theorem dX5_frameAt_22 : decode cX5_frameAt 22 = .ok (.getfield 106, 3) := by decide +kernel
theorem dX5_frameAt_25 : decode cX5_frameAt 25 = .ok (.imul, 1) := by decide +kernel
theorem dX5_frameAt_26 : decode cX5_frameAt 26 = .ok (.iload_n 1, 1) := by decide +kernel
theorem dX5_frameAt_27 : decode cX5_frameAt 27 = .ok (.iadd, 1) := by decide +kernel
theorem dX5_frameAt_28 : decode cX5_frameAt 28 = .ok (.iaload, 1) := by decide +kernel
theorem dX5_frameAt_29 : decode cX5_frameAt 29 = .ok (.goto 4, 3) := by decide +kernel
theorem dX5_frameAt_32 : decode cX5_frameAt 32 = .ok (.iconst 0, 1) := by decide +kernel
theorem dX5_frameAt_33 : decode cX5_frameAt 33 = .ok (.ireturn, 1) := by decide +kernel
theorem dX5_handlerOf_0 : decode cX5_handlerOf 0 = .ok (.iconst 0, 1) := by decide +kernel
theorem dX5_handlerOf_1 : decode cX5_handlerOf 1 = .ok (.istore_n 2, 1) := by decide +kernel
theorem dX5_handlerOf_2 : decode cX5_handlerOf 2 = .ok (.iload_n 2, 1) := by decide +kernel
theorem dX5_handlerOf_3 : decode cX5_handlerOf 3 = .ok (.aload_n 0, 1) := by decide +kernel
theorem dX5_handlerOf_4 : decode cX5_handlerOf 4 = .ok (.getfield 119, 3) := by decide +kernel
theorem dX5_handlerOf_7 : decode cX5_handlerOf 7 = .ok (.getfield 294, 3) := by decide +kernel
theorem dX5_handlerOf_10 : decode cX5_handlerOf 10 = .ok (.if_icmp .ge 60, 3) := by decide +kernel
theorem dX5_handlerOf_13 : decode cX5_handlerOf 13 = .ok (.aload_n 0, 1) := by decide +kernel
theorem dX5_handlerOf_14 : decode cX5_handlerOf 14 = .ok (.getfield 119, 3) := by decide +kernel
theorem dX5_handlerOf_17 : decode cX5_handlerOf 17 = .ok (.iload_n 2, 1) := by decide +kernel
theorem dX5_handlerOf_18 : decode cX5_handlerOf 18 = .ok (.aload_n 0, 1) := by decide +kernel
theorem dX5_handlerOf_19 : decode cX5_handlerOf 19 = .ok (.getfield 123, 3) := by decide +kernel
theorem dX5_handlerOf_22 : decode cX5_handlerOf 22 = .ok (.invokevirtual 297, 3) := by decide +kernel
theorem dX5_handlerOf_25 : decode cX5_handlerOf 25 = .ok (.ifCond .eq 39, 3) := by decide +kernel
theorem dX5_handlerOf_28 : decode cX5_handlerOf 28 = .ok (.aload_n 0, 1) := by decide +kernel
theorem dX5_handlerOf_29 : decode cX5_handlerOf 29 = .ok (.getfield 119, 3) := by decide +kernel
theorem dX5_handlerOf_32 : decode cX5_handlerOf 32 = .ok (.getfield 301, 3) := by decide +kernel
theorem dX5_handlerOf_35 : decode cX5_handlerOf 35 = .ok (.iload_n 2, 1) := by decide +kernel
theorem dX5_handlerOf_36 : decode cX5_handlerOf 36 = .ok (.iaload, 1) := by decide +kernel
theorem dX5_handlerOf_37 : decode cX5_handlerOf 37 = .ok (.iload_n 1, 1) := by decide +kernel
theorem dX5_handlerOf_38 : decode cX5_handlerOf 38 = .ok (.if_icmp .eq 16, 3) := by decide +kernel
theorem dX5_handlerOf_41 : decode cX5_handlerOf 41 = .ok (.aload_n 0, 1) := by decide +kernel
theorem dX5_handlerOf_42 : decode cX5_handlerOf 42 = .ok (.getfield 119, 3) := by decide +kernel
theorem dX5_handlerOf_45 : decode cX5_handlerOf 45 = .ok (.getfield 301, 3) := by decide +kernel
theorem dX5_handlerOf_48 : decode cX5_handlerOf 48 = .ok (.iload_n 2, 1) := by decide +kernel
theorem dX5_handlerOf_49 : decode cX5_handlerOf 49 = .ok (.iaload, 1) := by decide +kernel
theorem dX5_handlerOf_50 : decode cX5_handlerOf 50 = .ok (.iconst (-1), 1) := by decide +kernel
theorem dX5_handlerOf_51 : decode cX5_handlerOf 51 = .ok (.if_icmp .ne 13, 3) := by decide +kernel
theorem dX5_handlerOf_54 : decode cX5_handlerOf 54 = .ok (.aload_n 0, 1) := by decide +kernel
theorem dX5_handlerOf_55 : decode cX5_handlerOf 55 = .ok (.getfield 119, 3) := by decide +kernel
theorem dX5_handlerOf_58 : decode cX5_handlerOf 58 = .ok (.getfield 304, 3) := by decide +kernel
theorem dX5_handlerOf_61 : decode cX5_handlerOf 61 = .ok (.iload_n 2, 1) := by decide +kernel
theorem dX5_handlerOf_62 : decode cX5_handlerOf 62 = .ok (.iaload, 1) := by decide +kernel
theorem dX5_handlerOf_63 : decode cX5_handlerOf 63 = .ok (.ireturn, 1) := by decide +kernel
theorem dX5_handlerOf_64 : decode cX5_handlerOf 64 = .ok (.iinc 2 1, 3) := by decide +kernel
theorem dX5_handlerOf_67 : decode cX5_handlerOf 67 = .ok (.goto (-65), 3) := by decide +kernel
theorem dX5_handlerOf_70 : decode cX5_handlerOf 70 = .ok (.iconst (-1), 1) := by decide +kernel
theorem dX5_handlerOf_71 : decode cX5_handlerOf 71 = .ok (.ireturn, 1) := by decide +kernel
theorem dX5_heapAt_0 : decode cX5_heapAt 0 = .ok (.iload_n 1, 1) := by decide +kernel
theorem dX5_heapAt_1 : decode cX5_heapAt 1 = .ok (.ifCond .lt 20, 3) := by decide +kernel
theorem dX5_heapAt_4 : decode cX5_heapAt 4 = .ok (.iload_n 1, 1) := by decide +kernel
theorem dX5_heapAt_5 : decode cX5_heapAt 5 = .ok (.aload_n 0, 1) := by decide +kernel
theorem dX5_heapAt_6 : decode cX5_heapAt 6 = .ok (.getfield 48, 3) := by decide +kernel
theorem dX5_heapAt_9 : decode cX5_heapAt 9 = .ok (.if_icmp .ge 12, 3) := by decide +kernel
theorem dX5_heapAt_12 : decode cX5_heapAt 12 = .ok (.iload_n 1, 1) := by decide +kernel
theorem dX5_heapAt_13 : decode cX5_heapAt 13 = .ok (.aload_n 0, 1) := by decide +kernel
theorem dX5_heapAt_14 : decode cX5_heapAt 14 = .ok (.getfield 15, 3) := by decide +kernel
theorem dX5_heapAt_17 : decode cX5_heapAt 17 = .ok (.arraylength, 1) := by decide +kernel
theorem dX5_heapAt_18 : decode cX5_heapAt 18 = .ok (.if_icmp .lt 15, 3) := by decide +kernel
theorem dX5_heapAt_21 : decode cX5_heapAt 21 = .ok (.aload_n 0, 1) := by decide +kernel
theorem dX5_heapAt_22 : decode cX5_heapAt 22 = .ok (.dup, 1) := by decide +kernel
theorem dX5_heapAt_23 : decode cX5_heapAt 23 = .ok (.getfield 76, 3) := by decide +kernel
theorem dX5_heapAt_26 : decode cX5_heapAt 26 = .ok (.iconst 1, 1) := by decide +kernel
theorem dX5_heapAt_27 : decode cX5_heapAt 27 = .ok (.iadd, 1) := by decide +kernel
theorem dX5_heapAt_28 : decode cX5_heapAt 28 = .ok (.putfield 76, 3) := by decide +kernel

theorem dX5_closeFrame_33 : decode cX5_closeFrame 33 = .ok (.invokevirtual 284, 3) := by decide +kernel
theorem dX5_closeFrame_36 : decode cX5_closeFrame 36 = .ok (.putfield 123, 3) := by decide +kernel
theorem dX5_closeFrame_39 : decode cX5_closeFrame 39 = .ok (.aload_n 0, 1) := by decide +kernel
theorem dX5_closeFrame_40 : decode cX5_closeFrame 40 = .ok (.aload_n 0, 1) := by decide +kernel
theorem dX5_closeFrame_41 : decode cX5_closeFrame 41 = .ok (.iconst 2, 1) := by decide +kernel
theorem dX5_closeFrame_42 : decode cX5_closeFrame 42 = .ok (.invokevirtual 284, 3) := by decide +kernel
theorem dX5_closeFrame_45 : decode cX5_closeFrame 45 = .ok (.putfield 126, 3) := by decide +kernel
theorem dX5_closeFrame_48 : decode cX5_closeFrame 48 = .ok (.return_, 1) := by decide +kernel
theorem dX5_elementAt_0 : decode cX5_elementAt 0 = .ok (.iload_n 2, 1) := by decide +kernel
theorem dX5_elementAt_1 : decode cX5_elementAt 1 = .ok (.ifCond .lt 12, 3) := by decide +kernel
theorem dX5_elementAt_4 : decode cX5_elementAt 4 = .ok (.iload_n 2, 1) := by decide +kernel
theorem dX5_elementAt_5 : decode cX5_elementAt 5 = .ok (.aload_n 0, 1) := by decide +kernel
theorem dX5_elementAt_6 : decode cX5_elementAt 6 = .ok (.iload_n 1, 1) := by decide +kernel
theorem dX5_elementAt_7 : decode cX5_elementAt 7 = .ok (.invokevirtual 70, 3) := by decide +kernel
theorem dX5_elementAt_10 : decode cX5_elementAt 10 = .ok (.if_icmp .lt 7, 3) := by decide +kernel
theorem dX5_elementAt_13 : decode cX5_elementAt 13 = .ok (.iconst 0, 1) := by decide +kernel
theorem dX5_elementAt_14 : decode cX5_elementAt 14 = .ok (.goto 14, 3) := by decide +kernel
theorem dX5_elementAt_17 : decode cX5_elementAt 17 = .ok (.aload_n 0, 1) := by decide +kernel
theorem dX5_elementAt_18 : decode cX5_elementAt 18 = .ok (.aload_n 0, 1) := by decide +kernel
theorem dX5_elementAt_19 : decode cX5_elementAt 19 = .ok (.iload_n 1, 1) := by decide +kernel
theorem dX5_elementAt_20 : decode cX5_elementAt 20 = .ok (.invokevirtual 66, 3) := by decide +kernel
theorem dX5_elementAt_23 : decode cX5_elementAt 23 = .ok (.iload_n 2, 1) := by decide +kernel
theorem dX5_elementAt_24 : decode cX5_elementAt 24 = .ok (.iadd, 1) := by decide +kernel
theorem dX5_elementAt_25 : decode cX5_elementAt 25 = .ok (.invokevirtual 73, 3) := by decide +kernel
theorem dX5_elementAt_28 : decode cX5_elementAt 28 = .ok (.ireturn, 1) := by decide +kernel
theorem dX5_enter_0 : decode cX5_enter 0 = .ok (.aload_n 0, 1) := by decide +kernel
theorem dX5_enter_1 : decode cX5_enter 1 = .ok (.getfield 106, 3) := by decide +kernel
theorem dX5_enter_4 : decode cX5_enter 4 = .ok (.iconst 1, 1) := by decide +kernel
theorem dX5_enter_5 : decode cX5_enter 5 = .ok (.iadd, 1) := by decide +kernel
theorem dX5_enter_6 : decode cX5_enter 6 = .ok (.bipush 60, 2) := by decide +kernel
theorem dX5_enter_8 : decode cX5_enter 8 = .ok (.if_icmp .lt 9, 3) := by decide +kernel
theorem dX5_enter_11 : decode cX5_enter 11 = .ok (.aload_n 0, 1) := by decide +kernel
theorem dX5_enter_12 : decode cX5_enter 12 = .ok (.iconst 3, 1) := by decide +kernel
theorem dX5_enter_13 : decode cX5_enter 13 = .ok (.putfield 103, 3) := by decide +kernel
theorem dX5_enter_16 : decode cX5_enter 16 = .ok (.return_, 1) := by decide +kernel
theorem dX5_enter_17 : decode cX5_enter 17 = .ok (.aload_n 0, 1) := by decide +kernel
theorem dX5_enter_18 : decode cX5_enter 18 = .ok (.getfield 38, 3) := by decide +kernel
theorem dX5_enter_21 : decode cX5_enter 21 = .ok (.iload_n 1, 1) := by decide +kernel
theorem dX5_enter_22 : decode cX5_enter 22 = .ok (.invokevirtual 83, 3) := by decide +kernel
theorem dX5_enter_25 : decode cX5_enter 25 = .ok (.invokestatic 267, 3) := by decide +kernel
theorem dX5_enter_28 : decode cX5_enter 28 = .ok (.istore_n 2, 1) := by decide +kernel
theorem dX5_enter_29 : decode cX5_enter 29 = .ok (.aload_n 0, 1) := by decide +kernel
theorem dX5_enter_30 : decode cX5_enter 30 = .ok (.getfield 106, 3) := by decide +kernel
theorem dX5_enter_33 : decode cX5_enter 33 = .ok (.bipush 24, 2) := by decide +kernel
theorem dX5_enter_35 : decode cX5_enter 35 = .ok (.imul, 1) := by decide +kernel
theorem dX5_enter_36 : decode cX5_enter 36 = .ok (.aload_n 0, 1) := by decide +kernel
theorem dX5_enter_37 : decode cX5_enter 37 = .ok (.getfield 126, 3) := by decide +kernel
theorem dX5_enter_40 : decode cX5_enter 40 = .ok (.iadd, 1) := by decide +kernel
theorem dX5_enter_41 : decode cX5_enter 41 = .ok (.iload_n 2, 1) := by decide +kernel
theorem dX5_enter_42 : decode cX5_enter 42 = .ok (.isub, 1) := by decide +kernel
theorem dX5_enter_43 : decode cX5_enter 43 = .ok (.istore_n 3, 1) := by decide +kernel
theorem dX5_enter_44 : decode cX5_enter 44 = .ok (.aload_n 0, 1) := by decide +kernel
theorem dX5_enter_45 : decode cX5_enter 45 = .ok (.getfield 106, 3) := by decide +kernel
theorem dX5_enter_48 : decode cX5_enter 48 = .ok (.iconst 1, 1) := by decide +kernel
theorem dX5_enter_49 : decode cX5_enter 49 = .ok (.iadd, 1) := by decide +kernel
theorem dX5_enter_50 : decode cX5_enter 50 = .ok (.bipush 24, 2) := by decide +kernel
theorem dX5_enter_52 : decode cX5_enter 52 = .ok (.imul, 1) := by decide +kernel
theorem dX5_enter_53 : decode cX5_enter 53 = .ok (.istore 4, 2) := by decide +kernel
theorem dX5_enter_55 : decode cX5_enter 55 = .ok (.aload_n 0, 1) := by decide +kernel
theorem dX5_enter_56 : decode cX5_enter 56 = .ok (.getfield 38, 3) := by decide +kernel
theorem dX5_enter_59 : decode cX5_enter 59 = .ok (.iload_n 1, 1) := by decide +kernel
theorem dX5_enter_60 : decode cX5_enter 60 = .ok (.invokevirtual 79, 3) := by decide +kernel
theorem dX5_enter_63 : decode cX5_enter 63 = .ok (.ifnull 32, 3) := by decide +kernel
theorem dX5_enter_66 : decode cX5_enter 66 = .ok (.iload_n 2, 1) := by decide +kernel
theorem dX5_enter_67 : decode cX5_enter 67 = .ok (.aload_n 0, 1) := by decide +kernel
theorem dX5_enter_68 : decode cX5_enter 68 = .ok (.getfield 126, 3) := by decide +kernel
theorem dX5_enter_71 : decode cX5_enter 71 = .ok (.if_icmp .gt 24, 3) := by decide +kernel
theorem dX5_enter_74 : decode cX5_enter 74 = .ok (.iload 4, 2) := by decide +kernel
theorem dX5_enter_76 : decode cX5_enter 76 = .ok (.iload_n 2, 1) := by decide +kernel
theorem dX5_enter_77 : decode cX5_enter 77 = .ok (.iadd, 1) := by decide +kernel
theorem dX5_enter_78 : decode cX5_enter 78 = .ok (.aload_n 0, 1) := by decide +kernel
theorem dX5_enter_79 : decode cX5_enter 79 = .ok (.getfield 25, 3) := by decide +kernel
theorem dX5_enter_82 : decode cX5_enter 82 = .ok (.arraylength, 1) := by decide +kernel
theorem dX5_enter_83 : decode cX5_enter 83 = .ok (.if_icmp .gt 12, 3) := by decide +kernel
theorem dX5_enter_86 : decode cX5_enter 86 = .ok (.aload_n 0, 1) := by decide +kernel
theorem dX5_enter_87 : decode cX5_enter 87 = .ok (.getfield 126, 3) := by decide +kernel
theorem dX5_enter_90 : decode cX5_enter 90 = .ok (.bipush 24, 2) := by decide +kernel
theorem dX5_enter_92 : decode cX5_enter 92 = .ok (.if_icmp .le 24, 3) := by decide +kernel
theorem dX5_enter_95 : decode cX5_enter 95 = .ok (.aload_n 0, 1) := by decide +kernel
theorem dX5_enter_96 : decode cX5_enter 96 = .ok (.dup, 1) := by decide +kernel
theorem dX5_enter_97 : decode cX5_enter 97 = .ok (.getfield 76, 3) := by decide +kernel
theorem dX5_enter_100 : decode cX5_enter 100 = .ok (.iconst 1, 1) := by decide +kernel
theorem dX5_enter_101 : decode cX5_enter 101 = .ok (.iadd, 1) := by decide +kernel
theorem dX5_enter_102 : decode cX5_enter 102 = .ok (.putfield 76, 3) := by decide +kernel
theorem dX5_enter_105 : decode cX5_enter 105 = .ok (.aload_n 0, 1) := by decide +kernel
theorem dX5_enter_106 : decode cX5_enter 106 = .ok (.dup, 1) := by decide +kernel
theorem dX5_enter_107 : decode cX5_enter 107 = .ok (.getfield 123, 3) := by decide +kernel
theorem dX5_enter_110 : decode cX5_enter 110 = .ok (.iconst 1, 1) := by decide +kernel
theorem dX5_enter_111 : decode cX5_enter 111 = .ok (.iadd, 1) := by decide +kernel
theorem dX5_enter_112 : decode cX5_enter 112 = .ok (.putfield 123, 3) := by decide +kernel
theorem dX5_enter_115 : decode cX5_enter 115 = .ok (.return_, 1) := by decide +kernel
theorem dX5_enter_116 : decode cX5_enter 116 = .ok (.aload_n 0, 1) := by decide +kernel
theorem dX5_enter_117 : decode cX5_enter 117 = .ok (.getfield 28, 3) := by decide +kernel
theorem dX5_enter_120 : decode cX5_enter 120 = .ok (.iload_n 3, 1) := by decide +kernel
theorem dX5_enter_121 : decode cX5_enter 121 = .ok (.aload_n 0, 1) := by decide +kernel
theorem dX5_enter_122 : decode cX5_enter 122 = .ok (.getfield 25, 3) := by decide +kernel
theorem dX5_enter_125 : decode cX5_enter 125 = .ok (.iload 4, 2) := by decide +kernel
theorem dX5_enter_127 : decode cX5_enter 127 = .ok (.iload_n 2, 1) := by decide +kernel
theorem dX5_enter_128 : decode cX5_enter 128 = .ok (.invokestatic 270, 3) := by decide +kernel
theorem dX5_enter_131 : decode cX5_enter 131 = .ok (.aload_n 0, 1) := by decide +kernel
theorem dX5_enter_132 : decode cX5_enter 132 = .ok (.iconst 1, 1) := by decide +kernel
theorem dX5_enter_133 : decode cX5_enter 133 = .ok (.aload_n 0, 1) := by decide +kernel
theorem dX5_enter_134 : decode cX5_enter 134 = .ok (.getfield 123, 3) := by decide +kernel
theorem dX5_enter_137 : decode cX5_enter 137 = .ok (.invokevirtual 129, 3) := by decide +kernel
theorem dX5_enter_140 : decode cX5_enter 140 = .ok (.aload_n 0, 1) := by decide +kernel
theorem dX5_enter_141 : decode cX5_enter 141 = .ok (.iconst 2, 1) := by decide +kernel
theorem dX5_enter_142 : decode cX5_enter 142 = .ok (.aload_n 0, 1) := by decide +kernel
theorem dX5_enter_143 : decode cX5_enter 143 = .ok (.getfield 126, 3) := by decide +kernel
theorem dX5_enter_146 : decode cX5_enter 146 = .ok (.iload_n 2, 1) := by decide +kernel
theorem dX5_enter_147 : decode cX5_enter 147 = .ok (.isub, 1) := by decide +kernel
theorem dX5_enter_148 : decode cX5_enter 148 = .ok (.invokevirtual 129, 3) := by decide +kernel
theorem dX5_enter_151 : decode cX5_enter 151 = .ok (.aload_n 0, 1) := by decide +kernel
theorem dX5_enter_152 : decode cX5_enter 152 = .ok (.dup, 1) := by decide +kernel
theorem dX5_enter_153 : decode cX5_enter 153 = .ok (.getfield 106, 3) := by decide +kernel
theorem dX5_enter_156 : decode cX5_enter 156 = .ok (.iconst 1, 1) := by decide +kernel
theorem dX5_enter_157 : decode cX5_enter 157 = .ok (.iadd, 1) := by decide +kernel
theorem dX5_enter_158 : decode cX5_enter 158 = .ok (.putfield 106, 3) := by decide +kernel
theorem dX5_enter_161 : decode cX5_enter 161 = .ok (.aload_n 0, 1) := by decide +kernel
theorem dX5_enter_162 : decode cX5_enter 162 = .ok (.iload_n 1, 1) := by decide +kernel
theorem dX5_enter_163 : decode cX5_enter 163 = .ok (.invokevirtual 109, 3) := by decide +kernel
theorem dX5_enter_166 : decode cX5_enter 166 = .ok (.return_, 1) := by decide +kernel
theorem dX5_fieldAt_0 : decode cX5_fieldAt 0 = .ok (.aload_n 0, 1) := by decide +kernel
theorem dX5_fieldAt_1 : decode cX5_fieldAt 1 = .ok (.getfield 38, 3) := by decide +kernel
theorem dX5_fieldAt_4 : decode cX5_fieldAt 4 = .ok (.ifnull 24, 3) := by decide +kernel
theorem dX5_fieldAt_7 : decode cX5_fieldAt 7 = .ok (.iload_n 1, 1) := by decide +kernel
theorem dX5_fieldAt_8 : decode cX5_fieldAt 8 = .ok (.ifCond .lt 20, 3) := by decide +kernel
theorem dX5_fieldAt_11 : decode cX5_fieldAt 11 = .ok (.iload_n 1, 1) := by decide +kernel
theorem dX5_fieldAt_12 : decode cX5_fieldAt 12 = .ok (.aload_n 0, 1) := by decide +kernel
theorem dX5_fieldAt_13 : decode cX5_fieldAt 13 = .ok (.getfield 38, 3) := by decide +kernel
theorem dX5_fieldAt_16 : decode cX5_fieldAt 16 = .ok (.getfield 57, 3) := by decide +kernel
theorem dX5_fieldAt_19 : decode cX5_fieldAt 19 = .ok (.if_icmp .ge 9, 3) := by decide +kernel
theorem dX5_fieldAt_22 : decode cX5_fieldAt 22 = .ok (.iload_n 1, 1) := by decide +kernel
theorem dX5_fieldAt_23 : decode cX5_fieldAt 23 = .ok (.bipush 24, 2) := by decide +kernel
theorem dX5_fieldAt_25 : decode cX5_fieldAt 25 = .ok (.if_icmp .lt 7, 3) := by decide +kernel
theorem dX5_fieldAt_28 : decode cX5_fieldAt 28 = .ok (.lconst 0, 1) := by decide +kernel
theorem dX5_fieldAt_29 : decode cX5_fieldAt 29 = .ok (.goto 9, 3) := by decide +kernel
theorem dX5_fieldAt_32 : decode cX5_fieldAt 32 = .ok (.aload_n 0, 1) := by decide +kernel
theorem dX5_fieldAt_33 : decode cX5_fieldAt 33 = .ok (.getfield 9, 3) := by decide +kernel
theorem dX5_fieldAt_36 : decode cX5_fieldAt 36 = .ok (.iload_n 1, 1) := by decide +kernel
theorem dX5_fieldAt_37 : decode cX5_fieldAt 37 = .ok (.laload, 1) := by decide +kernel
theorem dX5_fieldAt_38 : decode cX5_fieldAt 38 = .ok (.lreturn, 1) := by decide +kernel
theorem dX5_frameAt_0 : decode cX5_frameAt 0 = .ok (.aload_n 0, 1) := by decide +kernel
theorem dX5_frameAt_1 : decode cX5_frameAt 1 = .ok (.getfield 106, 3) := by decide +kernel
theorem dX5_frameAt_4 : decode cX5_frameAt 4 = .ok (.ifCond .lt 28, 3) := by decide +kernel
theorem dX5_frameAt_7 : decode cX5_frameAt 7 = .ok (.aload_n 0, 1) := by decide +kernel
theorem dX5_frameAt_8 : decode cX5_frameAt 8 = .ok (.getfield 106, 3) := by decide +kernel
theorem dX5_frameAt_11 : decode cX5_frameAt 11 = .ok (.bipush 60, 2) := by decide +kernel
theorem dX5_frameAt_13 : decode cX5_frameAt 13 = .ok (.if_icmp .ge 19, 3) := by decide +kernel
theorem dX5_frameAt_16 : decode cX5_frameAt 16 = .ok (.aload_n 0, 1) := by decide +kernel
theorem dX5_frameAt_17 : decode cX5_frameAt 17 = .ok (.getfield 31, 3) := by decide +kernel

theorem dX5_lengthOf_6 : decode cX5_lengthOf 6 = .ok (.ifCond .eq 19, 3) := by decide +kernel
theorem dX5_lengthOf_9 : decode cX5_lengthOf 9 = .ok (.aload_n 0, 1) := by decide +kernel
theorem dX5_lengthOf_10 : decode cX5_lengthOf 10 = .ok (.iload_n 1, 1) := by decide +kernel
theorem dX5_lengthOf_11 : decode cX5_lengthOf 11 = .ok (.iconst 1, 1) := by decide +kernel
theorem dX5_lengthOf_12 : decode cX5_lengthOf 12 = .ok (.iadd, 1) := by decide +kernel
theorem dX5_lengthOf_13 : decode cX5_lengthOf 13 = .ok (.invokevirtual 66, 3) := by decide +kernel
theorem dX5_lengthOf_16 : decode cX5_lengthOf 16 = .ok (.aload_n 0, 1) := by decide +kernel
theorem dX5_lengthOf_17 : decode cX5_lengthOf 17 = .ok (.iload_n 1, 1) := by decide +kernel
theorem dX5_lengthOf_18 : decode cX5_lengthOf 18 = .ok (.invokevirtual 66, 3) := by decide +kernel
theorem dX5_lengthOf_21 : decode cX5_lengthOf 21 = .ok (.isub, 1) := by decide +kernel
theorem dX5_lengthOf_22 : decode cX5_lengthOf 22 = .ok (.goto 4, 3) := by decide +kernel
theorem dX5_lengthOf_25 : decode cX5_lengthOf 25 = .ok (.iconst (-1), 1) := by decide +kernel
theorem dX5_lengthOf_26 : decode cX5_lengthOf 26 = .ok (.ireturn, 1) := by decide +kernel
theorem dX5_localAt_0 : decode cX5_localAt 0 = .ok (.aload_n 0, 1) := by decide +kernel
theorem dX5_localAt_1 : decode cX5_localAt 1 = .ok (.getfield 106, 3) := by decide +kernel
theorem dX5_localAt_4 : decode cX5_localAt 4 = .ok (.bipush 24, 2) := by decide +kernel
theorem dX5_localAt_6 : decode cX5_localAt 6 = .ok (.imul, 1) := by decide +kernel
theorem dX5_localAt_7 : decode cX5_localAt 7 = .ok (.iload_n 1, 1) := by decide +kernel
theorem dX5_localAt_8 : decode cX5_localAt 8 = .ok (.iadd, 1) := by decide +kernel
theorem dX5_localAt_9 : decode cX5_localAt 9 = .ok (.istore_n 2, 1) := by decide +kernel
theorem dX5_localAt_10 : decode cX5_localAt 10 = .ok (.iload_n 1, 1) := by decide +kernel
theorem dX5_localAt_11 : decode cX5_localAt 11 = .ok (.ifCond .lt 22, 3) := by decide +kernel
theorem dX5_localAt_14 : decode cX5_localAt 14 = .ok (.iload_n 1, 1) := by decide +kernel
theorem dX5_localAt_15 : decode cX5_localAt 15 = .ok (.bipush 24, 2) := by decide +kernel
theorem dX5_localAt_17 : decode cX5_localAt 17 = .ok (.if_icmp .ge 16, 3) := by decide +kernel
theorem dX5_localAt_20 : decode cX5_localAt 20 = .ok (.iload_n 2, 1) := by decide +kernel
theorem dX5_localAt_21 : decode cX5_localAt 21 = .ok (.ifCond .lt 12, 3) := by decide +kernel
theorem dX5_localAt_24 : decode cX5_localAt 24 = .ok (.iload_n 2, 1) := by decide +kernel
theorem dX5_localAt_25 : decode cX5_localAt 25 = .ok (.aload_n 0, 1) := by decide +kernel
theorem dX5_localAt_26 : decode cX5_localAt 26 = .ok (.getfield 25, 3) := by decide +kernel
theorem dX5_localAt_29 : decode cX5_localAt 29 = .ok (.arraylength, 1) := by decide +kernel
theorem dX5_localAt_30 : decode cX5_localAt 30 = .ok (.if_icmp .lt 15, 3) := by decide +kernel
theorem dX5_localAt_33 : decode cX5_localAt 33 = .ok (.aload_n 0, 1) := by decide +kernel
theorem dX5_localAt_34 : decode cX5_localAt 34 = .ok (.dup, 1) := by decide +kernel
theorem dX5_localAt_35 : decode cX5_localAt 35 = .ok (.getfield 76, 3) := by decide +kernel
theorem dX5_localAt_38 : decode cX5_localAt 38 = .ok (.iconst 1, 1) := by decide +kernel
theorem dX5_localAt_39 : decode cX5_localAt 39 = .ok (.iadd, 1) := by decide +kernel
theorem dX5_localAt_40 : decode cX5_localAt 40 = .ok (.putfield 76, 3) := by decide +kernel
theorem dX5_localAt_43 : decode cX5_localAt 43 = .ok (.lconst 0, 1) := by decide +kernel
theorem dX5_localAt_44 : decode cX5_localAt 44 = .ok (.lreturn, 1) := by decide +kernel
theorem dX5_localAt_45 : decode cX5_localAt 45 = .ok (.aload_n 0, 1) := by decide +kernel
theorem dX5_localAt_46 : decode cX5_localAt 46 = .ok (.getfield 25, 3) := by decide +kernel
theorem dX5_localAt_49 : decode cX5_localAt 49 = .ok (.iload_n 2, 1) := by decide +kernel
theorem dX5_localAt_50 : decode cX5_localAt 50 = .ok (.laload, 1) := by decide +kernel
theorem dX5_localAt_51 : decode cX5_localAt 51 = .ok (.lreturn, 1) := by decide +kernel
theorem dX5_makeArray_0 : decode cX5_makeArray 0 = .ok (.iload_n 1, 1) := by decide +kernel
theorem dX5_makeArray_1 : decode cX5_makeArray 1 = .ok (.ifCond .ge 9, 3) := by decide +kernel
theorem dX5_makeArray_4 : decode cX5_makeArray 4 = .ok (.aload_n 0, 1) := by decide +kernel
theorem dX5_makeArray_5 : decode cX5_makeArray 5 = .ok (.iconst 3, 1) := by decide +kernel
theorem dX5_makeArray_6 : decode cX5_makeArray 6 = .ok (.invokevirtual 211, 3) := by decide +kernel
theorem dX5_makeArray_9 : decode cX5_makeArray 9 = .ok (.return_, 1) := by decide +kernel
theorem dX5_makeArray_10 : decode cX5_makeArray 10 = .ok (.aload_n 0, 1) := by decide +kernel
theorem dX5_makeArray_11 : decode cX5_makeArray 11 = .ok (.getfield 51, 3) := by decide +kernel
theorem dX5_makeArray_14 : decode cX5_makeArray 14 = .ok (.sipush 400, 3) := by decide +kernel
theorem dX5_makeArray_17 : decode cX5_makeArray 17 = .ok (.if_icmp .ge 15, 3) := by decide +kernel
theorem dX5_makeArray_20 : decode cX5_makeArray 20 = .ok (.iload_n 1, 1) := by decide +kernel
theorem dX5_makeArray_21 : decode cX5_makeArray 21 = .ok (.sipush 20000, 3) := by decide +kernel
theorem dX5_makeArray_24 : decode cX5_makeArray 24 = .ok (.aload_n 0, 1) := by decide +kernel
theorem dX5_makeArray_25 : decode cX5_makeArray 25 = .ok (.getfield 48, 3) := by decide +kernel
theorem dX5_makeArray_28 : decode cX5_makeArray 28 = .ok (.isub, 1) := by decide +kernel
theorem dX5_makeArray_29 : decode cX5_makeArray 29 = .ok (.if_icmp .le 9, 3) := by decide +kernel
theorem dX5_makeArray_32 : decode cX5_makeArray 32 = .ok (.aload_n 0, 1) := by decide +kernel
theorem dX5_makeArray_33 : decode cX5_makeArray 33 = .ok (.iconst 4, 1) := by decide +kernel
theorem dX5_makeArray_34 : decode cX5_makeArray 34 = .ok (.putfield 103, 3) := by decide +kernel
theorem dX5_makeArray_37 : decode cX5_makeArray 37 = .ok (.return_, 1) := by decide +kernel
theorem dX5_makeArray_38 : decode cX5_makeArray 38 = .ok (.aload_n 0, 1) := by decide +kernel
theorem dX5_makeArray_39 : decode cX5_makeArray 39 = .ok (.dup, 1) := by decide +kernel
theorem dX5_makeArray_40 : decode cX5_makeArray 40 = .ok (.getfield 51, 3) := by decide +kernel
theorem dX5_makeArray_43 : decode cX5_makeArray 43 = .ok (.iconst 1, 1) := by decide +kernel
theorem dX5_makeArray_44 : decode cX5_makeArray 44 = .ok (.iadd, 1) := by decide +kernel
theorem dX5_makeArray_45 : decode cX5_makeArray 45 = .ok (.putfield 51, 3) := by decide +kernel
theorem dX5_makeArray_48 : decode cX5_makeArray 48 = .ok (.aload_n 0, 1) := by decide +kernel
theorem dX5_makeArray_49 : decode cX5_makeArray 49 = .ok (.getfield 51, 3) := by decide +kernel
theorem dX5_makeArray_52 : decode cX5_makeArray 52 = .ok (.aload_n 0, 1) := by decide +kernel
theorem dX5_makeArray_53 : decode cX5_makeArray 53 = .ok (.getfield 19, 3) := by decide +kernel
theorem dX5_makeArray_56 : decode cX5_makeArray 56 = .ok (.arraylength, 1) := by decide +kernel
theorem dX5_makeArray_57 : decode cX5_makeArray 57 = .ok (.if_icmp .lt 21, 3) := by decide +kernel
theorem dX5_makeArray_60 : decode cX5_makeArray 60 = .ok (.aload_n 0, 1) := by decide +kernel
theorem dX5_makeArray_61 : decode cX5_makeArray 61 = .ok (.aload_n 0, 1) := by decide +kernel
theorem dX5_makeArray_62 : decode cX5_makeArray 62 = .ok (.getfield 19, 3) := by decide +kernel
theorem dX5_makeArray_65 : decode cX5_makeArray 65 = .ok (.iconst 2, 1) := by decide +kernel
theorem dX5_makeArray_66 : decode cX5_makeArray 66 = .ok (.aload_n 0, 1) := by decide +kernel
theorem dX5_makeArray_67 : decode cX5_makeArray 67 = .ok (.getfield 19, 3) := by decide +kernel
theorem dX5_makeArray_70 : decode cX5_makeArray 70 = .ok (.arraylength, 1) := by decide +kernel
theorem dX5_makeArray_71 : decode cX5_makeArray 71 = .ok (.imul, 1) := by decide +kernel
theorem dX5_makeArray_72 : decode cX5_makeArray 72 = .ok (.invokestatic 307, 3) := by decide +kernel
theorem dX5_makeArray_75 : decode cX5_makeArray 75 = .ok (.putfield 19, 3) := by decide +kernel
theorem dX5_makeArray_78 : decode cX5_makeArray 78 = .ok (.aload_n 0, 1) := by decide +kernel
theorem dX5_makeArray_79 : decode cX5_makeArray 79 = .ok (.getfield 48, 3) := by decide +kernel
theorem dX5_makeArray_82 : decode cX5_makeArray 82 = .ok (.iload_n 1, 1) := by decide +kernel
theorem dX5_makeArray_83 : decode cX5_makeArray 83 = .ok (.iadd, 1) := by decide +kernel
theorem dX5_makeArray_84 : decode cX5_makeArray 84 = .ok (.aload_n 0, 1) := by decide +kernel
theorem dX5_makeArray_85 : decode cX5_makeArray 85 = .ok (.getfield 15, 3) := by decide +kernel
theorem dX5_makeArray_88 : decode cX5_makeArray 88 = .ok (.arraylength, 1) := by decide +kernel
theorem dX5_makeArray_89 : decode cX5_makeArray 89 = .ok (.if_icmp .le 28, 3) := by decide +kernel
theorem dX5_makeArray_92 : decode cX5_makeArray 92 = .ok (.aload_n 0, 1) := by decide +kernel
theorem dX5_makeArray_93 : decode cX5_makeArray 93 = .ok (.aload_n 0, 1) := by decide +kernel
theorem dX5_makeArray_94 : decode cX5_makeArray 94 = .ok (.getfield 15, 3) := by decide +kernel
theorem dX5_makeArray_97 : decode cX5_makeArray 97 = .ok (.sipush 20000, 3) := by decide +kernel
theorem dX5_makeArray_100 : decode cX5_makeArray 100 = .ok (.iconst 2, 1) := by decide +kernel
theorem dX5_makeArray_101 : decode cX5_makeArray 101 = .ok (.aload_n 0, 1) := by decide +kernel
theorem dX5_makeArray_102 : decode cX5_makeArray 102 = .ok (.getfield 48, 3) := by decide +kernel
theorem dX5_makeArray_105 : decode cX5_makeArray 105 = .ok (.iload_n 1, 1) := by decide +kernel
theorem dX5_makeArray_106 : decode cX5_makeArray 106 = .ok (.iadd, 1) := by decide +kernel
theorem dX5_makeArray_107 : decode cX5_makeArray 107 = .ok (.imul, 1) := by decide +kernel
theorem dX5_makeArray_108 : decode cX5_makeArray 108 = .ok (.invokestatic 311, 3) := by decide +kernel
theorem dX5_makeArray_111 : decode cX5_makeArray 111 = .ok (.invokestatic 307, 3) := by decide +kernel
theorem dX5_makeArray_114 : decode cX5_makeArray 114 = .ok (.putfield 15, 3) := by decide +kernel
theorem dX5_makeArray_117 : decode cX5_makeArray 117 = .ok (.aload_n 0, 1) := by decide +kernel
theorem dX5_makeArray_118 : decode cX5_makeArray 118 = .ok (.getfield 19, 3) := by decide +kernel
theorem dX5_makeArray_121 : decode cX5_makeArray 121 = .ok (.aload_n 0, 1) := by decide +kernel
theorem dX5_makeArray_122 : decode cX5_makeArray 122 = .ok (.getfield 51, 3) := by decide +kernel
theorem dX5_makeArray_125 : decode cX5_makeArray 125 = .ok (.aload_n 0, 1) := by decide +kernel
theorem dX5_makeArray_126 : decode cX5_makeArray 126 = .ok (.getfield 48, 3) := by decide +kernel
theorem dX5_makeArray_129 : decode cX5_makeArray 129 = .ok (.iastore, 1) := by decide +kernel
theorem dX5_makeArray_130 : decode cX5_makeArray 130 = .ok (.aload_n 0, 1) := by decide +kernel
theorem dX5_makeArray_131 : decode cX5_makeArray 131 = .ok (.getfield 48, 3) := by decide +kernel
theorem dX5_makeArray_134 : decode cX5_makeArray 134 = .ok (.istore_n 2, 1) := by decide +kernel
theorem dX5_makeArray_135 : decode cX5_makeArray 135 = .ok (.iload_n 2, 1) := by decide +kernel
theorem dX5_makeArray_136 : decode cX5_makeArray 136 = .ok (.aload_n 0, 1) := by decide +kernel
theorem dX5_makeArray_137 : decode cX5_makeArray 137 = .ok (.getfield 48, 3) := by decide +kernel
theorem dX5_makeArray_140 : decode cX5_makeArray 140 = .ok (.iload_n 1, 1) := by decide +kernel
theorem dX5_makeArray_141 : decode cX5_makeArray 141 = .ok (.iadd, 1) := by decide +kernel
theorem dX5_makeArray_142 : decode cX5_makeArray 142 = .ok (.if_icmp .ge 25, 3) := by decide +kernel
theorem dX5_makeArray_145 : decode cX5_makeArray 145 = .ok (.iload_n 2, 1) := by decide +kernel
theorem dX5_makeArray_146 : decode cX5_makeArray 146 = .ok (.aload_n 0, 1) := by decide +kernel
theorem dX5_makeArray_147 : decode cX5_makeArray 147 = .ok (.getfield 15, 3) := by decide +kernel
theorem dX5_makeArray_150 : decode cX5_makeArray 150 = .ok (.arraylength, 1) := by decide +kernel
theorem dX5_makeArray_151 : decode cX5_makeArray 151 = .ok (.if_icmp .ge 16, 3) := by decide +kernel
theorem dX5_makeArray_154 : decode cX5_makeArray 154 = .ok (.aload_n 0, 1) := by decide +kernel
theorem dX5_makeArray_155 : decode cX5_makeArray 155 = .ok (.getfield 15, 3) := by decide +kernel
theorem dX5_makeArray_158 : decode cX5_makeArray 158 = .ok (.iload_n 2, 1) := by decide +kernel
theorem dX5_makeArray_159 : decode cX5_makeArray 159 = .ok (.iconst 0, 1) := by decide +kernel
theorem dX5_makeArray_160 : decode cX5_makeArray 160 = .ok (.iastore, 1) := by decide +kernel
theorem dX5_makeArray_161 : decode cX5_makeArray 161 = .ok (.iinc 2 1, 3) := by decide +kernel
theorem dX5_makeArray_164 : decode cX5_makeArray 164 = .ok (.goto (-29), 3) := by decide +kernel
theorem dX5_makeArray_167 : decode cX5_makeArray 167 = .ok (.aload_n 0, 1) := by decide +kernel
theorem dX5_makeArray_168 : decode cX5_makeArray 168 = .ok (.dup, 1) := by decide +kernel
theorem dX5_makeArray_169 : decode cX5_makeArray 169 = .ok (.getfield 48, 3) := by decide +kernel
theorem dX5_makeArray_172 : decode cX5_makeArray 172 = .ok (.iload_n 1, 1) := by decide +kernel
theorem dX5_makeArray_173 : decode cX5_makeArray 173 = .ok (.iadd, 1) := by decide +kernel
theorem dX5_makeArray_174 : decode cX5_makeArray 174 = .ok (.putfield 48, 3) := by decide +kernel
theorem dX5_makeArray_177 : decode cX5_makeArray 177 = .ok (.aload_n 0, 1) := by decide +kernel
theorem dX5_makeArray_178 : decode cX5_makeArray 178 = .ok (.aload_n 0, 1) := by decide +kernel
theorem dX5_makeArray_179 : decode cX5_makeArray 179 = .ok (.getfield 51, 3) := by decide +kernel
theorem dX5_makeArray_182 : decode cX5_makeArray 182 = .ok (.i2l, 1) := by decide +kernel
theorem dX5_makeArray_183 : decode cX5_makeArray 183 = .ok (.invokevirtual 137, 3) := by decide +kernel
theorem dX5_makeArray_186 : decode cX5_makeArray 186 = .ok (.aload_n 0, 1) := by decide +kernel
theorem dX5_makeArray_187 : decode cX5_makeArray 187 = .ok (.dup, 1) := by decide +kernel
theorem dX5_makeArray_188 : decode cX5_makeArray 188 = .ok (.getfield 123, 3) := by decide +kernel

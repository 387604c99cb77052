theorem dX6_isTaken_99 : decode cX6_isTaken 99 = .ok (.ireturn, 1) := by decide +kernel
theorem dX6_isTaken_100 : decode cX6_isTaken 100 = .ok (.iload_n 1, 1) := by decide +kernel
theorem dX6_isTaken_101 : decode cX6_isTaken 101 = .ok (.iload_n 2, 1) := by decide +kernel
theorem dX6_isTaken_102 : decode cX6_isTaken 102 = .ok (.if_icmp .le 7, 3) := by decide +kernel
theorem dX6_isTaken_105 : decode cX6_isTaken 105 = .ok (.iconst 1, 1) := by decide +kernel
theorem dX6_isTaken_106 : decode cX6_isTaken 106 = .ok (.goto 4, 3) := by decide +kernel
theorem dX6_isTaken_109 : decode cX6_isTaken 109 = .ok (.iconst 0, 1) := by decide +kernel
theorem dX6_isTaken_110 : decode cX6_isTaken 110 = .ok (.ireturn, 1) := by decide +kernel
theorem dX6_isTaken_111 : decode cX6_isTaken 111 = .ok (.iload_n 1, 1) := by decide +kernel
theorem dX6_isTaken_112 : decode cX6_isTaken 112 = .ok (.iload_n 2, 1) := by decide +kernel
theorem dX6_isTaken_113 : decode cX6_isTaken 113 = .ok (.if_icmp .gt 7, 3) := by decide +kernel
theorem dX6_isTaken_116 : decode cX6_isTaken 116 = .ok (.iconst 1, 1) := by decide +kernel
theorem dX6_isTaken_117 : decode cX6_isTaken 117 = .ok (.goto 4, 3) := by decide +kernel
theorem dX6_isTaken_120 : decode cX6_isTaken 120 = .ok (.iconst 0, 1) := by decide +kernel
theorem dX6_isTaken_121 : decode cX6_isTaken 121 = .ok (.ireturn, 1) := by decide +kernel
theorem dX6_isUnary_0 : decode cX6_isUnary 0 = .ok (.iload_n 0, 1) := by decide +kernel
theorem dX6_isUnary_1 : decode cX6_isUnary 1 = .ok (.bipush 116, 2) := by decide +kernel
theorem dX6_isUnary_3 : decode cX6_isUnary 3 = .ok (.if_icmp .eq 37, 3) := by decide +kernel
theorem dX6_isUnary_6 : decode cX6_isUnary 6 = .ok (.iload_n 0, 1) := by decide +kernel
theorem dX6_isUnary_7 : decode cX6_isUnary 7 = .ok (.bipush 117, 2) := by decide +kernel
theorem dX6_isUnary_9 : decode cX6_isUnary 9 = .ok (.if_icmp .eq 31, 3) := by decide +kernel
theorem dX6_isUnary_12 : decode cX6_isUnary 12 = .ok (.iload_n 0, 1) := by decide +kernel
theorem dX6_isUnary_13 : decode cX6_isUnary 13 = .ok (.sipush 133, 3) := by decide +kernel
theorem dX6_isUnary_16 : decode cX6_isUnary 16 = .ok (.if_icmp .eq 24, 3) := by decide +kernel
theorem dX6_isUnary_19 : decode cX6_isUnary 19 = .ok (.iload_n 0, 1) := by decide +kernel
theorem dX6_isUnary_20 : decode cX6_isUnary 20 = .ok (.sipush 136, 3) := by decide +kernel
theorem dX6_isUnary_23 : decode cX6_isUnary 23 = .ok (.if_icmp .eq 17, 3) := by decide +kernel
theorem dX6_isUnary_26 : decode cX6_isUnary 26 = .ok (.iload_n 0, 1) := by decide +kernel
theorem dX6_isUnary_27 : decode cX6_isUnary 27 = .ok (.sipush 145, 3) := by decide +kernel
theorem dX6_isUnary_30 : decode cX6_isUnary 30 = .ok (.if_icmp .lt 14, 3) := by decide +kernel
theorem dX6_isUnary_33 : decode cX6_isUnary 33 = .ok (.iload_n 0, 1) := by decide +kernel
theorem dX6_isUnary_34 : decode cX6_isUnary 34 = .ok (.sipush 147, 3) := by decide +kernel
theorem dX6_isUnary_37 : decode cX6_isUnary 37 = .ok (.if_icmp .gt 7, 3) := by decide +kernel
theorem dX6_isUnary_40 : decode cX6_isUnary 40 = .ok (.iconst 1, 1) := by decide +kernel
theorem dX6_isUnary_41 : decode cX6_isUnary 41 = .ok (.goto 4, 3) := by decide +kernel
theorem dX6_isUnary_44 : decode cX6_isUnary 44 = .ok (.iconst 0, 1) := by decide +kernel
theorem dX6_isUnary_45 : decode cX6_isUnary 45 = .ok (.ireturn, 1) := by decide +kernel
theorem dX6_kindAt_0 : decode cX6_kindAt 0 = .ok (.iload_n 0, 1) := by decide +kernel
theorem dX6_kindAt_1 : decode cX6_kindAt 1 = .ok (.iconst 4, 1) := by decide +kernel
theorem dX6_kindAt_2 : decode cX6_kindAt 2 = .ok (.iload_n 0, 1) := by decide +kernel
theorem dX6_kindAt_3 : decode cX6_kindAt 3 = .ok (.invokestatic 28, 3) := by decide +kernel
theorem dX6_kindAt_6 : decode cX6_kindAt 6 = .ok (.iconst 1, 1) := by decide +kernel
theorem dX6_kindAt_7 : decode cX6_kindAt 7 = .ok (.isub, 1) := by decide +kernel
theorem dX6_kindAt_8 : decode cX6_kindAt 8 = .ok (.iload_n 1, 1) := by decide +kernel
theorem dX6_kindAt_9 : decode cX6_kindAt 9 = .ok (.isub, 1) := by decide +kernel
theorem dX6_kindAt_10 : decode cX6_kindAt 10 = .ok (.imul, 1) := by decide +kernel
theorem dX6_kindAt_11 : decode cX6_kindAt 11 = .ok (.ishr, 1) := by decide +kernel
theorem dX6_kindAt_12 : decode cX6_kindAt 12 = .ok (.bipush 15, 2) := by decide +kernel
theorem dX6_kindAt_14 : decode cX6_kindAt 14 = .ok (.iand, 1) := by decide +kernel
theorem dX6_kindAt_15 : decode cX6_kindAt 15 = .ok (.ireturn, 1) := by decide +kernel
theorem dX6_kindCount_0 : decode cX6_kindCount 0 = .ok (.iconst 0, 1) := by decide +kernel
theorem dX6_kindCount_1 : decode cX6_kindCount 1 = .ok (.istore_n 1, 1) := by decide +kernel
theorem dX6_kindCount_2 : decode cX6_kindCount 2 = .ok (.iload_n 0, 1) := by decide +kernel
theorem dX6_kindCount_3 : decode cX6_kindCount 3 = .ok (.istore_n 2, 1) := by decide +kernel
theorem dX6_kindCount_4 : decode cX6_kindCount 4 = .ok (.iload_n 2, 1) := by decide +kernel
theorem dX6_kindCount_5 : decode cX6_kindCount 5 = .ok (.ifCond .le 13, 3) := by decide +kernel
theorem dX6_kindCount_8 : decode cX6_kindCount 8 = .ok (.iinc 1 1, 3) := by decide +kernel
theorem dX6_kindCount_11 : decode cX6_kindCount 11 = .ok (.iload_n 2, 1) := by decide +kernel
theorem dX6_kindCount_12 : decode cX6_kindCount 12 = .ok (.iconst 4, 1) := by decide +kernel
theorem dX6_kindCount_13 : decode cX6_kindCount 13 = .ok (.ishr, 1) := by decide +kernel
theorem dX6_kindCount_14 : decode cX6_kindCount 14 = .ok (.istore_n 2, 1) := by decide +kernel
theorem dX6_kindCount_15 : decode cX6_kindCount 15 = .ok (.goto (-11), 3) := by decide +kernel
theorem dX6_kindCount_18 : decode cX6_kindCount 18 = .ok (.iload_n 1, 1) := by decide +kernel
theorem dX6_kindCount_19 : decode cX6_kindCount 19 = .ok (.ireturn, 1) := by decide +kernel
theorem dX6_lengthOf_0 : decode cX6_lengthOf 0 = .ok (.iload_n 0, 1) := by decide +kernel
theorem dX6_lengthOf_1 : decode cX6_lengthOf 1 = .ok (.ifCond .lt 11, 3) := by decide +kernel
theorem dX6_lengthOf_4 : decode cX6_lengthOf 4 = .ok (.iload_n 0, 1) := by decide +kernel
theorem dX6_lengthOf_5 : decode cX6_lengthOf 5 = .ok (.getstatic 18, 3) := by decide +kernel
theorem dX6_lengthOf_8 : decode cX6_lengthOf 8 = .ok (.arraylength, 1) := by decide +kernel
theorem dX6_lengthOf_9 : decode cX6_lengthOf 9 = .ok (.if_icmp .lt 7, 3) := by decide +kernel
theorem dX6_lengthOf_12 : decode cX6_lengthOf 12 = .ok (.iconst 0, 1) := by decide +kernel
theorem dX6_lengthOf_13 : decode cX6_lengthOf 13 = .ok (.goto 8, 3) := by decide +kernel
theorem dX6_lengthOf_16 : decode cX6_lengthOf 16 = .ok (.getstatic 18, 3) := by decide +kernel
theorem dX6_lengthOf_19 : decode cX6_lengthOf 19 = .ok (.iload_n 0, 1) := by decide +kernel
theorem dX6_lengthOf_20 : decode cX6_lengthOf 20 = .ok (.iaload, 1) := by decide +kernel
theorem dX6_lengthOf_21 : decode cX6_lengthOf 21 = .ok (.ireturn, 1) := by decide +kernel
theorem dX6_localWidth_0 : decode cX6_localWidth 0 = .ok (.iload_n 0, 1) := by decide +kernel
theorem dX6_localWidth_1 : decode cX6_localWidth 1 = .ok (.bipush 22, 2) := by decide +kernel
theorem dX6_localWidth_3 : decode cX6_localWidth 3 = .ok (.if_icmp .eq 9, 3) := by decide +kernel
theorem dX6_localWidth_6 : decode cX6_localWidth 6 = .ok (.iload_n 0, 1) := by decide +kernel
theorem dX6_localWidth_7 : decode cX6_localWidth 7 = .ok (.bipush 55, 2) := by decide +kernel
theorem dX6_localWidth_9 : decode cX6_localWidth 9 = .ok (.if_icmp .ne 7, 3) := by decide +kernel
theorem dX6_localWidth_12 : decode cX6_localWidth 12 = .ok (.iconst 2, 1) := by decide +kernel
theorem dX6_localWidth_13 : decode cX6_localWidth 13 = .ok (.goto 4, 3) := by decide +kernel
theorem dX6_localWidth_16 : decode cX6_localWidth 16 = .ok (.iconst 1, 1) := by decide +kernel
theorem dX6_localWidth_17 : decode cX6_localWidth 17 = .ok (.ireturn, 1) := by decide +kernel
theorem dX6_ofInts_0 : decode cX6_ofInts 0 = .ok (.iload_n 0, 1) := by decide +kernel
theorem dX6_ofInts_1 : decode cX6_ofInts 1 = .ok (.tableswitch 203 96 128 #[147, 203, 203, 203, 151, 203, 203, 203, 155, 203, 203, 203, 159, 203, 203, 203, 171, 203, 203, 203, 203, 203, 203, 203, 183, 203, 187, 203, 191, 203, 195, 203, 199], 147) := by decide +kernel
theorem dX6_ofInts_148 : decode cX6_ofInts 148 = .ok (.iload_n 1, 1) := by decide +kernel
theorem dX6_ofInts_149 : decode cX6_ofInts 149 = .ok (.iload_n 2, 1) := by decide +kernel
theorem dX6_ofInts_150 : decode cX6_ofInts 150 = .ok (.iadd, 1) := by decide +kernel
theorem dX6_ofInts_151 : decode cX6_ofInts 151 = .ok (.ireturn, 1) := by decide +kernel
theorem dX6_ofInts_152 : decode cX6_ofInts 152 = .ok (.iload_n 1, 1) := by decide +kernel
theorem dX6_ofInts_153 : decode cX6_ofInts 153 = .ok (.iload_n 2, 1) := by decide +kernel
theorem dX6_ofInts_154 : decode cX6_ofInts 154 = .ok (.isub, 1) := by decide +kernel
theorem dX6_ofInts_155 : decode cX6_ofInts 155 = .ok (.ireturn, 1) := by decide +kernel
theorem dX6_ofInts_156 : decode cX6_ofInts 156 = .ok (.iload_n 1, 1) := by decide +kernel
theorem dX6_ofInts_157 : decode cX6_ofInts 157 = .ok (.iload_n 2, 1) := by decide +kernel
theorem dX6_ofInts_158 : decode cX6_ofInts 158 = .ok (.imul, 1) := by decide +kernel
theorem dX6_ofInts_159 : decode cX6_ofInts 159 = .ok (.ireturn, 1) := by decide +kernel
theorem dX6_ofInts_160 : decode cX6_ofInts 160 = .ok (.iload_n 2, 1) := by decide +kernel
theorem dX6_ofInts_161 : decode cX6_ofInts 161 = .ok (.ifCond .ne 7, 3) := by decide +kernel
theorem dX6_ofInts_164 : decode cX6_ofInts 164 = .ok (.iconst 0, 1) := by decide +kernel
theorem dX6_ofInts_165 : decode cX6_ofInts 165 = .ok (.goto 6, 3) := by decide +kernel
theorem dX6_ofInts_168 : decode cX6_ofInts 168 = .ok (.iload_n 1, 1) := by decide +kernel
theorem dX6_ofInts_169 : decode cX6_ofInts 169 = .ok (.iload_n 2, 1) := by decide +kernel
theorem dX6_ofInts_170 : decode cX6_ofInts 170 = .ok (.idiv, 1) := by decide +kernel
theorem dX6_ofInts_171 : decode cX6_ofInts 171 = .ok (.ireturn, 1) := by decide +kernel
theorem dX6_ofInts_172 : decode cX6_ofInts 172 = .ok (.iload_n 2, 1) := by decide +kernel
theorem dX6_ofInts_173 : decode cX6_ofInts 173 = .ok (.ifCond .ne 7, 3) := by decide +kernel
theorem dX6_ofInts_176 : decode cX6_ofInts 176 = .ok (.iconst 0, 1) := by decide +kernel
theorem dX6_ofInts_177 : decode cX6_ofInts 177 = .ok (.goto 6, 3) := by decide +kernel
theorem dX6_ofInts_180 : decode cX6_ofInts 180 = .ok (.iload_n 1, 1) := by decide +kernel
theorem dX6_ofInts_181 : decode cX6_ofInts 181 = .ok (.iload_n 2, 1) := by decide +kernel
theorem dX6_ofInts_182 : decode cX6_ofInts 182 = .ok (.irem, 1) := by decide +kernel
theorem dX6_ofInts_183 : decode cX6_ofInts 183 = .ok (.ireturn, 1) := by decide +kernel
theorem dX6_ofInts_184 : decode cX6_ofInts 184 = .ok (.iload_n 1, 1) := by decide +kernel
theorem dX6_ofInts_185 : decode cX6_ofInts 185 = .ok (.iload_n 2, 1) := by decide +kernel
theorem dX6_ofInts_186 : decode cX6_ofInts 186 = .ok (.ishl, 1) := by decide +kernel
theorem dX6_ofInts_187 : decode cX6_ofInts 187 = .ok (.ireturn, 1) := by decide +kernel
theorem dX6_ofInts_188 : decode cX6_ofInts 188 = .ok (.iload_n 1, 1) := by decide +kernel
theorem dX6_ofInts_189 : decode cX6_ofInts 189 = .ok (.iload_n 2, 1) := by decide +kernel
theorem dX6_ofInts_190 : decode cX6_ofInts 190 = .ok (.ishr, 1) := by decide +kernel
theorem dX6_ofInts_191 : decode cX6_ofInts 191 = .ok (.ireturn, 1) := by decide +kernel
theorem dX6_ofInts_192 : decode cX6_ofInts 192 = .ok (.iload_n 1, 1) := by decide +kernel
theorem dX6_ofInts_193 : decode cX6_ofInts 193 = .ok (.iload_n 2, 1) := by decide +kernel
theorem dX6_ofInts_194 : decode cX6_ofInts 194 = .ok (.iushr, 1) := by decide +kernel
theorem dX6_ofInts_195 : decode cX6_ofInts 195 = .ok (.ireturn, 1) := by decide +kernel
theorem dX6_ofInts_196 : decode cX6_ofInts 196 = .ok (.iload_n 1, 1) := by decide +kernel
theorem dX6_ofInts_197 : decode cX6_ofInts 197 = .ok (.iload_n 2, 1) := by decide +kernel
theorem dX6_ofInts_198 : decode cX6_ofInts 198 = .ok (.iand, 1) := by decide +kernel
theorem dX6_ofInts_199 : decode cX6_ofInts 199 = .ok (.ireturn, 1) := by decide +kernel
theorem dX6_ofInts_200 : decode cX6_ofInts 200 = .ok (.iload_n 1, 1) := by decide +kernel
theorem dX6_ofInts_201 : decode cX6_ofInts 201 = .ok (.iload_n 2, 1) := by decide +kernel
theorem dX6_ofInts_202 : decode cX6_ofInts 202 = .ok (.ior, 1) := by decide +kernel
theorem dX6_ofInts_203 : decode cX6_ofInts 203 = .ok (.ireturn, 1) := by decide +kernel
theorem dX6_ofInts_204 : decode cX6_ofInts 204 = .ok (.iload_n 1, 1) := by decide +kernel
theorem dX6_ofInts_205 : decode cX6_ofInts 205 = .ok (.iload_n 2, 1) := by decide +kernel
theorem dX6_ofInts_206 : decode cX6_ofInts 206 = .ok (.ixor, 1) := by decide +kernel
theorem dX6_ofInts_207 : decode cX6_ofInts 207 = .ok (.ireturn, 1) := by decide +kernel
theorem dX6_ofLongs_0 : decode cX6_ofLongs 0 = .ok (.iload_n 0, 1) := by decide +kernel
theorem dX6_ofLongs_1 : decode cX6_ofLongs 1 = .ok (.tableswitch 210 97 129 #[147, 210, 210, 210, 151, 210, 210, 210, 155, 210, 210, 210, 159, 210, 210, 210, 173, 210, 210, 210, 210, 210, 210, 210, 187, 210, 192, 210, 197, 210, 202, 210, 206], 147) := by decide +kernel
theorem dX6_ofLongs_148 : decode cX6_ofLongs 148 = .ok (.lload_n 1, 1) := by decide +kernel
theorem dX6_ofLongs_149 : decode cX6_ofLongs 149 = .ok (.lload_n 3, 1) := by decide +kernel
theorem dX6_ofLongs_150 : decode cX6_ofLongs 150 = .ok (.ladd, 1) := by decide +kernel
theorem dX6_ofLongs_151 : decode cX6_ofLongs 151 = .ok (.lreturn, 1) := by decide +kernel
theorem dX6_ofLongs_152 : decode cX6_ofLongs 152 = .ok (.lload_n 1, 1) := by decide +kernel
theorem dX6_ofLongs_153 : decode cX6_ofLongs 153 = .ok (.lload_n 3, 1) := by decide +kernel
theorem dX6_ofLongs_154 : decode cX6_ofLongs 154 = .ok (.lsub, 1) := by decide +kernel
theorem dX6_ofLongs_155 : decode cX6_ofLongs 155 = .ok (.lreturn, 1) := by decide +kernel

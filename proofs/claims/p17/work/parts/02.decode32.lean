theorem dX2_decodeLocal_6 : decode cX2_decodeLocal 6 = .ok (.iload_n 2, 1) := by decide +kernel
theorem dX2_decodeLocal_7 : decode cX2_decodeLocal 7 = .ok (.sipush 196, 3) := by decide +kernel
theorem dX2_decodeLocal_10 : decode cX2_decodeLocal 10 = .ok (.if_icmp .ne 71, 3) := by decide +kernel
theorem dX2_decodeLocal_13 : decode cX2_decodeLocal 13 = .ok (.aload_n 0, 1) := by decide +kernel
theorem dX2_decodeLocal_14 : decode cX2_decodeLocal 14 = .ok (.iload_n 1, 1) := by decide +kernel
theorem dX2_decodeLocal_15 : decode cX2_decodeLocal 15 = .ok (.iconst 2, 1) := by decide +kernel
theorem dX2_decodeLocal_16 : decode cX2_decodeLocal 16 = .ok (.iadd, 1) := by decide +kernel
theorem dX2_decodeLocal_17 : decode cX2_decodeLocal 17 = .ok (.invokevirtual 180, 3) := by decide +kernel
theorem dX2_decodeLocal_20 : decode cX2_decodeLocal 20 = .ok (.istore_n 3, 1) := by decide +kernel
theorem dX2_decodeLocal_21 : decode cX2_decodeLocal 21 = .ok (.aload_n 0, 1) := by decide +kernel
theorem dX2_decodeLocal_22 : decode cX2_decodeLocal 22 = .ok (.aload_n 0, 1) := by decide +kernel
theorem dX2_decodeLocal_23 : decode cX2_decodeLocal 23 = .ok (.iload_n 1, 1) := by decide +kernel
theorem dX2_decodeLocal_24 : decode cX2_decodeLocal 24 = .ok (.iconst 1, 1) := by decide +kernel
theorem dX2_decodeLocal_25 : decode cX2_decodeLocal 25 = .ok (.iadd, 1) := by decide +kernel
theorem dX2_decodeLocal_26 : decode cX2_decodeLocal 26 = .ok (.invokevirtual 139, 3) := by decide +kernel
theorem dX2_decodeLocal_29 : decode cX2_decodeLocal 29 = .ok (.iload_n 3, 1) := by decide +kernel
theorem dX2_decodeLocal_30 : decode cX2_decodeLocal 30 = .ok (.sipush 255, 3) := by decide +kernel
theorem dX2_decodeLocal_33 : decode cX2_decodeLocal 33 = .ok (.if_icmp .le 9, 3) := by decide +kernel
theorem dX2_decodeLocal_36 : decode cX2_decodeLocal 36 = .ok (.ldc2_w 190, 3) := by decide +kernel
theorem dX2_decodeLocal_39 : decode cX2_decodeLocal 39 = .ok (.goto 36, 3) := by decide +kernel
theorem dX2_decodeLocal_42 : decode cX2_decodeLocal 42 = .ok (.aload_n 0, 1) := by decide +kernel
theorem dX2_decodeLocal_43 : decode cX2_decodeLocal 43 = .ok (.iload_n 1, 1) := by decide +kernel
theorem dX2_decodeLocal_44 : decode cX2_decodeLocal 44 = .ok (.iconst 1, 1) := by decide +kernel
theorem dX2_decodeLocal_45 : decode cX2_decodeLocal 45 = .ok (.iadd, 1) := by decide +kernel
theorem dX2_decodeLocal_46 : decode cX2_decodeLocal 46 = .ok (.invokevirtual 139, 3) := by decide +kernel
theorem dX2_decodeLocal_49 : decode cX2_decodeLocal 49 = .ok (.sipush 132, 3) := by decide +kernel
theorem dX2_decodeLocal_52 : decode cX2_decodeLocal 52 = .ok (.if_icmp .ne 21, 3) := by decide +kernel
theorem dX2_decodeLocal_55 : decode cX2_decodeLocal 55 = .ok (.aload_n 0, 1) := by decide +kernel
theorem dX2_decodeLocal_56 : decode cX2_decodeLocal 56 = .ok (.iload_n 1, 1) := by decide +kernel
theorem dX2_decodeLocal_57 : decode cX2_decodeLocal 57 = .ok (.iconst 4, 1) := by decide +kernel
theorem dX2_decodeLocal_58 : decode cX2_decodeLocal 58 = .ok (.iadd, 1) := by decide +kernel
theorem dX2_decodeLocal_59 : decode cX2_decodeLocal 59 = .ok (.invokevirtual 180, 3) := by decide +kernel
theorem dX2_decodeLocal_62 : decode cX2_decodeLocal 62 = .ok (.i2s, 1) := by decide +kernel
theorem dX2_decodeLocal_63 : decode cX2_decodeLocal 63 = .ok (.i2l, 1) := by decide +kernel
theorem dX2_decodeLocal_64 : decode cX2_decodeLocal 64 = .ok (.bipush 8, 2) := by decide +kernel
theorem dX2_decodeLocal_66 : decode cX2_decodeLocal 66 = .ok (.lshl, 1) := by decide +kernel
theorem dX2_decodeLocal_67 : decode cX2_decodeLocal 67 = .ok (.iload_n 3, 1) := by decide +kernel
theorem dX2_decodeLocal_68 : decode cX2_decodeLocal 68 = .ok (.i2l, 1) := by decide +kernel
theorem dX2_decodeLocal_69 : decode cX2_decodeLocal 69 = .ok (.lor, 1) := by decide +kernel
theorem dX2_decodeLocal_70 : decode cX2_decodeLocal 70 = .ok (.goto 5, 3) := by decide +kernel
theorem dX2_decodeLocal_73 : decode cX2_decodeLocal 73 = .ok (.iload_n 3, 1) := by decide +kernel
theorem dX2_decodeLocal_74 : decode cX2_decodeLocal 74 = .ok (.i2l, 1) := by decide +kernel
theorem dX2_decodeLocal_75 : decode cX2_decodeLocal 75 = .ok (.invokevirtual 176, 3) := by decide +kernel
theorem dX2_decodeLocal_78 : decode cX2_decodeLocal 78 = .ok (.goto 191, 3) := by decide +kernel
theorem dX2_decodeLocal_81 : decode cX2_decodeLocal 81 = .ok (.iload_n 2, 1) := by decide +kernel
theorem dX2_decodeLocal_82 : decode cX2_decodeLocal 82 = .ok (.sipush 132, 3) := by decide +kernel
theorem dX2_decodeLocal_85 : decode cX2_decodeLocal 85 = .ok (.if_icmp .ne 34, 3) := by decide +kernel
theorem dX2_decodeLocal_88 : decode cX2_decodeLocal 88 = .ok (.aload_n 0, 1) := by decide +kernel
theorem dX2_decodeLocal_89 : decode cX2_decodeLocal 89 = .ok (.sipush 132, 3) := by decide +kernel
theorem dX2_decodeLocal_92 : decode cX2_decodeLocal 92 = .ok (.aload_n 0, 1) := by decide +kernel
theorem dX2_decodeLocal_93 : decode cX2_decodeLocal 93 = .ok (.iload_n 1, 1) := by decide +kernel
theorem dX2_decodeLocal_94 : decode cX2_decodeLocal 94 = .ok (.iconst 2, 1) := by decide +kernel
theorem dX2_decodeLocal_95 : decode cX2_decodeLocal 95 = .ok (.iadd, 1) := by decide +kernel
theorem dX2_decodeLocal_96 : decode cX2_decodeLocal 96 = .ok (.invokevirtual 139, 3) := by decide +kernel
theorem dX2_decodeLocal_99 : decode cX2_decodeLocal 99 = .ok (.i2b, 1) := by decide +kernel
theorem dX2_decodeLocal_100 : decode cX2_decodeLocal 100 = .ok (.i2l, 1) := by decide +kernel
theorem dX2_decodeLocal_101 : decode cX2_decodeLocal 101 = .ok (.bipush 8, 2) := by decide +kernel
theorem dX2_decodeLocal_103 : decode cX2_decodeLocal 103 = .ok (.lshl, 1) := by decide +kernel
theorem dX2_decodeLocal_104 : decode cX2_decodeLocal 104 = .ok (.aload_n 0, 1) := by decide +kernel
theorem dX2_decodeLocal_105 : decode cX2_decodeLocal 105 = .ok (.iload_n 1, 1) := by decide +kernel
theorem dX2_decodeLocal_106 : decode cX2_decodeLocal 106 = .ok (.iconst 1, 1) := by decide +kernel
theorem dX2_decodeLocal_107 : decode cX2_decodeLocal 107 = .ok (.iadd, 1) := by decide +kernel
theorem dX2_decodeLocal_108 : decode cX2_decodeLocal 108 = .ok (.invokevirtual 139, 3) := by decide +kernel
theorem dX2_decodeLocal_111 : decode cX2_decodeLocal 111 = .ok (.i2l, 1) := by decide +kernel
theorem dX2_decodeLocal_112 : decode cX2_decodeLocal 112 = .ok (.lor, 1) := by decide +kernel
theorem dX2_decodeLocal_113 : decode cX2_decodeLocal 113 = .ok (.invokevirtual 176, 3) := by decide +kernel
theorem dX2_decodeLocal_116 : decode cX2_decodeLocal 116 = .ok (.goto 153, 3) := by decide +kernel
theorem dX2_decodeLocal_119 : decode cX2_decodeLocal 119 = .ok (.iload_n 2, 1) := by decide +kernel
theorem dX2_decodeLocal_120 : decode cX2_decodeLocal 120 = .ok (.invokestatic 192, 3) := by decide +kernel
theorem dX2_decodeLocal_123 : decode cX2_decodeLocal 123 = .ok (.ifCond .eq 19, 3) := by decide +kernel
theorem dX2_decodeLocal_126 : decode cX2_decodeLocal 126 = .ok (.aload_n 0, 1) := by decide +kernel
theorem dX2_decodeLocal_127 : decode cX2_decodeLocal 127 = .ok (.iload_n 2, 1) := by decide +kernel
theorem dX2_decodeLocal_128 : decode cX2_decodeLocal 128 = .ok (.aload_n 0, 1) := by decide +kernel
theorem dX2_decodeLocal_129 : decode cX2_decodeLocal 129 = .ok (.iload_n 1, 1) := by decide +kernel
theorem dX2_decodeLocal_130 : decode cX2_decodeLocal 130 = .ok (.iconst 1, 1) := by decide +kernel
theorem dX2_decodeLocal_131 : decode cX2_decodeLocal 131 = .ok (.iadd, 1) := by decide +kernel
theorem dX2_decodeLocal_132 : decode cX2_decodeLocal 132 = .ok (.invokevirtual 139, 3) := by decide +kernel
theorem dX2_decodeLocal_135 : decode cX2_decodeLocal 135 = .ok (.i2l, 1) := by decide +kernel
theorem dX2_decodeLocal_136 : decode cX2_decodeLocal 136 = .ok (.invokevirtual 176, 3) := by decide +kernel
theorem dX2_decodeLocal_139 : decode cX2_decodeLocal 139 = .ok (.goto 130, 3) := by decide +kernel
theorem dX2_decodeLocal_142 : decode cX2_decodeLocal 142 = .ok (.iload_n 2, 1) := by decide +kernel
theorem dX2_decodeLocal_143 : decode cX2_decodeLocal 143 = .ok (.bipush 26, 2) := by decide +kernel
theorem dX2_decodeLocal_145 : decode cX2_decodeLocal 145 = .ok (.if_icmp .lt 36, 3) := by decide +kernel
theorem dX2_decodeLocal_148 : decode cX2_decodeLocal 148 = .ok (.iload_n 2, 1) := by decide +kernel
theorem dX2_decodeLocal_149 : decode cX2_decodeLocal 149 = .ok (.bipush 33, 2) := by decide +kernel
theorem dX2_decodeLocal_151 : decode cX2_decodeLocal 151 = .ok (.if_icmp .gt 30, 3) := by decide +kernel
theorem dX2_decodeLocal_154 : decode cX2_decodeLocal 154 = .ok (.aload_n 0, 1) := by decide +kernel
theorem dX2_decodeLocal_155 : decode cX2_decodeLocal 155 = .ok (.iload_n 2, 1) := by decide +kernel
theorem dX2_decodeLocal_156 : decode cX2_decodeLocal 156 = .ok (.bipush 30, 2) := by decide +kernel
theorem dX2_decodeLocal_158 : decode cX2_decodeLocal 158 = .ok (.if_icmp .ge 8, 3) := by decide +kernel
theorem dX2_decodeLocal_161 : decode cX2_decodeLocal 161 = .ok (.bipush 21, 2) := by decide +kernel
theorem dX2_decodeLocal_163 : decode cX2_decodeLocal 163 = .ok (.goto 5, 3) := by decide +kernel
theorem dX2_decodeLocal_166 : decode cX2_decodeLocal 166 = .ok (.bipush 22, 2) := by decide +kernel
theorem dX2_decodeLocal_168 : decode cX2_decodeLocal 168 = .ok (.iload_n 2, 1) := by decide +kernel
theorem dX2_decodeLocal_169 : decode cX2_decodeLocal 169 = .ok (.bipush 26, 2) := by decide +kernel
theorem dX2_decodeLocal_171 : decode cX2_decodeLocal 171 = .ok (.isub, 1) := by decide +kernel
theorem dX2_decodeLocal_172 : decode cX2_decodeLocal 172 = .ok (.iconst 3, 1) := by decide +kernel
theorem dX2_decodeLocal_173 : decode cX2_decodeLocal 173 = .ok (.iand, 1) := by decide +kernel
theorem dX2_decodeLocal_174 : decode cX2_decodeLocal 174 = .ok (.i2l, 1) := by decide +kernel
theorem dX2_decodeLocal_175 : decode cX2_decodeLocal 175 = .ok (.invokevirtual 176, 3) := by decide +kernel
theorem dX2_decodeLocal_178 : decode cX2_decodeLocal 178 = .ok (.goto 91, 3) := by decide +kernel
theorem dX2_decodeLocal_181 : decode cX2_decodeLocal 181 = .ok (.iload_n 2, 1) := by decide +kernel
theorem dX2_decodeLocal_182 : decode cX2_decodeLocal 182 = .ok (.bipush 42, 2) := by decide +kernel
theorem dX2_decodeLocal_184 : decode cX2_decodeLocal 184 = .ok (.if_icmp .lt 23, 3) := by decide +kernel
theorem dX2_decodeLocal_187 : decode cX2_decodeLocal 187 = .ok (.iload_n 2, 1) := by decide +kernel
theorem dX2_decodeLocal_188 : decode cX2_decodeLocal 188 = .ok (.bipush 45, 2) := by decide +kernel
theorem dX2_decodeLocal_190 : decode cX2_decodeLocal 190 = .ok (.if_icmp .gt 17, 3) := by decide +kernel
theorem dX2_decodeLocal_193 : decode cX2_decodeLocal 193 = .ok (.aload_n 0, 1) := by decide +kernel
theorem dX2_decodeLocal_194 : decode cX2_decodeLocal 194 = .ok (.bipush 25, 2) := by decide +kernel
theorem dX2_decodeLocal_196 : decode cX2_decodeLocal 196 = .ok (.iload_n 2, 1) := by decide +kernel
theorem dX2_decodeLocal_197 : decode cX2_decodeLocal 197 = .ok (.bipush 42, 2) := by decide +kernel
theorem dX2_decodeLocal_199 : decode cX2_decodeLocal 199 = .ok (.isub, 1) := by decide +kernel
theorem dX2_decodeLocal_200 : decode cX2_decodeLocal 200 = .ok (.i2l, 1) := by decide +kernel
theorem dX2_decodeLocal_201 : decode cX2_decodeLocal 201 = .ok (.invokevirtual 176, 3) := by decide +kernel
theorem dX2_decodeLocal_204 : decode cX2_decodeLocal 204 = .ok (.goto 65, 3) := by decide +kernel
theorem dX2_decodeLocal_207 : decode cX2_decodeLocal 207 = .ok (.iload_n 2, 1) := by decide +kernel
theorem dX2_decodeLocal_208 : decode cX2_decodeLocal 208 = .ok (.bipush 59, 2) := by decide +kernel
theorem dX2_decodeLocal_210 : decode cX2_decodeLocal 210 = .ok (.if_icmp .lt 36, 3) := by decide +kernel
theorem dX2_decodeLocal_213 : decode cX2_decodeLocal 213 = .ok (.iload_n 2, 1) := by decide +kernel
theorem dX2_decodeLocal_214 : decode cX2_decodeLocal 214 = .ok (.bipush 66, 2) := by decide +kernel
theorem dX2_decodeLocal_216 : decode cX2_decodeLocal 216 = .ok (.if_icmp .gt 30, 3) := by decide +kernel
theorem dX2_decodeLocal_219 : decode cX2_decodeLocal 219 = .ok (.aload_n 0, 1) := by decide +kernel
theorem dX2_decodeLocal_220 : decode cX2_decodeLocal 220 = .ok (.iload_n 2, 1) := by decide +kernel
theorem dX2_decodeLocal_221 : decode cX2_decodeLocal 221 = .ok (.bipush 63, 2) := by decide +kernel
theorem dX2_decodeLocal_223 : decode cX2_decodeLocal 223 = .ok (.if_icmp .ge 8, 3) := by decide +kernel
theorem dX2_decodeLocal_226 : decode cX2_decodeLocal 226 = .ok (.bipush 54, 2) := by decide +kernel
theorem dX2_decodeLocal_228 : decode cX2_decodeLocal 228 = .ok (.goto 5, 3) := by decide +kernel
theorem dX2_decodeLocal_231 : decode cX2_decodeLocal 231 = .ok (.bipush 55, 2) := by decide +kernel
theorem dX2_decodeLocal_233 : decode cX2_decodeLocal 233 = .ok (.iload_n 2, 1) := by decide +kernel
theorem dX2_decodeLocal_234 : decode cX2_decodeLocal 234 = .ok (.bipush 59, 2) := by decide +kernel
theorem dX2_decodeLocal_236 : decode cX2_decodeLocal 236 = .ok (.isub, 1) := by decide +kernel
theorem dX2_decodeLocal_237 : decode cX2_decodeLocal 237 = .ok (.iconst 3, 1) := by decide +kernel
theorem dX2_decodeLocal_238 : decode cX2_decodeLocal 238 = .ok (.iand, 1) := by decide +kernel
theorem dX2_decodeLocal_239 : decode cX2_decodeLocal 239 = .ok (.i2l, 1) := by decide +kernel
theorem dX2_decodeLocal_240 : decode cX2_decodeLocal 240 = .ok (.invokevirtual 176, 3) := by decide +kernel
theorem dX2_decodeLocal_243 : decode cX2_decodeLocal 243 = .ok (.goto 26, 3) := by decide +kernel
theorem dX2_decodeLocal_246 : decode cX2_decodeLocal 246 = .ok (.iload_n 2, 1) := by decide +kernel
theorem dX2_decodeLocal_247 : decode cX2_decodeLocal 247 = .ok (.bipush 75, 2) := by decide +kernel
theorem dX2_decodeLocal_249 : decode cX2_decodeLocal 249 = .ok (.if_icmp .lt 20, 3) := by decide +kernel
theorem dX2_decodeLocal_252 : decode cX2_decodeLocal 252 = .ok (.iload_n 2, 1) := by decide +kernel
theorem dX2_decodeLocal_253 : decode cX2_decodeLocal 253 = .ok (.bipush 78, 2) := by decide +kernel
theorem dX2_decodeLocal_255 : decode cX2_decodeLocal 255 = .ok (.if_icmp .gt 14, 3) := by decide +kernel
theorem dX2_decodeLocal_258 : decode cX2_decodeLocal 258 = .ok (.aload_n 0, 1) := by decide +kernel
theorem dX2_decodeLocal_259 : decode cX2_decodeLocal 259 = .ok (.bipush 58, 2) := by decide +kernel
theorem dX2_decodeLocal_261 : decode cX2_decodeLocal 261 = .ok (.iload_n 2, 1) := by decide +kernel
theorem dX2_decodeLocal_262 : decode cX2_decodeLocal 262 = .ok (.bipush 75, 2) := by decide +kernel
theorem dX2_decodeLocal_264 : decode cX2_decodeLocal 264 = .ok (.isub, 1) := by decide +kernel
theorem dX2_decodeLocal_265 : decode cX2_decodeLocal 265 = .ok (.i2l, 1) := by decide +kernel
theorem dX2_decodeLocal_266 : decode cX2_decodeLocal 266 = .ok (.invokevirtual 176, 3) := by decide +kernel
theorem dX2_decodeLocal_269 : decode cX2_decodeLocal 269 = .ok (.return_, 1) := by decide +kernel

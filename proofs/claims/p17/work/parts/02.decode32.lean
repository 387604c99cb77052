theorem dX2_decode_146 : decode cX2_decode 146 = .ok (.if_icmp .ne 24, 3) := by decide +kernel
theorem dX2_decode_149 : decode cX2_decode 149 = .ok (.aload_n 0, 1) := by decide +kernel
theorem dX2_decode_150 : decode cX2_decode 150 = .ok (.sipush 167, 3) := by decide +kernel
theorem dX2_decode_153 : decode cX2_decode 153 = .ok (.iload_n 1, 1) := by decide +kernel
theorem dX2_decode_154 : decode cX2_decode 154 = .ok (.i2l, 1) := by decide +kernel
theorem dX2_decode_155 : decode cX2_decode 155 = .ok (.aload_n 0, 1) := by decide +kernel
theorem dX2_decode_156 : decode cX2_decode 156 = .ok (.iload_n 1, 1) := by decide +kernel
theorem dX2_decode_157 : decode cX2_decode 157 = .ok (.iconst 1, 1) := by decide +kernel
theorem dX2_decode_158 : decode cX2_decode 158 = .ok (.iadd, 1) := by decide +kernel
theorem dX2_decode_159 : decode cX2_decode 159 = .ok (.invokevirtual 163, 3) := by decide +kernel
theorem dX2_decode_162 : decode cX2_decode 162 = .ok (.i2l, 1) := by decide +kernel
theorem dX2_decode_163 : decode cX2_decode 163 = .ok (.ladd, 1) := by decide +kernel
theorem dX2_decode_164 : decode cX2_decode 164 = .ok (.invokevirtual 176, 3) := by decide +kernel
theorem dX2_decode_167 : decode cX2_decode 167 = .ok (.goto 85, 3) := by decide +kernel
theorem dX2_decode_170 : decode cX2_decode 170 = .ok (.iload_n 2, 1) := by decide +kernel
theorem dX2_decode_171 : decode cX2_decode 171 = .ok (.invokestatic 181, 3) := by decide +kernel
theorem dX2_decode_174 : decode cX2_decode 174 = .ok (.ifCond .eq 22, 3) := by decide +kernel
theorem dX2_decode_177 : decode cX2_decode 177 = .ok (.aload_n 0, 1) := by decide +kernel
theorem dX2_decode_178 : decode cX2_decode 178 = .ok (.iload_n 2, 1) := by decide +kernel
theorem dX2_decode_179 : decode cX2_decode 179 = .ok (.iload_n 1, 1) := by decide +kernel
theorem dX2_decode_180 : decode cX2_decode 180 = .ok (.aload_n 0, 1) := by decide +kernel
theorem dX2_decode_181 : decode cX2_decode 181 = .ok (.iload_n 1, 1) := by decide +kernel
theorem dX2_decode_182 : decode cX2_decode 182 = .ok (.iconst 1, 1) := by decide +kernel
theorem dX2_decode_183 : decode cX2_decode 183 = .ok (.iadd, 1) := by decide +kernel
theorem dX2_decode_184 : decode cX2_decode 184 = .ok (.invokevirtual 180, 3) := by decide +kernel
theorem dX2_decode_187 : decode cX2_decode 187 = .ok (.i2s, 1) := by decide +kernel
theorem dX2_decode_188 : decode cX2_decode 188 = .ok (.iadd, 1) := by decide +kernel
theorem dX2_decode_189 : decode cX2_decode 189 = .ok (.i2l, 1) := by decide +kernel
theorem dX2_decode_190 : decode cX2_decode 190 = .ok (.invokevirtual 176, 3) := by decide +kernel
theorem dX2_decode_193 : decode cX2_decode 193 = .ok (.goto 59, 3) := by decide +kernel
theorem dX2_decode_196 : decode cX2_decode 196 = .ok (.iload_n 2, 1) := by decide +kernel
theorem dX2_decode_197 : decode cX2_decode 197 = .ok (.invokestatic 184, 3) := by decide +kernel
theorem dX2_decode_200 : decode cX2_decode 200 = .ok (.ifCond .eq 16, 3) := by decide +kernel
theorem dX2_decode_203 : decode cX2_decode 203 = .ok (.aload_n 0, 1) := by decide +kernel
theorem dX2_decode_204 : decode cX2_decode 204 = .ok (.iload_n 2, 1) := by decide +kernel
theorem dX2_decode_205 : decode cX2_decode 205 = .ok (.iload_n 1, 1) := by decide +kernel
theorem dX2_decode_206 : decode cX2_decode 206 = .ok (.invokestatic 160, 3) := by decide +kernel
theorem dX2_decode_209 : decode cX2_decode 209 = .ok (.i2l, 1) := by decide +kernel
theorem dX2_decode_210 : decode cX2_decode 210 = .ok (.invokevirtual 176, 3) := by decide +kernel
theorem dX2_decode_213 : decode cX2_decode 213 = .ok (.goto 39, 3) := by decide +kernel
theorem dX2_decode_216 : decode cX2_decode 216 = .ok (.iload_n 2, 1) := by decide +kernel
theorem dX2_decode_217 : decode cX2_decode 217 = .ok (.invokestatic 149, 3) := by decide +kernel
theorem dX2_decode_220 : decode cX2_decode 220 = .ok (.iconst 3, 1) := by decide +kernel
theorem dX2_decode_221 : decode cX2_decode 221 = .ok (.if_icmp .ne 26, 3) := by decide +kernel
theorem dX2_decode_224 : decode cX2_decode 224 = .ok (.iload_n 2, 1) := by decide +kernel
theorem dX2_decode_225 : decode cX2_decode 225 = .ok (.sipush 132, 3) := by decide +kernel
theorem dX2_decode_228 : decode cX2_decode 228 = .ok (.if_icmp .eq 19, 3) := by decide +kernel
theorem dX2_decode_231 : decode cX2_decode 231 = .ok (.aload_n 0, 1) := by decide +kernel
theorem dX2_decode_232 : decode cX2_decode 232 = .ok (.iload_n 2, 1) := by decide +kernel
theorem dX2_decode_233 : decode cX2_decode 233 = .ok (.aload_n 0, 1) := by decide +kernel
theorem dX2_decode_234 : decode cX2_decode 234 = .ok (.iload_n 1, 1) := by decide +kernel
theorem dX2_decode_235 : decode cX2_decode 235 = .ok (.iconst 1, 1) := by decide +kernel
theorem dX2_decode_236 : decode cX2_decode 236 = .ok (.iadd, 1) := by decide +kernel
theorem dX2_decode_237 : decode cX2_decode 237 = .ok (.invokevirtual 180, 3) := by decide +kernel
theorem dX2_decode_240 : decode cX2_decode 240 = .ok (.i2l, 1) := by decide +kernel
theorem dX2_decode_241 : decode cX2_decode 241 = .ok (.invokevirtual 176, 3) := by decide +kernel
theorem dX2_decode_244 : decode cX2_decode 244 = .ok (.goto 8, 3) := by decide +kernel
theorem dX2_decode_247 : decode cX2_decode 247 = .ok (.aload_n 0, 1) := by decide +kernel
theorem dX2_decode_248 : decode cX2_decode 248 = .ok (.iload_n 1, 1) := by decide +kernel
theorem dX2_decode_249 : decode cX2_decode 249 = .ok (.invokevirtual 187, 3) := by decide +kernel
theorem dX2_decode_252 : decode cX2_decode 252 = .ok (.return_, 1) := by decide +kernel
theorem dX2_decodeLocal_0 : decode cX2_decodeLocal 0 = .ok (.aload_n 0, 1) := by decide +kernel
theorem dX2_decodeLocal_1 : decode cX2_decodeLocal 1 = .ok (.iload_n 1, 1) := by decide +kernel
theorem dX2_decodeLocal_2 : decode cX2_decodeLocal 2 = .ok (.invokevirtual 139, 3) := by decide +kernel
theorem dX2_decodeLocal_5 : decode cX2_decodeLocal 5 = .ok (.istore_n 2, 1) := by decide +kernel
theorem dX2_decodeLocal_6 : decode cX2_decodeLocal 6 = .ok (.iload_n 2, 1) := by decide +kernel
theorem dX2_decodeLocal_7 : decode cX2_decodeLocal 7 = .ok (.sipush 196, 3) := by decide +kernel
theorem dX2_decodeLocal_10 : decode cX2_decodeLocal 10 = .ok (.if_icmp .ne 71, 3) := by decide +kernel
theorem dX2_decodeLocal_13 : decode cX2_decodeLocal 13 = .ok (.aload_n 0, 1) := by decide +kernel
theorem dX2_decodeLocal_14 : decode cX2_decodeLocal 14 = .ok (.iload_n 1, 1) := by decide +kernel
theorem dX2_decodeLocal_15 : decode cX2_decodeLocal 15 = .ok (.iconst 2, 1) := by decide +kernel
theorem dX2_decodeLocal_16 : decode cX2_decodeLocal 16 = .ok (.iadd, 1) := by decide +kernel
theorem dX2_decodeLocal_17 : decode cX2_decodeLocal 17 = .ok (.invokevirtual 180, 3) := by decide +kernel
theorem dX2_decodeLocal_20 : decode cX2_decodeLocal 20 = .ok (.istore_n 3, 1) := by decide +kernel
theorem dX2_decodeLocal_21 : decode cX2_decodeLocal 21 = .ok (.aload_n 0, 1) := by decide +kernel
theorem dX2_decodeLocal_22 : decode cX2_decodeLocal 22 = .ok (.aload_n 0, 1) := by decide +kernel
theorem dX2_decodeLocal_23 : decode cX2_decodeLocal 23 = .ok (.iload_n 1, 1) := by decide +kernel
theorem dX2_decodeLocal_24 : decode cX2_decodeLocal 24 = .ok (.iconst 1, 1) := by decide +kernel
theorem dX2_decodeLocal_25 : decode cX2_decodeLocal 25 = .ok (.iadd, 1) := by decide +kernel
theorem dX2_decodeLocal_26 : decode cX2_decodeLocal 26 = .ok (.invokevirtual 139, 3) := by decide +kernel
theorem dX2_decodeLocal_29 : decode cX2_decodeLocal 29 = .ok (.iload_n 3, 1) := by decide +kernel
theorem dX2_decodeLocal_30 : decode cX2_decodeLocal 30 = .ok (.sipush 255, 3) := by decide +kernel
theorem dX2_decodeLocal_33 : decode cX2_decodeLocal 33 = .ok (.if_icmp .le 9, 3) := by decide +kernel
theorem dX2_decodeLocal_36 : decode cX2_decodeLocal 36 = .ok (.ldc2_w 190, 3) := by decide +kernel
theorem dX2_decodeLocal_39 : decode cX2_decodeLocal 39 = .ok (.goto 36, 3) := by decide +kernel
theorem dX2_decodeLocal_42 : decode cX2_decodeLocal 42 = .ok (.aload_n 0, 1) := by decide +kernel
theorem dX2_decodeLocal_43 : decode cX2_decodeLocal 43 = .ok (.iload_n 1, 1) := by decide +kernel
theorem dX2_decodeLocal_44 : decode cX2_decodeLocal 44 = .ok (.iconst 1, 1) := by decide +kernel
theorem dX2_decodeLocal_45 : decode cX2_decodeLocal 45 = .ok (.iadd, 1) := by decide +kernel
theorem dX2_decodeLocal_46 : decode cX2_decodeLocal 46 = .ok (.invokevirtual 139, 3) := by decide +kernel
theorem dX2_decodeLocal_49 : decode cX2_decodeLocal 49 = .ok (.sipush 132, 3) := by decide +kernel
theorem dX2_decodeLocal_52 : decode cX2_decodeLocal 52 = .ok (.if_icmp .ne 21, 3) := by decide +kernel
theorem dX2_decodeLocal_55 : decode cX2_decodeLocal 55 = .ok (.aload_n 0, 1) := by decide +kernel
theorem dX2_decodeLocal_56 : decode cX2_decodeLocal 56 = .ok (.iload_n 1, 1) := by decide +kernel
theorem dX2_decodeLocal_57 : decode cX2_decodeLocal 57 = .ok (.iconst 4, 1) := by decide +kernel
theorem dX2_decodeLocal_58 : decode cX2_decodeLocal 58 = .ok (.iadd, 1) := by decide +kernel
theorem dX2_decodeLocal_59 : decode cX2_decodeLocal 59 = .ok (.invokevirtual 180, 3) := by decide +kernel
theorem dX2_decodeLocal_62 : decode cX2_decodeLocal 62 = .ok (.i2s, 1) := by decide +kernel
theorem dX2_decodeLocal_63 : decode cX2_decodeLocal 63 = .ok (.i2l, 1) := by decide +kernel
theorem dX2_decodeLocal_64 : decode cX2_decodeLocal 64 = .ok (.bipush 8, 2) := by decide +kernel
theorem dX2_decodeLocal_66 : decode cX2_decodeLocal 66 = .ok (.lshl, 1) := by decide +kernel
theorem dX2_decodeLocal_67 : decode cX2_decodeLocal 67 = .ok (.iload_n 3, 1) := by decide +kernel
theorem dX2_decodeLocal_68 : decode cX2_decodeLocal 68 = .ok (.i2l, 1) := by decide +kernel
theorem dX2_decodeLocal_69 : decode cX2_decodeLocal 69 = .ok (.lor, 1) := by decide +kernel
theorem dX2_decodeLocal_70 : decode cX2_decodeLocal 70 = .ok (.goto 5, 3) := by decide +kernel
theorem dX2_decodeLocal_73 : decode cX2_decodeLocal 73 = .ok (.iload_n 3, 1) := by decide +kernel
theorem dX2_decodeLocal_74 : decode cX2_decodeLocal 74 = .ok (.i2l, 1) := by decide +kernel
theorem dX2_decodeLocal_75 : decode cX2_decodeLocal 75 = .ok (.invokevirtual 176, 3) := by decide +kernel
theorem dX2_decodeLocal_78 : decode cX2_decodeLocal 78 = .ok (.goto 191, 3) := by decide +kernel
theorem dX2_decodeLocal_81 : decode cX2_decodeLocal 81 = .ok (.iload_n 2, 1) := by decide +kernel
theorem dX2_decodeLocal_82 : decode cX2_decodeLocal 82 = .ok (.sipush 132, 3) := by decide +kernel
theorem dX2_decodeLocal_85 : decode cX2_decodeLocal 85 = .ok (.if_icmp .ne 34, 3) := by decide +kernel
theorem dX2_decodeLocal_88 : decode cX2_decodeLocal 88 = .ok (.aload_n 0, 1) := by decide +kernel
theorem dX2_decodeLocal_89 : decode cX2_decodeLocal 89 = .ok (.sipush 132, 3) := by decide +kernel
theorem dX2_decodeLocal_92 : decode cX2_decodeLocal 92 = .ok (.aload_n 0, 1) := by decide +kernel
theorem dX2_decodeLocal_93 : decode cX2_decodeLocal 93 = .ok (.iload_n 1, 1) := by decide +kernel
theorem dX2_decodeLocal_94 : decode cX2_decodeLocal 94 = .ok (.iconst 2, 1) := by decide +kernel
theorem dX2_decodeLocal_95 : decode cX2_decodeLocal 95 = .ok (.iadd, 1) := by decide +kernel
theorem dX2_decodeLocal_96 : decode cX2_decodeLocal 96 = .ok (.invokevirtual 139, 3) := by decide +kernel
theorem dX2_decodeLocal_99 : decode cX2_decodeLocal 99 = .ok (.i2b, 1) := by decide +kernel
theorem dX2_decodeLocal_100 : decode cX2_decodeLocal 100 = .ok (.i2l, 1) := by decide +kernel
theorem dX2_decodeLocal_101 : decode cX2_decodeLocal 101 = .ok (.bipush 8, 2) := by decide +kernel
theorem dX2_decodeLocal_103 : decode cX2_decodeLocal 103 = .ok (.lshl, 1) := by decide +kernel
theorem dX2_decodeLocal_104 : decode cX2_decodeLocal 104 = .ok (.aload_n 0, 1) := by decide +kernel
theorem dX2_decodeLocal_105 : decode cX2_decodeLocal 105 = .ok (.iload_n 1, 1) := by decide +kernel
theorem dX2_decodeLocal_106 : decode cX2_decodeLocal 106 = .ok (.iconst 1, 1) := by decide +kernel
theorem dX2_decodeLocal_107 : decode cX2_decodeLocal 107 = .ok (.iadd, 1) := by decide +kernel
theorem dX2_decodeLocal_108 : decode cX2_decodeLocal 108 = .ok (.invokevirtual 139, 3) := by decide +kernel
theorem dX2_decodeLocal_111 : decode cX2_decodeLocal 111 = .ok (.i2l, 1) := by decide +kernel
theorem dX2_decodeLocal_112 : decode cX2_decodeLocal 112 = .ok (.lor, 1) := by decide +kernel
theorem dX2_decodeLocal_113 : decode cX2_decodeLocal 113 = .ok (.invokevirtual 176, 3) := by decide +kernel
theorem dX2_decodeLocal_116 : decode cX2_decodeLocal 116 = .ok (.goto 153, 3) := by decide +kernel
theorem dX2_decodeLocal_119 : decode cX2_decodeLocal 119 = .ok (.iload_n 2, 1) := by decide +kernel
theorem dX2_decodeLocal_120 : decode cX2_decodeLocal 120 = .ok (.invokestatic 192, 3) := by decide +kernel
theorem dX2_decodeLocal_123 : decode cX2_decodeLocal 123 = .ok (.ifCond .eq 19, 3) := by decide +kernel
theorem dX2_decodeLocal_126 : decode cX2_decodeLocal 126 = .ok (.aload_n 0, 1) := by decide +kernel
theorem dX2_decodeLocal_127 : decode cX2_decodeLocal 127 = .ok (.iload_n 2, 1) := by decide +kernel
theorem dX2_decodeLocal_128 : decode cX2_decodeLocal 128 = .ok (.aload_n 0, 1) := by decide +kernel
theorem dX2_decodeLocal_129 : decode cX2_decodeLocal 129 = .ok (.iload_n 1, 1) := by decide +kernel
theorem dX2_decodeLocal_130 : decode cX2_decodeLocal 130 = .ok (.iconst 1, 1) := by decide +kernel
theorem dX2_decodeLocal_131 : decode cX2_decodeLocal 131 = .ok (.iadd, 1) := by decide +kernel
theorem dX2_decodeLocal_132 : decode cX2_decodeLocal 132 = .ok (.invokevirtual 139, 3) := by decide +kernel
theorem dX2_decodeLocal_135 : decode cX2_decodeLocal 135 = .ok (.i2l, 1) := by decide +kernel
theorem dX2_decodeLocal_136 : decode cX2_decodeLocal 136 = .ok (.invokevirtual 176, 3) := by decide +kernel
theorem dX2_decodeLocal_139 : decode cX2_decodeLocal 139 = .ok (.goto 130, 3) := by decide +kernel
theorem dX2_decodeLocal_142 : decode cX2_decodeLocal 142 = .ok (.iload_n 2, 1) := by decide +kernel
theorem dX2_decodeLocal_143 : decode cX2_decodeLocal 143 = .ok (.bipush 26, 2) := by decide +kernel
theorem dX2_decodeLocal_145 : decode cX2_decodeLocal 145 = .ok (.if_icmp .lt 36, 3) := by decide +kernel
theorem dX2_decodeLocal_148 : decode cX2_decodeLocal 148 = .ok (.iload_n 2, 1) := by decide +kernel
theorem dX2_decodeLocal_149 : decode cX2_decodeLocal 149 = .ok (.bipush 33, 2) := by decide +kernel

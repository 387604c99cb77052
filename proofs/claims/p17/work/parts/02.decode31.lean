theorem dX2_catchesHold_190 : decode cX2_catchesHold 190 = .ok (.ireturn, 1) := by decide +kernel
theorem dX2_decode_0 : decode cX2_decode 0 = .ok (.aload_n 0, 1) := by decide +kernel
theorem dX2_decode_1 : decode cX2_decode 1 = .ok (.iload_n 1, 1) := by decide +kernel
theorem dX2_decode_2 : decode cX2_decode 2 = .ok (.invokevirtual 139, 3) := by decide +kernel
theorem dX2_decode_5 : decode cX2_decode 5 = .ok (.istore_n 2, 1) := by decide +kernel
theorem dX2_decode_6 : decode cX2_decode 6 = .ok (.aload_n 0, 1) := by decide +kernel
theorem dX2_decode_7 : decode cX2_decode 7 = .ok (.iload_n 1, 1) := by decide +kernel
theorem dX2_decode_8 : decode cX2_decode 8 = .ok (.putfield 166, 3) := by decide +kernel
theorem dX2_decode_11 : decode cX2_decode 11 = .ok (.aload_n 0, 1) := by decide +kernel
theorem dX2_decode_12 : decode cX2_decode 12 = .ok (.iload_n 2, 1) := by decide +kernel
theorem dX2_decode_13 : decode cX2_decode 13 = .ok (.putfield 169, 3) := by decide +kernel
theorem dX2_decode_16 : decode cX2_decode 16 = .ok (.aload_n 0, 1) := by decide +kernel
theorem dX2_decode_17 : decode cX2_decode 17 = .ok (.lconst 0, 1) := by decide +kernel
theorem dX2_decode_18 : decode cX2_decode 18 = .ok (.putfield 172, 3) := by decide +kernel
theorem dX2_decode_21 : decode cX2_decode 21 = .ok (.iload_n 2, 1) := by decide +kernel
theorem dX2_decode_22 : decode cX2_decode 22 = .ok (.iconst 2, 1) := by decide +kernel
theorem dX2_decode_23 : decode cX2_decode 23 = .ok (.if_icmp .lt 22, 3) := by decide +kernel
theorem dX2_decode_26 : decode cX2_decode 26 = .ok (.iload_n 2, 1) := by decide +kernel
theorem dX2_decode_27 : decode cX2_decode 27 = .ok (.bipush 8, 2) := by decide +kernel
theorem dX2_decode_29 : decode cX2_decode 29 = .ok (.if_icmp .gt 16, 3) := by decide +kernel
theorem dX2_decode_32 : decode cX2_decode 32 = .ok (.aload_n 0, 1) := by decide +kernel
theorem dX2_decode_33 : decode cX2_decode 33 = .ok (.bipush 17, 2) := by decide +kernel
theorem dX2_decode_35 : decode cX2_decode 35 = .ok (.iload_n 2, 1) := by decide +kernel
theorem dX2_decode_36 : decode cX2_decode 36 = .ok (.iconst 3, 1) := by decide +kernel
theorem dX2_decode_37 : decode cX2_decode 37 = .ok (.isub, 1) := by decide +kernel
theorem dX2_decode_38 : decode cX2_decode 38 = .ok (.i2l, 1) := by decide +kernel
theorem dX2_decode_39 : decode cX2_decode 39 = .ok (.invokevirtual 176, 3) := by decide +kernel
theorem dX2_decode_42 : decode cX2_decode 42 = .ok (.goto 210, 3) := by decide +kernel
theorem dX2_decode_45 : decode cX2_decode 45 = .ok (.iload_n 2, 1) := by decide +kernel
theorem dX2_decode_46 : decode cX2_decode 46 = .ok (.bipush 9, 2) := by decide +kernel
theorem dX2_decode_48 : decode cX2_decode 48 = .ok (.if_icmp .eq 9, 3) := by decide +kernel
theorem dX2_decode_51 : decode cX2_decode 51 = .ok (.iload_n 2, 1) := by decide +kernel
theorem dX2_decode_52 : decode cX2_decode 52 = .ok (.bipush 10, 2) := by decide +kernel
theorem dX2_decode_54 : decode cX2_decode 54 = .ok (.if_icmp .ne 17, 3) := by decide +kernel
theorem dX2_decode_57 : decode cX2_decode 57 = .ok (.aload_n 0, 1) := by decide +kernel
theorem dX2_decode_58 : decode cX2_decode 58 = .ok (.bipush 9, 2) := by decide +kernel
theorem dX2_decode_60 : decode cX2_decode 60 = .ok (.iload_n 2, 1) := by decide +kernel
theorem dX2_decode_61 : decode cX2_decode 61 = .ok (.bipush 9, 2) := by decide +kernel
theorem dX2_decode_63 : decode cX2_decode 63 = .ok (.isub, 1) := by decide +kernel
theorem dX2_decode_64 : decode cX2_decode 64 = .ok (.i2l, 1) := by decide +kernel
theorem dX2_decode_65 : decode cX2_decode 65 = .ok (.invokevirtual 176, 3) := by decide +kernel
theorem dX2_decode_68 : decode cX2_decode 68 = .ok (.goto 184, 3) := by decide +kernel
theorem dX2_decode_71 : decode cX2_decode 71 = .ok (.iload_n 2, 1) := by decide +kernel
theorem dX2_decode_72 : decode cX2_decode 72 = .ok (.bipush 16, 2) := by decide +kernel
theorem dX2_decode_74 : decode cX2_decode 74 = .ok (.if_icmp .ne 21, 3) := by decide +kernel
theorem dX2_decode_77 : decode cX2_decode 77 = .ok (.aload_n 0, 1) := by decide +kernel
theorem dX2_decode_78 : decode cX2_decode 78 = .ok (.bipush 17, 2) := by decide +kernel
theorem dX2_decode_80 : decode cX2_decode 80 = .ok (.aload_n 0, 1) := by decide +kernel
theorem dX2_decode_81 : decode cX2_decode 81 = .ok (.iload_n 1, 1) := by decide +kernel
theorem dX2_decode_82 : decode cX2_decode 82 = .ok (.iconst 1, 1) := by decide +kernel
theorem dX2_decode_83 : decode cX2_decode 83 = .ok (.iadd, 1) := by decide +kernel
theorem dX2_decode_84 : decode cX2_decode 84 = .ok (.invokevirtual 139, 3) := by decide +kernel
theorem dX2_decode_87 : decode cX2_decode 87 = .ok (.i2b, 1) := by decide +kernel
theorem dX2_decode_88 : decode cX2_decode 88 = .ok (.i2l, 1) := by decide +kernel
theorem dX2_decode_89 : decode cX2_decode 89 = .ok (.invokevirtual 176, 3) := by decide +kernel
theorem dX2_decode_92 : decode cX2_decode 92 = .ok (.goto 160, 3) := by decide +kernel
theorem dX2_decode_95 : decode cX2_decode 95 = .ok (.iload_n 2, 1) := by decide +kernel
theorem dX2_decode_96 : decode cX2_decode 96 = .ok (.bipush 17, 2) := by decide +kernel
theorem dX2_decode_98 : decode cX2_decode 98 = .ok (.if_icmp .ne 21, 3) := by decide +kernel
theorem dX2_decode_101 : decode cX2_decode 101 = .ok (.aload_n 0, 1) := by decide +kernel
theorem dX2_decode_102 : decode cX2_decode 102 = .ok (.bipush 17, 2) := by decide +kernel
theorem dX2_decode_104 : decode cX2_decode 104 = .ok (.aload_n 0, 1) := by decide +kernel
theorem dX2_decode_105 : decode cX2_decode 105 = .ok (.iload_n 1, 1) := by decide +kernel
theorem dX2_decode_106 : decode cX2_decode 106 = .ok (.iconst 1, 1) := by decide +kernel
theorem dX2_decode_107 : decode cX2_decode 107 = .ok (.iadd, 1) := by decide +kernel
theorem dX2_decode_108 : decode cX2_decode 108 = .ok (.invokevirtual 180, 3) := by decide +kernel
theorem dX2_decode_111 : decode cX2_decode 111 = .ok (.i2s, 1) := by decide +kernel
theorem dX2_decode_112 : decode cX2_decode 112 = .ok (.i2l, 1) := by decide +kernel
theorem dX2_decode_113 : decode cX2_decode 113 = .ok (.invokevirtual 176, 3) := by decide +kernel
theorem dX2_decode_116 : decode cX2_decode 116 = .ok (.goto 136, 3) := by decide +kernel
theorem dX2_decode_119 : decode cX2_decode 119 = .ok (.iload_n 2, 1) := by decide +kernel
theorem dX2_decode_120 : decode cX2_decode 120 = .ok (.bipush 18, 2) := by decide +kernel
theorem dX2_decode_122 : decode cX2_decode 122 = .ok (.if_icmp .ne 20, 3) := by decide +kernel
theorem dX2_decode_125 : decode cX2_decode 125 = .ok (.aload_n 0, 1) := by decide +kernel
theorem dX2_decode_126 : decode cX2_decode 126 = .ok (.bipush 19, 2) := by decide +kernel
theorem dX2_decode_128 : decode cX2_decode 128 = .ok (.aload_n 0, 1) := by decide +kernel
theorem dX2_decode_129 : decode cX2_decode 129 = .ok (.iload_n 1, 1) := by decide +kernel
theorem dX2_decode_130 : decode cX2_decode 130 = .ok (.iconst 1, 1) := by decide +kernel
theorem dX2_decode_131 : decode cX2_decode 131 = .ok (.iadd, 1) := by decide +kernel
theorem dX2_decode_132 : decode cX2_decode 132 = .ok (.invokevirtual 139, 3) := by decide +kernel
theorem dX2_decode_135 : decode cX2_decode 135 = .ok (.i2l, 1) := by decide +kernel
theorem dX2_decode_136 : decode cX2_decode 136 = .ok (.invokevirtual 176, 3) := by decide +kernel
theorem dX2_decode_139 : decode cX2_decode 139 = .ok (.goto 113, 3) := by decide +kernel
theorem dX2_decode_142 : decode cX2_decode 142 = .ok (.iload_n 2, 1) := by decide +kernel
theorem dX2_decode_143 : decode cX2_decode 143 = .ok (.sipush 200, 3) := by decide +kernel
theorem dX2_decode_146 : decode cX2_decode 146 = .ok (.if_icmp .ne 24, 3) := by decide +kernel
theorem dX2_decode_149 : decode cX2_decode 149 = .ok (.aload_n 0, 1) := by decide +kernel
theorem dX2_decode_150 : decode cX2_decode 150 = .ok (.sipush 167, 3) := by decide +kernel
theorem dX2_decode_153 : decode cX2_decode 153 = .ok (.iload_n 1, 1) := by decide +kernel
theorem dX2_decode_154 : decode cX2_decode 154 = .ok (.i2l, 1) := by decide +kernel
theorem dX2_decode_155 : decode cX2_decode 155 = .ok (.aload_n 0, 1) := by decide +kernel
theorem dX2_decode_156 : decode cX2_decode 156 = .ok (.iload_n 1, 1) := by decide +kernel
theorem dX2_decode_157 : decode cX2_decode 157 = .ok (.iconst 1, 1) := by decide +kernel
theorem dX2_decode_158 : decode cX2_decode 158 = .ok (.iadd, 1) := by decide +kernel
theorem dX2_decode_159 : decode cX2_decode 159 = .ok (.invokevirtual 163, 3) := by decide +kernel
theorem dX2_decode_162 : decode cX2_decode 162 = .ok (.i2l, 1) := by decide +kernel
theorem dX2_decode_163 : decode cX2_decode 163 = .ok (.ladd, 1) := by decide +kernel
theorem dX2_decode_164 : decode cX2_decode 164 = .ok (.invokevirtual 176, 3) := by decide +kernel
theorem dX2_decode_167 : decode cX2_decode 167 = .ok (.goto 85, 3) := by decide +kernel
theorem dX2_decode_170 : decode cX2_decode 170 = .ok (.iload_n 2, 1) := by decide +kernel
theorem dX2_decode_171 : decode cX2_decode 171 = .ok (.invokestatic 181, 3) := by decide +kernel
theorem dX2_decode_174 : decode cX2_decode 174 = .ok (.ifCond .eq 22, 3) := by decide +kernel
theorem dX2_decode_177 : decode cX2_decode 177 = .ok (.aload_n 0, 1) := by decide +kernel
theorem dX2_decode_178 : decode cX2_decode 178 = .ok (.iload_n 2, 1) := by decide +kernel
theorem dX2_decode_179 : decode cX2_decode 179 = .ok (.iload_n 1, 1) := by decide +kernel
theorem dX2_decode_180 : decode cX2_decode 180 = .ok (.aload_n 0, 1) := by decide +kernel
theorem dX2_decode_181 : decode cX2_decode 181 = .ok (.iload_n 1, 1) := by decide +kernel
theorem dX2_decode_182 : decode cX2_decode 182 = .ok (.iconst 1, 1) := by decide +kernel
theorem dX2_decode_183 : decode cX2_decode 183 = .ok (.iadd, 1) := by decide +kernel
theorem dX2_decode_184 : decode cX2_decode 184 = .ok (.invokevirtual 180, 3) := by decide +kernel
theorem dX2_decode_187 : decode cX2_decode 187 = .ok (.i2s, 1) := by decide +kernel
theorem dX2_decode_188 : decode cX2_decode 188 = .ok (.iadd, 1) := by decide +kernel
theorem dX2_decode_189 : decode cX2_decode 189 = .ok (.i2l, 1) := by decide +kernel
theorem dX2_decode_190 : decode cX2_decode 190 = .ok (.invokevirtual 176, 3) := by decide +kernel
theorem dX2_decode_193 : decode cX2_decode 193 = .ok (.goto 59, 3) := by decide +kernel
theorem dX2_decode_196 : decode cX2_decode 196 = .ok (.iload_n 2, 1) := by decide +kernel
theorem dX2_decode_197 : decode cX2_decode 197 = .ok (.invokestatic 184, 3) := by decide +kernel
theorem dX2_decode_200 : decode cX2_decode 200 = .ok (.ifCond .eq 16, 3) := by decide +kernel
theorem dX2_decode_203 : decode cX2_decode 203 = .ok (.aload_n 0, 1) := by decide +kernel
theorem dX2_decode_204 : decode cX2_decode 204 = .ok (.iload_n 2, 1) := by decide +kernel
theorem dX2_decode_205 : decode cX2_decode 205 = .ok (.iload_n 1, 1) := by decide +kernel
theorem dX2_decode_206 : decode cX2_decode 206 = .ok (.invokestatic 160, 3) := by decide +kernel
theorem dX2_decode_209 : decode cX2_decode 209 = .ok (.i2l, 1) := by decide +kernel
theorem dX2_decode_210 : decode cX2_decode 210 = .ok (.invokevirtual 176, 3) := by decide +kernel
theorem dX2_decode_213 : decode cX2_decode 213 = .ok (.goto 39, 3) := by decide +kernel
theorem dX2_decode_216 : decode cX2_decode 216 = .ok (.iload_n 2, 1) := by decide +kernel
theorem dX2_decode_217 : decode cX2_decode 217 = .ok (.invokestatic 149, 3) := by decide +kernel
theorem dX2_decode_220 : decode cX2_decode 220 = .ok (.iconst 3, 1) := by decide +kernel
theorem dX2_decode_221 : decode cX2_decode 221 = .ok (.if_icmp .ne 26, 3) := by decide +kernel
theorem dX2_decode_224 : decode cX2_decode 224 = .ok (.iload_n 2, 1) := by decide +kernel
theorem dX2_decode_225 : decode cX2_decode 225 = .ok (.sipush 132, 3) := by decide +kernel
theorem dX2_decode_228 : decode cX2_decode 228 = .ok (.if_icmp .eq 19, 3) := by decide +kernel
theorem dX2_decode_231 : decode cX2_decode 231 = .ok (.aload_n 0, 1) := by decide +kernel
theorem dX2_decode_232 : decode cX2_decode 232 = .ok (.iload_n 2, 1) := by decide +kernel
theorem dX2_decode_233 : decode cX2_decode 233 = .ok (.aload_n 0, 1) := by decide +kernel
theorem dX2_decode_234 : decode cX2_decode 234 = .ok (.iload_n 1, 1) := by decide +kernel
theorem dX2_decode_235 : decode cX2_decode 235 = .ok (.iconst 1, 1) := by decide +kernel
theorem dX2_decode_236 : decode cX2_decode 236 = .ok (.iadd, 1) := by decide +kernel
theorem dX2_decode_237 : decode cX2_decode 237 = .ok (.invokevirtual 180, 3) := by decide +kernel
theorem dX2_decode_240 : decode cX2_decode 240 = .ok (.i2l, 1) := by decide +kernel
theorem dX2_decode_241 : decode cX2_decode 241 = .ok (.invokevirtual 176, 3) := by decide +kernel
theorem dX2_decode_244 : decode cX2_decode 244 = .ok (.goto 8, 3) := by decide +kernel
theorem dX2_decode_247 : decode cX2_decode 247 = .ok (.aload_n 0, 1) := by decide +kernel
theorem dX2_decode_248 : decode cX2_decode 248 = .ok (.iload_n 1, 1) := by decide +kernel
theorem dX2_decode_249 : decode cX2_decode 249 = .ok (.invokevirtual 187, 3) := by decide +kernel
theorem dX2_decode_252 : decode cX2_decode 252 = .ok (.return_, 1) := by decide +kernel
theorem dX2_decodeLocal_0 : decode cX2_decodeLocal 0 = .ok (.aload_n 0, 1) := by decide +kernel
theorem dX2_decodeLocal_1 : decode cX2_decodeLocal 1 = .ok (.iload_n 1, 1) := by decide +kernel
theorem dX2_decodeLocal_2 : decode cX2_decodeLocal 2 = .ok (.invokevirtual 139, 3) := by decide +kernel
theorem dX2_decodeLocal_5 : decode cX2_decodeLocal 5 = .ok (.istore_n 2, 1) := by decide +kernel

theorem dX9_isDone_154 : decode cX9_isDone 154 = .ok (.ireturn, 1) := by decide +kernel
theorem dX9_isDone_155 : decode cX9_isDone 155 = .ok (.aload_n 0, 1) := by decide +kernel
theorem dX9_isDone_156 : decode cX9_isDone 156 = .ok (.iload_n 2, 1) := by decide +kernel
theorem dX9_isDone_157 : decode cX9_isDone 157 = .ok (.invokevirtual 158, 3) := by decide +kernel
theorem dX9_isDone_160 : decode cX9_isDone 160 = .ok (.ireturn, 1) := by decide +kernel
theorem dX9_isDone_161 : decode cX9_isDone 161 = .ok (.aload_n 0, 1) := by decide +kernel
theorem dX9_isDone_162 : decode cX9_isDone 162 = .ok (.iload_n 2, 1) := by decide +kernel
theorem dX9_isDone_163 : decode cX9_isDone 163 = .ok (.iconst 2, 1) := by decide +kernel
theorem dX9_isDone_164 : decode cX9_isDone 164 = .ok (.invokevirtual 161, 3) := by decide +kernel
theorem dX9_isDone_167 : decode cX9_isDone 167 = .ok (.ifCond .eq 24, 3) := by decide +kernel
theorem dX9_isDone_170 : decode cX9_isDone 170 = .ok (.aload_n 0, 1) := by decide +kernel
theorem dX9_isDone_171 : decode cX9_isDone 171 = .ok (.iload_n 2, 1) := by decide +kernel
theorem dX9_isDone_172 : decode cX9_isDone 172 = .ok (.invokevirtual 164, 3) := by decide +kernel
theorem dX9_isDone_175 : decode cX9_isDone 175 = .ok (.ifCond .eq 16, 3) := by decide +kernel
theorem dX9_isDone_178 : decode cX9_isDone 178 = .ok (.aload_n 0, 1) := by decide +kernel
theorem dX9_isDone_179 : decode cX9_isDone 179 = .ok (.iload_n 2, 1) := by decide +kernel
theorem dX9_isDone_180 : decode cX9_isDone 180 = .ok (.iconst 2, 1) := by decide +kernel
theorem dX9_isDone_181 : decode cX9_isDone 181 = .ok (.invokevirtual 149, 3) := by decide +kernel
theorem dX9_isDone_184 : decode cX9_isDone 184 = .ok (.ifCond .eq 7, 3) := by decide +kernel
theorem dX9_isDone_187 : decode cX9_isDone 187 = .ok (.iconst 1, 1) := by decide +kernel
theorem dX9_isDone_188 : decode cX9_isDone 188 = .ok (.goto 4, 3) := by decide +kernel
theorem dX9_isDone_191 : decode cX9_isDone 191 = .ok (.iconst 0, 1) := by decide +kernel
theorem dX9_isDone_192 : decode cX9_isDone 192 = .ok (.ireturn, 1) := by decide +kernel
theorem dX9_isDone_193 : decode cX9_isDone 193 = .ok (.aload_n 0, 1) := by decide +kernel
theorem dX9_isDone_194 : decode cX9_isDone 194 = .ok (.iload_n 2, 1) := by decide +kernel
theorem dX9_isDone_195 : decode cX9_isDone 195 = .ok (.iconst 2, 1) := by decide +kernel
theorem dX9_isDone_196 : decode cX9_isDone 196 = .ok (.invokevirtual 161, 3) := by decide +kernel
theorem dX9_isDone_199 : decode cX9_isDone 199 = .ok (.ifCond .eq 24, 3) := by decide +kernel
theorem dX9_isDone_202 : decode cX9_isDone 202 = .ok (.aload_n 0, 1) := by decide +kernel
theorem dX9_isDone_203 : decode cX9_isDone 203 = .ok (.iload_n 2, 1) := by decide +kernel
theorem dX9_isDone_204 : decode cX9_isDone 204 = .ok (.invokevirtual 167, 3) := by decide +kernel
theorem dX9_isDone_207 : decode cX9_isDone 207 = .ok (.ifCond .eq 16, 3) := by decide +kernel
theorem dX9_isDone_210 : decode cX9_isDone 210 = .ok (.aload_n 0, 1) := by decide +kernel
theorem dX9_isDone_211 : decode cX9_isDone 211 = .ok (.iload_n 2, 1) := by decide +kernel
theorem dX9_isDone_212 : decode cX9_isDone 212 = .ok (.iconst 2, 1) := by decide +kernel
theorem dX9_isDone_213 : decode cX9_isDone 213 = .ok (.invokevirtual 149, 3) := by decide +kernel
theorem dX9_isDone_216 : decode cX9_isDone 216 = .ok (.ifCond .eq 7, 3) := by decide +kernel
theorem dX9_isDone_219 : decode cX9_isDone 219 = .ok (.iconst 1, 1) := by decide +kernel
theorem dX9_isDone_220 : decode cX9_isDone 220 = .ok (.goto 4, 3) := by decide +kernel
theorem dX9_isDone_223 : decode cX9_isDone 223 = .ok (.iconst 0, 1) := by decide +kernel
theorem dX9_isDone_224 : decode cX9_isDone 224 = .ok (.ireturn, 1) := by decide +kernel
theorem dX9_isDone_225 : decode cX9_isDone 225 = .ok (.aload_n 0, 1) := by decide +kernel
theorem dX9_isDone_226 : decode cX9_isDone 226 = .ok (.iload_n 2, 1) := by decide +kernel
theorem dX9_isDone_227 : decode cX9_isDone 227 = .ok (.iconst 2, 1) := by decide +kernel
theorem dX9_isDone_228 : decode cX9_isDone 228 = .ok (.invokevirtual 161, 3) := by decide +kernel
theorem dX9_isDone_231 : decode cX9_isDone 231 = .ok (.ifCond .eq 24, 3) := by decide +kernel
theorem dX9_isDone_234 : decode cX9_isDone 234 = .ok (.aload_n 0, 1) := by decide +kernel
theorem dX9_isDone_235 : decode cX9_isDone 235 = .ok (.iload_n 2, 1) := by decide +kernel
theorem dX9_isDone_236 : decode cX9_isDone 236 = .ok (.invokevirtual 170, 3) := by decide +kernel
theorem dX9_isDone_239 : decode cX9_isDone 239 = .ok (.ifCond .eq 16, 3) := by decide +kernel
theorem dX9_isDone_242 : decode cX9_isDone 242 = .ok (.aload_n 0, 1) := by decide +kernel
theorem dX9_isDone_243 : decode cX9_isDone 243 = .ok (.iload_n 2, 1) := by decide +kernel
theorem dX9_isDone_244 : decode cX9_isDone 244 = .ok (.iconst 2, 1) := by decide +kernel
theorem dX9_isDone_245 : decode cX9_isDone 245 = .ok (.invokevirtual 149, 3) := by decide +kernel
theorem dX9_isDone_248 : decode cX9_isDone 248 = .ok (.ifCond .eq 7, 3) := by decide +kernel
theorem dX9_isDone_251 : decode cX9_isDone 251 = .ok (.iconst 1, 1) := by decide +kernel
theorem dX9_isDone_252 : decode cX9_isDone 252 = .ok (.goto 4, 3) := by decide +kernel
theorem dX9_isDone_255 : decode cX9_isDone 255 = .ok (.iconst 0, 1) := by decide +kernel
theorem dX9_isDone_256 : decode cX9_isDone 256 = .ok (.ireturn, 1) := by decide +kernel
theorem dX9_isDone_257 : decode cX9_isDone 257 = .ok (.aload_n 0, 1) := by decide +kernel
theorem dX9_isDone_258 : decode cX9_isDone 258 = .ok (.iload_n 2, 1) := by decide +kernel
theorem dX9_isDone_259 : decode cX9_isDone 259 = .ok (.invokevirtual 173, 3) := by decide +kernel
theorem dX9_isDone_262 : decode cX9_isDone 262 = .ok (.ireturn, 1) := by decide +kernel
theorem dX9_isDropped_0 : decode cX9_isDropped 0 = .ok (.aload_n 0, 1) := by decide +kernel
theorem dX9_isDropped_1 : decode cX9_isDropped 1 = .ok (.getfield 14, 3) := by decide +kernel
theorem dX9_isDropped_4 : decode cX9_isDropped 4 = .ok (.iload_n 1, 1) := by decide +kernel
theorem dX9_isDropped_5 : decode cX9_isDropped 5 = .ok (.iload_n 2, 1) := by decide +kernel
theorem dX9_isDropped_6 : decode cX9_isDropped 6 = .ok (.invokevirtual 176, 3) := by decide +kernel
theorem dX9_isDropped_9 : decode cX9_isDropped 9 = .ok (.iconst 1, 1) := by decide +kernel
theorem dX9_isDropped_10 : decode cX9_isDropped 10 = .ok (.ireturn, 1) := by decide +kernel
theorem dX9_isFolded_0 : decode cX9_isFolded 0 = .ok (.aload_n 0, 1) := by decide +kernel
theorem dX9_isFolded_1 : decode cX9_isFolded 1 = .ok (.getfield 14, 3) := by decide +kernel
theorem dX9_isFolded_4 : decode cX9_isFolded 4 = .ok (.iload_n 1, 1) := by decide +kernel
theorem dX9_isFolded_5 : decode cX9_isFolded 5 = .ok (.iconst 2, 1) := by decide +kernel
theorem dX9_isFolded_6 : decode cX9_isFolded 6 = .ok (.iadd, 1) := by decide +kernel
theorem dX9_isFolded_7 : decode cX9_isFolded 7 = .ok (.invokevirtual 71, 3) := by decide +kernel
theorem dX9_isFolded_10 : decode cX9_isFolded 10 = .ok (.istore_n 2, 1) := by decide +kernel
theorem dX9_isFolded_11 : decode cX9_isFolded 11 = .ok (.iload_n 2, 1) := by decide +kernel
theorem dX9_isFolded_12 : decode cX9_isFolded 12 = .ok (.invokestatic 204, 3) := by decide +kernel
theorem dX9_isFolded_15 : decode cX9_isFolded 15 = .ok (.ifCond .eq 74, 3) := by decide +kernel
theorem dX9_isFolded_18 : decode cX9_isFolded 18 = .ok (.aload_n 0, 1) := by decide +kernel
theorem dX9_isFolded_19 : decode cX9_isFolded 19 = .ok (.iload_n 1, 1) := by decide +kernel
theorem dX9_isFolded_20 : decode cX9_isFolded 20 = .ok (.invokevirtual 207, 3) := by decide +kernel
theorem dX9_isFolded_23 : decode cX9_isFolded 23 = .ok (.ifCond .eq 66, 3) := by decide +kernel
theorem dX9_isFolded_26 : decode cX9_isFolded 26 = .ok (.aload_n 0, 1) := by decide +kernel
theorem dX9_isFolded_27 : decode cX9_isFolded 27 = .ok (.iload_n 1, 1) := by decide +kernel
theorem dX9_isFolded_28 : decode cX9_isFolded 28 = .ok (.iconst 1, 1) := by decide +kernel
theorem dX9_isFolded_29 : decode cX9_isFolded 29 = .ok (.iadd, 1) := by decide +kernel
theorem dX9_isFolded_30 : decode cX9_isFolded 30 = .ok (.invokevirtual 207, 3) := by decide +kernel
theorem dX9_isFolded_33 : decode cX9_isFolded 33 = .ok (.ifCond .eq 56, 3) := by decide +kernel
theorem dX9_isFolded_36 : decode cX9_isFolded 36 = .ok (.aload_n 0, 1) := by decide +kernel
theorem dX9_isFolded_37 : decode cX9_isFolded 37 = .ok (.iload_n 1, 1) := by decide +kernel
theorem dX9_isFolded_38 : decode cX9_isFolded 38 = .ok (.iconst 3, 1) := by decide +kernel
theorem dX9_isFolded_39 : decode cX9_isFolded 39 = .ok (.invokevirtual 161, 3) := by decide +kernel
theorem dX9_isFolded_42 : decode cX9_isFolded 42 = .ok (.ifCond .eq 47, 3) := by decide +kernel
theorem dX9_isFolded_45 : decode cX9_isFolded 45 = .ok (.iload_n 2, 1) := by decide +kernel
theorem dX9_isFolded_46 : decode cX9_isFolded 46 = .ok (.invokestatic 210, 3) := by decide +kernel
theorem dX9_isFolded_49 : decode cX9_isFolded 49 = .ok (.aload_n 0, 1) := by decide +kernel
theorem dX9_isFolded_50 : decode cX9_isFolded 50 = .ok (.iload_n 1, 1) := by decide +kernel
theorem dX9_isFolded_51 : decode cX9_isFolded 51 = .ok (.invokevirtual 207, 3) := by decide +kernel
theorem dX9_isFolded_54 : decode cX9_isFolded 54 = .ok (.iconst 4, 1) := by decide +kernel
theorem dX9_isFolded_55 : decode cX9_isFolded 55 = .ok (.ishl, 1) := by decide +kernel
theorem dX9_isFolded_56 : decode cX9_isFolded 56 = .ok (.aload_n 0, 1) := by decide +kernel
theorem dX9_isFolded_57 : decode cX9_isFolded 57 = .ok (.iload_n 1, 1) := by decide +kernel
theorem dX9_isFolded_58 : decode cX9_isFolded 58 = .ok (.iconst 1, 1) := by decide +kernel
theorem dX9_isFolded_59 : decode cX9_isFolded 59 = .ok (.iadd, 1) := by decide +kernel
theorem dX9_isFolded_60 : decode cX9_isFolded 60 = .ok (.invokevirtual 207, 3) := by decide +kernel
theorem dX9_isFolded_63 : decode cX9_isFolded 63 = .ok (.ior, 1) := by decide +kernel
theorem dX9_isFolded_64 : decode cX9_isFolded 64 = .ok (.if_icmp .ne 25, 3) := by decide +kernel
theorem dX9_isFolded_67 : decode cX9_isFolded 67 = .ok (.iload_n 2, 1) := by decide +kernel
theorem dX9_isFolded_68 : decode cX9_isFolded 68 = .ok (.invokestatic 213, 3) := by decide +kernel
theorem dX9_isFolded_71 : decode cX9_isFolded 71 = .ok (.ifCond .eq 20, 3) := by decide +kernel
theorem dX9_isFolded_74 : decode cX9_isFolded 74 = .ok (.aload_n 0, 1) := by decide +kernel
theorem dX9_isFolded_75 : decode cX9_isFolded 75 = .ok (.getfield 14, 3) := by decide +kernel
theorem dX9_isFolded_78 : decode cX9_isFolded 78 = .ok (.iload_n 1, 1) := by decide +kernel
theorem dX9_isFolded_79 : decode cX9_isFolded 79 = .ok (.iconst 1, 1) := by decide +kernel
theorem dX9_isFolded_80 : decode cX9_isFolded 80 = .ok (.iadd, 1) := by decide +kernel
theorem dX9_isFolded_81 : decode cX9_isFolded 81 = .ok (.invokevirtual 74, 3) := by decide +kernel
theorem dX9_isFolded_84 : decode cX9_isFolded 84 = .ok (.lconst 0, 1) := by decide +kernel
theorem dX9_isFolded_85 : decode cX9_isFolded 85 = .ok (.lcmp, 1) := by decide +kernel
theorem dX9_isFolded_86 : decode cX9_isFolded 86 = .ok (.ifCond .ne 5, 3) := by decide +kernel
theorem dX9_isFolded_89 : decode cX9_isFolded 89 = .ok (.iconst 0, 1) := by decide +kernel
theorem dX9_isFolded_90 : decode cX9_isFolded 90 = .ok (.ireturn, 1) := by decide +kernel
theorem dX9_isFolded_91 : decode cX9_isFolded 91 = .ok (.aload_n 0, 1) := by decide +kernel
theorem dX9_isFolded_92 : decode cX9_isFolded 92 = .ok (.iload_n 1, 1) := by decide +kernel
theorem dX9_isFolded_93 : decode cX9_isFolded 93 = .ok (.iload_n 2, 1) := by decide +kernel
theorem dX9_isFolded_94 : decode cX9_isFolded 94 = .ok (.invokestatic 216, 3) := by decide +kernel
theorem dX9_isFolded_97 : decode cX9_isFolded 97 = .ok (.iload_n 2, 1) := by decide +kernel
theorem dX9_isFolded_98 : decode cX9_isFolded 98 = .ok (.aload_n 0, 1) := by decide +kernel
theorem dX9_isFolded_99 : decode cX9_isFolded 99 = .ok (.getfield 14, 3) := by decide +kernel
theorem dX9_isFolded_102 : decode cX9_isFolded 102 = .ok (.iload_n 1, 1) := by decide +kernel
theorem dX9_isFolded_103 : decode cX9_isFolded 103 = .ok (.invokevirtual 74, 3) := by decide +kernel
theorem dX9_isFolded_106 : decode cX9_isFolded 106 = .ok (.aload_n 0, 1) := by decide +kernel
theorem dX9_isFolded_107 : decode cX9_isFolded 107 = .ok (.getfield 14, 3) := by decide +kernel
theorem dX9_isFolded_110 : decode cX9_isFolded 110 = .ok (.iload_n 1, 1) := by decide +kernel
theorem dX9_isFolded_111 : decode cX9_isFolded 111 = .ok (.iconst 1, 1) := by decide +kernel
theorem dX9_isFolded_112 : decode cX9_isFolded 112 = .ok (.iadd, 1) := by decide +kernel
theorem dX9_isFolded_113 : decode cX9_isFolded 113 = .ok (.invokevirtual 74, 3) := by decide +kernel
theorem dX9_isFolded_116 : decode cX9_isFolded 116 = .ok (.invokestatic 219, 3) := by decide +kernel
theorem dX9_isFolded_119 : decode cX9_isFolded 119 = .ok (.invokevirtual 223, 3) := by decide +kernel
theorem dX9_isFolded_122 : decode cX9_isFolded 122 = .ok (.aload_n 0, 1) := by decide +kernel
theorem dX9_isFolded_123 : decode cX9_isFolded 123 = .ok (.getfield 14, 3) := by decide +kernel
theorem dX9_isFolded_126 : decode cX9_isFolded 126 = .ok (.iload_n 1, 1) := by decide +kernel
theorem dX9_isFolded_127 : decode cX9_isFolded 127 = .ok (.iconst 1, 1) := by decide +kernel
theorem dX9_isFolded_128 : decode cX9_isFolded 128 = .ok (.iadd, 1) := by decide +kernel
theorem dX9_isFolded_129 : decode cX9_isFolded 129 = .ok (.iconst 2, 1) := by decide +kernel
theorem dX9_isFolded_130 : decode cX9_isFolded 130 = .ok (.invokevirtual 176, 3) := by decide +kernel
theorem dX9_isFolded_133 : decode cX9_isFolded 133 = .ok (.iconst 1, 1) := by decide +kernel
theorem dX9_isFolded_134 : decode cX9_isFolded 134 = .ok (.ireturn, 1) := by decide +kernel
theorem dX9_isJumpDecided_0 : decode cX9_isJumpDecided 0 = .ok (.aload_n 0, 1) := by decide +kernel

theorem dX9_isDeadStoreDone_81 : decode cX9_isDeadStoreDone 81 = .ok (.ireturn, 1) := by decide +kernel
theorem dX9_isDone_0 : decode cX9_isDone 0 = .ok (.iload_n 1, 1) := by decide +kernel
theorem dX9_isDone_1 : decode cX9_isDone 1 = .ok (.iconst 2, 1) := by decide +kernel
theorem dX9_isDone_2 : decode cX9_isDone 2 = .ok (.if_icmp .ne 9, 3) := by decide +kernel
theorem dX9_isDone_5 : decode cX9_isDone 5 = .ok (.aload_n 0, 1) := by decide +kernel
theorem dX9_isDone_6 : decode cX9_isDone 6 = .ok (.iload_n 2, 1) := by decide +kernel
theorem dX9_isDone_7 : decode cX9_isDone 7 = .ok (.invokevirtual 146, 3) := by decide +kernel
theorem dX9_isDone_10 : decode cX9_isDone 10 = .ok (.ireturn, 1) := by decide +kernel
theorem dX9_isDone_11 : decode cX9_isDone 11 = .ok (.iload_n 2, 1) := by decide +kernel
theorem dX9_isDone_12 : decode cX9_isDone 12 = .ok (.aload_n 0, 1) := by decide +kernel
theorem dX9_isDone_13 : decode cX9_isDone 13 = .ok (.getfield 14, 3) := by decide +kernel
theorem dX9_isDone_16 : decode cX9_isDone 16 = .ok (.getfield 54, 3) := by decide +kernel
theorem dX9_isDone_19 : decode cX9_isDone 19 = .ok (.iconst 1, 1) := by decide +kernel
theorem dX9_isDone_20 : decode cX9_isDone 20 = .ok (.isub, 1) := by decide +kernel
theorem dX9_isDone_21 : decode cX9_isDone 21 = .ok (.if_icmp .lt 5, 3) := by decide +kernel
theorem dX9_isDone_24 : decode cX9_isDone 24 = .ok (.iconst 0, 1) := by decide +kernel
theorem dX9_isDone_25 : decode cX9_isDone 25 = .ok (.ireturn, 1) := by decide +kernel
theorem dX9_isDone_26 : decode cX9_isDone 26 = .ok (.iload_n 1, 1) := by decide +kernel
theorem dX9_isDone_27 : decode cX9_isDone 27 = .ok (.tableswitch 230 3 10 #[45, 90, 116, 122, 128, 134, 166, 198], 45) := by decide +kernel
theorem dX9_isDone_72 : decode cX9_isDone 72 = .ok (.aload_n 0, 1) := by decide +kernel
theorem dX9_isDone_73 : decode cX9_isDone 73 = .ok (.getfield 14, 3) := by decide +kernel
theorem dX9_isDone_76 : decode cX9_isDone 76 = .ok (.iload_n 2, 1) := by decide +kernel
theorem dX9_isDone_77 : decode cX9_isDone 77 = .ok (.invokevirtual 71, 3) := by decide +kernel
theorem dX9_isDone_80 : decode cX9_isDone 80 = .ok (.sipush 167, 3) := by decide +kernel
theorem dX9_isDone_83 : decode cX9_isDone 83 = .ok (.if_icmp .ne 32, 3) := by decide +kernel
theorem dX9_isDone_86 : decode cX9_isDone 86 = .ok (.aload_n 0, 1) := by decide +kernel
theorem dX9_isDone_87 : decode cX9_isDone 87 = .ok (.getfield 14, 3) := by decide +kernel
theorem dX9_isDone_90 : decode cX9_isDone 90 = .ok (.iload_n 2, 1) := by decide +kernel
theorem dX9_isDone_91 : decode cX9_isDone 91 = .ok (.invokevirtual 74, 3) := by decide +kernel
theorem dX9_isDone_94 : decode cX9_isDone 94 = .ok (.iload_n 2, 1) := by decide +kernel
theorem dX9_isDone_95 : decode cX9_isDone 95 = .ok (.iconst 1, 1) := by decide +kernel
theorem dX9_isDone_96 : decode cX9_isDone 96 = .ok (.iadd, 1) := by decide +kernel
theorem dX9_isDone_97 : decode cX9_isDone 97 = .ok (.i2l, 1) := by decide +kernel
theorem dX9_isDone_98 : decode cX9_isDone 98 = .ok (.lcmp, 1) := by decide +kernel
theorem dX9_isDone_99 : decode cX9_isDone 99 = .ok (.ifCond .ne 16, 3) := by decide +kernel
theorem dX9_isDone_102 : decode cX9_isDone 102 = .ok (.aload_n 0, 1) := by decide +kernel
theorem dX9_isDone_103 : decode cX9_isDone 103 = .ok (.iload_n 2, 1) := by decide +kernel
theorem dX9_isDone_104 : decode cX9_isDone 104 = .ok (.iconst 1, 1) := by decide +kernel
theorem dX9_isDone_105 : decode cX9_isDone 105 = .ok (.invokevirtual 149, 3) := by decide +kernel
theorem dX9_isDone_108 : decode cX9_isDone 108 = .ok (.ifCond .eq 7, 3) := by decide +kernel
theorem dX9_isDone_111 : decode cX9_isDone 111 = .ok (.iconst 1, 1) := by decide +kernel
theorem dX9_isDone_112 : decode cX9_isDone 112 = .ok (.goto 4, 3) := by decide +kernel
theorem dX9_isDone_115 : decode cX9_isDone 115 = .ok (.iconst 0, 1) := by decide +kernel
theorem dX9_isDone_116 : decode cX9_isDone 116 = .ok (.ireturn, 1) := by decide +kernel
theorem dX9_isDone_117 : decode cX9_isDone 117 = .ok (.aload_n 0, 1) := by decide +kernel
theorem dX9_isDone_118 : decode cX9_isDone 118 = .ok (.getfield 14, 3) := by decide +kernel
theorem dX9_isDone_121 : decode cX9_isDone 121 = .ok (.iload_n 2, 1) := by decide +kernel
theorem dX9_isDone_122 : decode cX9_isDone 122 = .ok (.invokevirtual 71, 3) := by decide +kernel
theorem dX9_isDone_125 : decode cX9_isDone 125 = .ok (.ifCond .ne 16, 3) := by decide +kernel
theorem dX9_isDone_128 : decode cX9_isDone 128 = .ok (.aload_n 0, 1) := by decide +kernel
theorem dX9_isDone_129 : decode cX9_isDone 129 = .ok (.iload_n 2, 1) := by decide +kernel
theorem dX9_isDone_130 : decode cX9_isDone 130 = .ok (.iconst 1, 1) := by decide +kernel
theorem dX9_isDone_131 : decode cX9_isDone 131 = .ok (.invokevirtual 149, 3) := by decide +kernel
theorem dX9_isDone_134 : decode cX9_isDone 134 = .ok (.ifCond .eq 7, 3) := by decide +kernel
theorem dX9_isDone_137 : decode cX9_isDone 137 = .ok (.iconst 1, 1) := by decide +kernel
theorem dX9_isDone_138 : decode cX9_isDone 138 = .ok (.goto 4, 3) := by decide +kernel
theorem dX9_isDone_141 : decode cX9_isDone 141 = .ok (.iconst 0, 1) := by decide +kernel
theorem dX9_isDone_142 : decode cX9_isDone 142 = .ok (.ireturn, 1) := by decide +kernel
theorem dX9_isDone_143 : decode cX9_isDone 143 = .ok (.aload_n 0, 1) := by decide +kernel
theorem dX9_isDone_144 : decode cX9_isDone 144 = .ok (.iload_n 2, 1) := by decide +kernel
theorem dX9_isDone_145 : decode cX9_isDone 145 = .ok (.invokevirtual 152, 3) := by decide +kernel
theorem dX9_isDone_148 : decode cX9_isDone 148 = .ok (.ireturn, 1) := by decide +kernel
theorem dX9_isDone_149 : decode cX9_isDone 149 = .ok (.aload_n 0, 1) := by decide +kernel
theorem dX9_isDone_150 : decode cX9_isDone 150 = .ok (.iload_n 2, 1) := by decide +kernel
theorem dX9_isDone_151 : decode cX9_isDone 151 = .ok (.invokevirtual 155, 3) := by decide +kernel
theorem dX9_isDone_154 : decode cX9_isDone 154 = .ok (.ireturn, 1) := by decide +kernel
theorem dX9_isDone_155 : decode cX9_isDone 155 = .ok (.aload_n 0, 1) := by decide +kernel
theorem dX9_isDone_156 : decode cX9_isDone 156 = .ok (.iload_n 2, 1) := by decide +kernel
theorem dX9_isDone_157 : decode cX9_isDone 157 = .ok (.invokevirtual 158, 3) := by decide +kernel
theorem dX9_isDone_160 : decode cX9_isDone 160 = .ok (.ireturn, 1) := by decide +kernel
theorem dX9_isDone_161 : decode cX9_isDone 161 = .ok (.aload_n 0, 1) := by decide +kernel
theorem dX9_isDone_162 : decode cX9_isDone 162 = .ok (.iload_n 2, 1) := by decide +kernel
theorem dX9_isDone_163 : decode cX9_isDone 163 = .ok (.iconst 2, 1) := by decide +kernel
theorem dX9_isDone_164 : decode cX9_isDone 164 = .ok (.invokevirtual 161, 3) := by decide +kernel
theorem dX9_isDone_167 : decode cX9_isDone 167 = .ok (.ifCond .eq 24, 3) := by decide +kernel
theorem dX9_isDone_170 : decode cX9_isDone 170 = .ok (.aload_n 0, 1) := by decide +kernel
theorem dX9_isDone_171 : decode cX9_isDone 171 = .ok (.iload_n 2, 1) := by decide +kernel
theorem dX9_isDone_172 : decode cX9_isDone 172 = .ok (.invokevirtual 164, 3) := by decide +kernel
theorem dX9_isDone_175 : decode cX9_isDone 175 = .ok (.ifCond .eq 16, 3) := by decide +kernel
theorem dX9_isDone_178 : decode cX9_isDone 178 = .ok (.aload_n 0, 1) := by decide +kernel
theorem dX9_isDone_179 : decode cX9_isDone 179 = .ok (.iload_n 2, 1) := by decide +kernel
theorem dX9_isDone_180 : decode cX9_isDone 180 = .ok (.iconst 2, 1) := by decide +kernel
theorem dX9_isDone_181 : decode cX9_isDone 181 = .ok (.invokevirtual 149, 3) := by decide +kernel
theorem dX9_isDone_184 : decode cX9_isDone 184 = .ok (.ifCond .eq 7, 3) := by decide +kernel
theorem dX9_isDone_187 : decode cX9_isDone 187 = .ok (.iconst 1, 1) := by decide +kernel
theorem dX9_isDone_188 : decode cX9_isDone 188 = .ok (.goto 4, 3) := by decide +kernel
theorem dX9_isDone_191 : decode cX9_isDone 191 = .ok (.iconst 0, 1) := by decide +kernel
theorem dX9_isDone_192 : decode cX9_isDone 192 = .ok (.ireturn, 1) := by decide +kernel
theorem dX9_isDone_193 : decode cX9_isDone 193 = .ok (.aload_n 0, 1) := by decide +kernel
theorem dX9_isDone_194 : decode cX9_isDone 194 = .ok (.iload_n 2, 1) := by decide +kernel
theorem dX9_isDone_195 : decode cX9_isDone 195 = .ok (.iconst 2, 1) := by decide +kernel
theorem dX9_isDone_196 : decode cX9_isDone 196 = .ok (.invokevirtual 161, 3) := by decide +kernel
theorem dX9_isDone_199 : decode cX9_isDone 199 = .ok (.ifCond .eq 24, 3) := by decide +kernel
theorem dX9_isDone_202 : decode cX9_isDone 202 = .ok (.aload_n 0, 1) := by decide +kernel
theorem dX9_isDone_203 : decode cX9_isDone 203 = .ok (.iload_n 2, 1) := by decide +kernel
theorem dX9_isDone_204 : decode cX9_isDone 204 = .ok (.invokevirtual 167, 3) := by decide +kernel
theorem dX9_isDone_207 : decode cX9_isDone 207 = .ok (.ifCond .eq 16, 3) := by decide +kernel
theorem dX9_isDone_210 : decode cX9_isDone 210 = .ok (.aload_n 0, 1) := by decide +kernel
theorem dX9_isDone_211 : decode cX9_isDone 211 = .ok (.iload_n 2, 1) := by decide +kernel
theorem dX9_isDone_212 : decode cX9_isDone 212 = .ok (.iconst 2, 1) := by decide +kernel
theorem dX9_isDone_213 : decode cX9_isDone 213 = .ok (.invokevirtual 149, 3) := by decide +kernel
theorem dX9_isDone_216 : decode cX9_isDone 216 = .ok (.ifCond .eq 7, 3) := by decide +kernel
theorem dX9_isDone_219 : decode cX9_isDone 219 = .ok (.iconst 1, 1) := by decide +kernel
theorem dX9_isDone_220 : decode cX9_isDone 220 = .ok (.goto 4, 3) := by decide +kernel
theorem dX9_isDone_223 : decode cX9_isDone 223 = .ok (.iconst 0, 1) := by decide +kernel
theorem dX9_isDone_224 : decode cX9_isDone 224 = .ok (.ireturn, 1) := by decide +kernel
theorem dX9_isDone_225 : decode cX9_isDone 225 = .ok (.aload_n 0, 1) := by decide +kernel
theorem dX9_isDone_226 : decode cX9_isDone 226 = .ok (.iload_n 2, 1) := by decide +kernel
theorem dX9_isDone_227 : decode cX9_isDone 227 = .ok (.iconst 2, 1) := by decide +kernel
theorem dX9_isDone_228 : decode cX9_isDone 228 = .ok (.invokevirtual 161, 3) := by decide +kernel
theorem dX9_isDone_231 : decode cX9_isDone 231 = .ok (.ifCond .eq 24, 3) := by decide +kernel
theorem dX9_isDone_234 : decode cX9_isDone 234 = .ok (.aload_n 0, 1) := by decide +kernel
theorem dX9_isDone_235 : decode cX9_isDone 235 = .ok (.iload_n 2, 1) := by decide +kernel
theorem dX9_isDone_236 : decode cX9_isDone 236 = .ok (.invokevirtual 170, 3) := by decide +kernel
theorem dX9_isDone_239 : decode cX9_isDone 239 = .ok (.ifCond .eq 16, 3) := by decide +kernel
theorem dX9_isDone_242 : decode cX9_isDone 242 = .ok (.aload_n 0, 1) := by decide +kernel
theorem dX9_isDone_243 : decode cX9_isDone 243 = .ok (.iload_n 2, 1) := by decide +kernel
theorem dX9_isDone_244 : decode cX9_isDone 244 = .ok (.iconst 2, 1) := by decide +kernel
theorem dX9_isDone_245 : decode cX9_isDone 245 = .ok (.invokevirtual 149, 3) := by decide +kernel
theorem dX9_isDone_248 : decode cX9_isDone 248 = .ok (.ifCond .eq 7, 3) := by decide +kernel
theorem dX9_isDone_251 : decode cX9_isDone 251 = .ok (.iconst 1, 1) := by decide +kernel
theorem dX9_isDone_252 : decode cX9_isDone 252 = .ok (.goto 4, 3) := by decide +kernel
theorem dX9_isDone_255 : decode cX9_isDone 255 = .ok (.iconst 0, 1) := by decide +kernel
theorem dX9_isDone_256 : decode cX9_isDone 256 = .ok (.ireturn, 1) := by decide +kernel
theorem dX9_isDone_257 : decode cX9_isDone 257 = .ok (.aload_n 0, 1) := by decide +kernel
theorem dX9_isDone_258 : decode cX9_isDone 258 = .ok (.iload_n 2, 1) := by decide +kernel
theorem dX9_isDone_259 : decode cX9_isDone 259 = .ok (.invokevirtual 173, 3) := by decide +kernel
theorem dX9_isDone_262 : decode cX9_isDone 262 = .ok (.ireturn, 1) := by decide +kernel
theorem dX9_isDropped_0 : decode cX9_isDropped 0 = .ok (.aload_n 0, 1) := by decide +kernel
theorem dX9_isDropped_1 : decode cX9_isDropped 1 = .ok (.getfield 14, 3) := by decide +kernel
theorem dX9_isDropped_4 : decode cX9_isDropped 4 = .ok (.iload_n 1, 1) := by decide +kernel
theorem dX9_isDropped_5 : decode cX9_isDropped 5 = .ok (.iload_n 2, 1) := by decide +kernel
theorem dX9_isDropped_6 : decode cX9_isDropped 6 = .ok (.invokevirtual 176, 3) := by decide +kernel
theorem dX9_isDropped_9 : decode cX9_isDropped 9 = .ok (.iconst 1, 1) := by decide +kernel
theorem dX9_isDropped_10 : decode cX9_isDropped 10 = .ok (.ireturn, 1) := by decide +kernel
theorem dX9_isFolded_0 : decode cX9_isFolded 0 = .ok (.aload_n 0, 1) := by decide +kernel
theorem dX9_isFolded_1 : decode cX9_isFolded 1 = .ok (.getfield 14, 3) := by decide +kernel
theorem dX9_isFolded_4 : decode cX9_isFolded 4 = .ok (.iload_n 1, 1) := by decide +kernel
theorem dX9_isFolded_5 : decode cX9_isFolded 5 = .ok (.iconst 2, 1) := by decide +kernel
theorem dX9_isFolded_6 : decode cX9_isFolded 6 = .ok (.iadd, 1) := by decide +kernel
theorem dX9_isFolded_7 : decode cX9_isFolded 7 = .ok (.invokevirtual 71, 3) := by decide +kernel
theorem dX9_isFolded_10 : decode cX9_isFolded 10 = .ok (.istore_n 2, 1) := by decide +kernel
theorem dX9_isFolded_11 : decode cX9_isFolded 11 = .ok (.iload_n 2, 1) := by decide +kernel
theorem dX9_isFolded_12 : decode cX9_isFolded 12 = .ok (.invokestatic 204, 3) := by decide +kernel
theorem dX9_isFolded_15 : decode cX9_isFolded 15 = .ok (.ifCond .eq 74, 3) := by decide +kernel
theorem dX9_isFolded_18 : decode cX9_isFolded 18 = .ok (.aload_n 0, 1) := by decide +kernel
theorem dX9_isFolded_19 : decode cX9_isFolded 19 = .ok (.iload_n 1, 1) := by decide +kernel
theorem dX9_isFolded_20 : decode cX9_isFolded 20 = .ok (.invokevirtual 207, 3) := by decide +kernel
theorem dX9_isFolded_23 : decode cX9_isFolded 23 = .ok (.ifCond .eq 66, 3) := by decide +kernel
theorem dX9_isFolded_26 : decode cX9_isFolded 26 = .ok (.aload_n 0, 1) := by decide +kernel

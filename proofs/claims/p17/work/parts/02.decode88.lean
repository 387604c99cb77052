theorem dX9_putCounters_13 : decode cX9_putCounters 13 = .ok (.iload_n 3, 1) := by decide +kernel
theorem dX9_putCounters_14 : decode cX9_putCounters 14 = .ok (.istore 4, 2) := by decide +kernel
theorem dX9_putCounters_16 : decode cX9_putCounters 16 = .ok (.iconst 0, 1) := by decide +kernel
theorem dX9_putCounters_17 : decode cX9_putCounters 17 = .ok (.istore 5, 2) := by decide +kernel
theorem dX9_putCounters_19 : decode cX9_putCounters 19 = .ok (.iload 5, 2) := by decide +kernel
theorem dX9_putCounters_21 : decode cX9_putCounters 21 = .ok (.aload_n 1, 1) := by decide +kernel
theorem dX9_putCounters_22 : decode cX9_putCounters 22 = .ok (.getfield 54, 3) := by decide +kernel
theorem dX9_putCounters_25 : decode cX9_putCounters 25 = .ok (.if_icmp .ge 114, 3) := by decide +kernel
theorem dX9_putCounters_28 : decode cX9_putCounters 28 = .ok (.iload 5, 2) := by decide +kernel
theorem dX9_putCounters_30 : decode cX9_putCounters 30 = .ok (.aload_n 0, 1) := by decide +kernel
theorem dX9_putCounters_31 : decode cX9_putCounters 31 = .ok (.getfield 34, 3) := by decide +kernel
theorem dX9_putCounters_34 : decode cX9_putCounters 34 = .ok (.arraylength, 1) := by decide +kernel
theorem dX9_putCounters_35 : decode cX9_putCounters 35 = .ok (.if_icmp .ge 104, 3) := by decide +kernel
theorem dX9_putCounters_38 : decode cX9_putCounters 38 = .ok (.aload_n 0, 1) := by decide +kernel
theorem dX9_putCounters_39 : decode cX9_putCounters 39 = .ok (.getfield 34, 3) := by decide +kernel
theorem dX9_putCounters_42 : decode cX9_putCounters 42 = .ok (.iload 5, 2) := by decide +kernel
theorem dX9_putCounters_44 : decode cX9_putCounters 44 = .ok (.aload_n 0, 1) := by decide +kernel
theorem dX9_putCounters_45 : decode cX9_putCounters 45 = .ok (.getfield 14, 3) := by decide +kernel
theorem dX9_putCounters_48 : decode cX9_putCounters 48 = .ok (.getfield 54, 3) := by decide +kernel
theorem dX9_putCounters_51 : decode cX9_putCounters 51 = .ok (.iastore, 1) := by decide +kernel
theorem dX9_putCounters_52 : decode cX9_putCounters 52 = .ok (.aload_n 2, 1) := by decide +kernel
theorem dX9_putCounters_53 : decode cX9_putCounters 53 = .ok (.aload_n 2, 1) := by decide +kernel
theorem dX9_putCounters_54 : decode cX9_putCounters 54 = .ok (.iload 5, 2) := by decide +kernel
theorem dX9_putCounters_56 : decode cX9_putCounters 56 = .ok (.invokevirtual 57, 3) := by decide +kernel
theorem dX9_putCounters_59 : decode cX9_putCounters 59 = .ok (.invokevirtual 63, 3) := by decide +kernel
theorem dX9_putCounters_62 : decode cX9_putCounters 62 = .ok (.ifCond .eq 52, 3) := by decide +kernel
theorem dX9_putCounters_65 : decode cX9_putCounters 65 = .ok (.aload_n 0, 1) := by decide +kernel
theorem dX9_putCounters_66 : decode cX9_putCounters 66 = .ok (.getfield 14, 3) := by decide +kernel
theorem dX9_putCounters_69 : decode cX9_putCounters 69 = .ok (.sipush 178, 3) := by decide +kernel
theorem dX9_putCounters_72 : decode cX9_putCounters 72 = .ok (.iload 4, 2) := by decide +kernel
theorem dX9_putCounters_74 : decode cX9_putCounters 74 = .ok (.i2l, 1) := by decide +kernel
theorem dX9_putCounters_75 : decode cX9_putCounters 75 = .ok (.invokevirtual 67, 3) := by decide +kernel
theorem dX9_putCounters_78 : decode cX9_putCounters 78 = .ok (.aload_n 0, 1) := by decide +kernel
theorem dX9_putCounters_79 : decode cX9_putCounters 79 = .ok (.getfield 14, 3) := by decide +kernel
theorem dX9_putCounters_82 : decode cX9_putCounters 82 = .ok (.bipush 20, 2) := by decide +kernel
theorem dX9_putCounters_84 : decode cX9_putCounters 84 = .ok (.lconst 1, 1) := by decide +kernel
theorem dX9_putCounters_85 : decode cX9_putCounters 85 = .ok (.invokevirtual 67, 3) := by decide +kernel
theorem dX9_putCounters_88 : decode cX9_putCounters 88 = .ok (.aload_n 0, 1) := by decide +kernel
theorem dX9_putCounters_89 : decode cX9_putCounters 89 = .ok (.getfield 14, 3) := by decide +kernel
theorem dX9_putCounters_92 : decode cX9_putCounters 92 = .ok (.bipush 97, 2) := by decide +kernel
theorem dX9_putCounters_94 : decode cX9_putCounters 94 = .ok (.lconst 0, 1) := by decide +kernel
theorem dX9_putCounters_95 : decode cX9_putCounters 95 = .ok (.invokevirtual 67, 3) := by decide +kernel
theorem dX9_putCounters_98 : decode cX9_putCounters 98 = .ok (.aload_n 0, 1) := by decide +kernel
theorem dX9_putCounters_99 : decode cX9_putCounters 99 = .ok (.getfield 14, 3) := by decide +kernel
theorem dX9_putCounters_102 : decode cX9_putCounters 102 = .ok (.sipush 179, 3) := by decide +kernel
theorem dX9_putCounters_105 : decode cX9_putCounters 105 = .ok (.iload 4, 2) := by decide +kernel
theorem dX9_putCounters_107 : decode cX9_putCounters 107 = .ok (.i2l, 1) := by decide +kernel
theorem dX9_putCounters_108 : decode cX9_putCounters 108 = .ok (.invokevirtual 67, 3) := by decide +kernel
theorem dX9_putCounters_111 : decode cX9_putCounters 111 = .ok (.iinc 4 1, 3) := by decide +kernel
theorem dX9_putCounters_114 : decode cX9_putCounters 114 = .ok (.aload_n 0, 1) := by decide +kernel
theorem dX9_putCounters_115 : decode cX9_putCounters 115 = .ok (.getfield 14, 3) := by decide +kernel
theorem dX9_putCounters_118 : decode cX9_putCounters 118 = .ok (.aload_n 1, 1) := by decide +kernel
theorem dX9_putCounters_119 : decode cX9_putCounters 119 = .ok (.iload 5, 2) := by decide +kernel
theorem dX9_putCounters_121 : decode cX9_putCounters 121 = .ok (.invokevirtual 71, 3) := by decide +kernel
theorem dX9_putCounters_124 : decode cX9_putCounters 124 = .ok (.aload_n 1, 1) := by decide +kernel
theorem dX9_putCounters_125 : decode cX9_putCounters 125 = .ok (.iload 5, 2) := by decide +kernel
theorem dX9_putCounters_127 : decode cX9_putCounters 127 = .ok (.invokevirtual 74, 3) := by decide +kernel
theorem dX9_putCounters_130 : decode cX9_putCounters 130 = .ok (.invokevirtual 67, 3) := by decide +kernel
theorem dX9_putCounters_133 : decode cX9_putCounters 133 = .ok (.iinc 5 1, 3) := by decide +kernel
theorem dX9_putCounters_136 : decode cX9_putCounters 136 = .ok (.goto (-117), 3) := by decide +kernel
theorem dX9_putCounters_139 : decode cX9_putCounters 139 = .ok (.aload_n 0, 1) := by decide +kernel
theorem dX9_putCounters_140 : decode cX9_putCounters 140 = .ok (.getfield 34, 3) := by decide +kernel
theorem dX9_putCounters_143 : decode cX9_putCounters 143 = .ok (.aload_n 1, 1) := by decide +kernel
theorem dX9_putCounters_144 : decode cX9_putCounters 144 = .ok (.getfield 54, 3) := by decide +kernel
theorem dX9_putCounters_147 : decode cX9_putCounters 147 = .ok (.aload_n 0, 1) := by decide +kernel
theorem dX9_putCounters_148 : decode cX9_putCounters 148 = .ok (.getfield 34, 3) := by decide +kernel
theorem dX9_putCounters_151 : decode cX9_putCounters 151 = .ok (.arraylength, 1) := by decide +kernel
theorem dX9_putCounters_152 : decode cX9_putCounters 152 = .ok (.iconst 1, 1) := by decide +kernel
theorem dX9_putCounters_153 : decode cX9_putCounters 153 = .ok (.isub, 1) := by decide +kernel
theorem dX9_putCounters_154 : decode cX9_putCounters 154 = .ok (.invokestatic 78, 3) := by decide +kernel
theorem dX9_putCounters_157 : decode cX9_putCounters 157 = .ok (.aload_n 0, 1) := by decide +kernel
theorem dX9_putCounters_158 : decode cX9_putCounters 158 = .ok (.getfield 14, 3) := by decide +kernel
theorem dX9_putCounters_161 : decode cX9_putCounters 161 = .ok (.getfield 54, 3) := by decide +kernel
theorem dX9_putCounters_164 : decode cX9_putCounters 164 = .ok (.iastore, 1) := by decide +kernel
theorem dX9_putCounters_165 : decode cX9_putCounters 165 = .ok (.aload_n 0, 1) := by decide +kernel
theorem dX9_putCounters_166 : decode cX9_putCounters 166 = .ok (.getfield 14, 3) := by decide +kernel
theorem dX9_putCounters_169 : decode cX9_putCounters 169 = .ok (.iconst 0, 1) := by decide +kernel
theorem dX9_putCounters_170 : decode cX9_putCounters 170 = .ok (.putfield 84, 3) := by decide +kernel
theorem dX9_putCounters_173 : decode cX9_putCounters 173 = .ok (.iconst 0, 1) := by decide +kernel
theorem dX9_putCounters_174 : decode cX9_putCounters 174 = .ok (.istore 5, 2) := by decide +kernel
theorem dX9_putCounters_176 : decode cX9_putCounters 176 = .ok (.iload 5, 2) := by decide +kernel
theorem dX9_putCounters_178 : decode cX9_putCounters 178 = .ok (.aload_n 1, 1) := by decide +kernel
theorem dX9_putCounters_179 : decode cX9_putCounters 179 = .ok (.getfield 84, 3) := by decide +kernel
theorem dX9_putCounters_182 : decode cX9_putCounters 182 = .ok (.if_icmp .ge 23, 3) := by decide +kernel
theorem dX9_putCounters_185 : decode cX9_putCounters 185 = .ok (.aload_n 0, 1) := by decide +kernel
theorem dX9_putCounters_186 : decode cX9_putCounters 186 = .ok (.getfield 14, 3) := by decide +kernel
theorem dX9_putCounters_189 : decode cX9_putCounters 189 = .ok (.aload_n 1, 1) := by decide +kernel
theorem dX9_putCounters_190 : decode cX9_putCounters 190 = .ok (.getfield 87, 3) := by decide +kernel
theorem dX9_putCounters_193 : decode cX9_putCounters 193 = .ok (.iload 5, 2) := by decide +kernel
theorem dX9_putCounters_195 : decode cX9_putCounters 195 = .ok (.iaload, 1) := by decide +kernel
theorem dX9_putCounters_196 : decode cX9_putCounters 196 = .ok (.invokevirtual 90, 3) := by decide +kernel
theorem dX9_putCounters_199 : decode cX9_putCounters 199 = .ok (.iinc 5 1, 3) := by decide +kernel
theorem dX9_putCounters_202 : decode cX9_putCounters 202 = .ok (.goto (-26), 3) := by decide +kernel
theorem dX9_putCounters_205 : decode cX9_putCounters 205 = .ok (.iconst 0, 1) := by decide +kernel
theorem dX9_putCounters_206 : decode cX9_putCounters 206 = .ok (.istore 5, 2) := by decide +kernel
theorem dX9_putCounters_208 : decode cX9_putCounters 208 = .ok (.iload 5, 2) := by decide +kernel
theorem dX9_putCounters_210 : decode cX9_putCounters 210 = .ok (.aload_n 0, 1) := by decide +kernel
theorem dX9_putCounters_211 : decode cX9_putCounters 211 = .ok (.getfield 14, 3) := by decide +kernel
theorem dX9_putCounters_214 : decode cX9_putCounters 214 = .ok (.getfield 54, 3) := by decide +kernel
theorem dX9_putCounters_217 : decode cX9_putCounters 217 = .ok (.if_icmp .ge 62, 3) := by decide +kernel
theorem dX9_putCounters_220 : decode cX9_putCounters 220 = .ok (.aload_n 0, 1) := by decide +kernel
theorem dX9_putCounters_221 : decode cX9_putCounters 221 = .ok (.getfield 14, 3) := by decide +kernel
theorem dX9_putCounters_224 : decode cX9_putCounters 224 = .ok (.iload 5, 2) := by decide +kernel
theorem dX9_putCounters_226 : decode cX9_putCounters 226 = .ok (.invokevirtual 94, 3) := by decide +kernel
theorem dX9_putCounters_229 : decode cX9_putCounters 229 = .ok (.istore 6, 2) := by decide +kernel
theorem dX9_putCounters_231 : decode cX9_putCounters 231 = .ok (.iconst 0, 1) := by decide +kernel
theorem dX9_putCounters_232 : decode cX9_putCounters 232 = .ok (.istore 7, 2) := by decide +kernel
theorem dX9_putCounters_234 : decode cX9_putCounters 234 = .ok (.iload 7, 2) := by decide +kernel
theorem dX9_putCounters_236 : decode cX9_putCounters 236 = .ok (.iload 6, 2) := by decide +kernel
theorem dX9_putCounters_238 : decode cX9_putCounters 238 = .ok (.if_icmp .ge 35, 3) := by decide +kernel
theorem dX9_putCounters_241 : decode cX9_putCounters 241 = .ok (.aload_n 0, 1) := by decide +kernel
theorem dX9_putCounters_242 : decode cX9_putCounters 242 = .ok (.getfield 14, 3) := by decide +kernel
theorem dX9_putCounters_245 : decode cX9_putCounters 245 = .ok (.iload 5, 2) := by decide +kernel
theorem dX9_putCounters_247 : decode cX9_putCounters 247 = .ok (.iload 7, 2) := by decide +kernel
theorem dX9_putCounters_249 : decode cX9_putCounters 249 = .ok (.aload_n 0, 1) := by decide +kernel
theorem dX9_putCounters_250 : decode cX9_putCounters 250 = .ok (.aload_n 0, 1) := by decide +kernel
theorem dX9_putCounters_251 : decode cX9_putCounters 251 = .ok (.getfield 14, 3) := by decide +kernel
theorem dX9_putCounters_254 : decode cX9_putCounters 254 = .ok (.iload 5, 2) := by decide +kernel
theorem dX9_putCounters_256 : decode cX9_putCounters 256 = .ok (.iload 7, 2) := by decide +kernel
theorem dX9_putCounters_258 : decode cX9_putCounters 258 = .ok (.invokevirtual 97, 3) := by decide +kernel
theorem dX9_putCounters_261 : decode cX9_putCounters 261 = .ok (.invokevirtual 100, 3) := by decide +kernel
theorem dX9_putCounters_264 : decode cX9_putCounters 264 = .ok (.invokevirtual 103, 3) := by decide +kernel
theorem dX9_putCounters_267 : decode cX9_putCounters 267 = .ok (.iinc 7 1, 3) := by decide +kernel
theorem dX9_putCounters_270 : decode cX9_putCounters 270 = .ok (.goto (-36), 3) := by decide +kernel
theorem dX9_putCounters_273 : decode cX9_putCounters 273 = .ok (.iinc 5 1, 3) := by decide +kernel
theorem dX9_putCounters_276 : decode cX9_putCounters 276 = .ok (.goto (-68), 3) := by decide +kernel
theorem dX9_putCounters_279 : decode cX9_putCounters 279 = .ok (.aload_n 0, 1) := by decide +kernel
theorem dX9_putCounters_280 : decode cX9_putCounters 280 = .ok (.getfield 14, 3) := by decide +kernel
theorem dX9_putCounters_283 : decode cX9_putCounters 283 = .ok (.iconst 0, 1) := by decide +kernel
theorem dX9_putCounters_284 : decode cX9_putCounters 284 = .ok (.putfield 106, 3) := by decide +kernel
theorem dX9_putCounters_287 : decode cX9_putCounters 287 = .ok (.iconst 0, 1) := by decide +kernel
theorem dX9_putCounters_288 : decode cX9_putCounters 288 = .ok (.istore 5, 2) := by decide +kernel
theorem dX9_putCounters_290 : decode cX9_putCounters 290 = .ok (.iload 5, 2) := by decide +kernel
theorem dX9_putCounters_292 : decode cX9_putCounters 292 = .ok (.aload_n 1, 1) := by decide +kernel
theorem dX9_putCounters_293 : decode cX9_putCounters 293 = .ok (.getfield 106, 3) := by decide +kernel
theorem dX9_putCounters_296 : decode cX9_putCounters 296 = .ok (.if_icmp .ge 56, 3) := by decide +kernel
theorem dX9_putCounters_299 : decode cX9_putCounters 299 = .ok (.aload_n 0, 1) := by decide +kernel
theorem dX9_putCounters_300 : decode cX9_putCounters 300 = .ok (.getfield 14, 3) := by decide +kernel
theorem dX9_putCounters_303 : decode cX9_putCounters 303 = .ok (.aload_n 0, 1) := by decide +kernel
theorem dX9_putCounters_304 : decode cX9_putCounters 304 = .ok (.aload_n 1, 1) := by decide +kernel
theorem dX9_putCounters_305 : decode cX9_putCounters 305 = .ok (.getfield 109, 3) := by decide +kernel
theorem dX9_putCounters_308 : decode cX9_putCounters 308 = .ok (.iload 5, 2) := by decide +kernel
theorem dX9_putCounters_310 : decode cX9_putCounters 310 = .ok (.iaload, 1) := by decide +kernel
theorem dX9_putCounters_311 : decode cX9_putCounters 311 = .ok (.invokevirtual 100, 3) := by decide +kernel
theorem dX9_putCounters_314 : decode cX9_putCounters 314 = .ok (.aload_n 0, 1) := by decide +kernel
theorem dX9_putCounters_315 : decode cX9_putCounters 315 = .ok (.aload_n 1, 1) := by decide +kernel
theorem dX9_putCounters_316 : decode cX9_putCounters 316 = .ok (.getfield 112, 3) := by decide +kernel
theorem dX9_putCounters_319 : decode cX9_putCounters 319 = .ok (.iload 5, 2) := by decide +kernel
theorem dX9_putCounters_321 : decode cX9_putCounters 321 = .ok (.iaload, 1) := by decide +kernel
theorem dX9_putCounters_322 : decode cX9_putCounters 322 = .ok (.invokevirtual 100, 3) := by decide +kernel

theorem dX2_build_25 : decode cX2_build 25 = .ok (.getfield 62, 3) := by decide +kernel
theorem dX2_build_28 : decode cX2_build 28 = .ok (.aload_n 0, 1) := by decide +kernel
theorem dX2_build_29 : decode cX2_build 29 = .ok (.getfield 12, 3) := by decide +kernel
theorem dX2_build_32 : decode cX2_build 32 = .ok (.getfield 59, 3) := by decide +kernel
theorem dX2_build_35 : decode cX2_build 35 = .ok (.invokespecial 281, 3) := by decide +kernel
theorem dX2_build_38 : decode cX2_build 38 = .ok (.astore_n 1, 1) := by decide +kernel
theorem dX2_build_39 : decode cX2_build 39 = .ok (.aload_n 1, 1) := by decide +kernel
theorem dX2_build_40 : decode cX2_build 40 = .ok (.aload_n 0, 1) := by decide +kernel
theorem dX2_build_41 : decode cX2_build 41 = .ok (.getfield 12, 3) := by decide +kernel
theorem dX2_build_44 : decode cX2_build 44 = .ok (.getfield 284, 3) := by decide +kernel
theorem dX2_build_47 : decode cX2_build 47 = .ok (.putfield 287, 3) := by decide +kernel
theorem dX2_build_50 : decode cX2_build 50 = .ok (.aload_n 1, 1) := by decide +kernel
theorem dX2_build_51 : decode cX2_build 51 = .ok (.aload_n 0, 1) := by decide +kernel
theorem dX2_build_52 : decode cX2_build 52 = .ok (.getfield 12, 3) := by decide +kernel
theorem dX2_build_55 : decode cX2_build 55 = .ok (.aload_n 0, 1) := by decide +kernel
theorem dX2_build_56 : decode cX2_build 56 = .ok (.getfield 12, 3) := by decide +kernel
theorem dX2_build_59 : decode cX2_build 59 = .ok (.aload_n 0, 1) := by decide +kernel
theorem dX2_build_60 : decode cX2_build 60 = .ok (.getfield 12, 3) := by decide +kernel
theorem dX2_build_63 : decode cX2_build 63 = .ok (.aload_n 0, 1) := by decide +kernel
theorem dX2_build_64 : decode cX2_build 64 = .ok (.getfield 12, 3) := by decide +kernel
theorem dX2_build_67 : decode cX2_build 67 = .ok (.getfield 258, 3) := by decide +kernel
theorem dX2_build_70 : decode cX2_build 70 = .ok (.iconst 2, 1) := by decide +kernel
theorem dX2_build_71 : decode cX2_build 71 = .ok (.iadd, 1) := by decide +kernel
theorem dX2_build_72 : decode cX2_build 72 = .ok (.invokevirtual 90, 3) := by decide +kernel
theorem dX2_build_75 : decode cX2_build 75 = .ok (.invokevirtual 247, 3) := by decide +kernel
theorem dX2_build_78 : decode cX2_build 78 = .ok (.invokevirtual 288, 3) := by decide +kernel
theorem dX2_build_81 : decode cX2_build 81 = .ok (.putfield 291, 3) := by decide +kernel
theorem dX2_build_84 : decode cX2_build 84 = .ok (.aload_n 1, 1) := by decide +kernel
theorem dX2_build_85 : decode cX2_build 85 = .ok (.aload_n 0, 1) := by decide +kernel
theorem dX2_build_86 : decode cX2_build 86 = .ok (.getfield 12, 3) := by decide +kernel
theorem dX2_build_89 : decode cX2_build 89 = .ok (.aload_n 0, 1) := by decide +kernel
theorem dX2_build_90 : decode cX2_build 90 = .ok (.getfield 12, 3) := by decide +kernel
theorem dX2_build_93 : decode cX2_build 93 = .ok (.aload_n 0, 1) := by decide +kernel
theorem dX2_build_94 : decode cX2_build 94 = .ok (.getfield 12, 3) := by decide +kernel
theorem dX2_build_97 : decode cX2_build 97 = .ok (.aload_n 0, 1) := by decide +kernel
theorem dX2_build_98 : decode cX2_build 98 = .ok (.getfield 12, 3) := by decide +kernel
theorem dX2_build_101 : decode cX2_build 101 = .ok (.getfield 258, 3) := by decide +kernel
theorem dX2_build_104 : decode cX2_build 104 = .ok (.iconst 4, 1) := by decide +kernel
theorem dX2_build_105 : decode cX2_build 105 = .ok (.iadd, 1) := by decide +kernel
theorem dX2_build_106 : decode cX2_build 106 = .ok (.invokevirtual 90, 3) := by decide +kernel
theorem dX2_build_109 : decode cX2_build 109 = .ok (.invokevirtual 247, 3) := by decide +kernel
theorem dX2_build_112 : decode cX2_build 112 = .ok (.invokevirtual 288, 3) := by decide +kernel
theorem dX2_build_115 : decode cX2_build 115 = .ok (.putfield 294, 3) := by decide +kernel
theorem dX2_build_118 : decode cX2_build 118 = .ok (.iconst 0, 1) := by decide +kernel
theorem dX2_build_119 : decode cX2_build 119 = .ok (.istore_n 2, 1) := by decide +kernel
theorem dX2_build_120 : decode cX2_build 120 = .ok (.iload_n 2, 1) := by decide +kernel
theorem dX2_build_121 : decode cX2_build 121 = .ok (.aload_n 1, 1) := by decide +kernel
theorem dX2_build_122 : decode cX2_build 122 = .ok (.getfield 297, 3) := by decide +kernel
theorem dX2_build_125 : decode cX2_build 125 = .ok (.arraylength, 1) := by decide +kernel
theorem dX2_build_126 : decode cX2_build 126 = .ok (.if_icmp .ge 72, 3) := by decide +kernel
theorem dX2_build_129 : decode cX2_build 129 = .ok (.aload_n 1, 1) := by decide +kernel
theorem dX2_build_130 : decode cX2_build 130 = .ok (.getfield 297, 3) := by decide +kernel
theorem dX2_build_133 : decode cX2_build 133 = .ok (.iload_n 2, 1) := by decide +kernel
theorem dX2_build_134 : decode cX2_build 134 = .ok (.aload_n 0, 1) := by decide +kernel
theorem dX2_build_135 : decode cX2_build 135 = .ok (.getfield 12, 3) := by decide +kernel
theorem dX2_build_138 : decode cX2_build 138 = .ok (.aload_n 0, 1) := by decide +kernel
theorem dX2_build_139 : decode cX2_build 139 = .ok (.getfield 12, 3) := by decide +kernel
theorem dX2_build_142 : decode cX2_build 142 = .ok (.iload_n 2, 1) := by decide +kernel
theorem dX2_build_143 : decode cX2_build 143 = .ok (.invokevirtual 267, 3) := by decide +kernel
theorem dX2_build_146 : decode cX2_build 146 = .ok (.invokevirtual 288, 3) := by decide +kernel
theorem dX2_build_149 : decode cX2_build 149 = .ok (.iastore, 1) := by decide +kernel
theorem dX2_build_150 : decode cX2_build 150 = .ok (.aload_n 1, 1) := by decide +kernel
theorem dX2_build_151 : decode cX2_build 151 = .ok (.getfield 300, 3) := by decide +kernel
theorem dX2_build_154 : decode cX2_build 154 = .ok (.iload_n 2, 1) := by decide +kernel
theorem dX2_build_155 : decode cX2_build 155 = .ok (.aload_n 0, 1) := by decide +kernel
theorem dX2_build_156 : decode cX2_build 156 = .ok (.getfield 12, 3) := by decide +kernel
theorem dX2_build_159 : decode cX2_build 159 = .ok (.aload_n 0, 1) := by decide +kernel
theorem dX2_build_160 : decode cX2_build 160 = .ok (.getfield 12, 3) := by decide +kernel
theorem dX2_build_163 : decode cX2_build 163 = .ok (.iload_n 2, 1) := by decide +kernel
theorem dX2_build_164 : decode cX2_build 164 = .ok (.invokevirtual 65, 3) := by decide +kernel
theorem dX2_build_167 : decode cX2_build 167 = .ok (.invokevirtual 288, 3) := by decide +kernel
theorem dX2_build_170 : decode cX2_build 170 = .ok (.iastore, 1) := by decide +kernel
theorem dX2_build_171 : decode cX2_build 171 = .ok (.aload_n 1, 1) := by decide +kernel
theorem dX2_build_172 : decode cX2_build 172 = .ok (.getfield 303, 3) := by decide +kernel
theorem dX2_build_175 : decode cX2_build 175 = .ok (.iload_n 2, 1) := by decide +kernel
theorem dX2_build_176 : decode cX2_build 176 = .ok (.aload_n 0, 1) := by decide +kernel
theorem dX2_build_177 : decode cX2_build 177 = .ok (.getfield 12, 3) := by decide +kernel
theorem dX2_build_180 : decode cX2_build 180 = .ok (.aload_n 0, 1) := by decide +kernel
theorem dX2_build_181 : decode cX2_build 181 = .ok (.getfield 12, 3) := by decide +kernel
theorem dX2_build_184 : decode cX2_build 184 = .ok (.iload_n 2, 1) := by decide +kernel
theorem dX2_build_185 : decode cX2_build 185 = .ok (.invokevirtual 65, 3) := by decide +kernel
theorem dX2_build_188 : decode cX2_build 188 = .ok (.invokevirtual 306, 3) := by decide +kernel
theorem dX2_build_191 : decode cX2_build 191 = .ok (.iastore, 1) := by decide +kernel
theorem dX2_build_192 : decode cX2_build 192 = .ok (.iinc 2 1, 3) := by decide +kernel
theorem dX2_build_195 : decode cX2_build 195 = .ok (.goto (-75), 3) := by decide +kernel
theorem dX2_build_198 : decode cX2_build 198 = .ok (.iconst 0, 1) := by decide +kernel
theorem dX2_build_199 : decode cX2_build 199 = .ok (.istore_n 2, 1) := by decide +kernel
theorem dX2_build_200 : decode cX2_build 200 = .ok (.iload_n 2, 1) := by decide +kernel
theorem dX2_build_201 : decode cX2_build 201 = .ok (.aload_n 1, 1) := by decide +kernel
theorem dX2_build_202 : decode cX2_build 202 = .ok (.getfield 40, 3) := by decide +kernel
theorem dX2_build_205 : decode cX2_build 205 = .ok (.arraylength, 1) := by decide +kernel
theorem dX2_build_206 : decode cX2_build 206 = .ok (.if_icmp .ge 103, 3) := by decide +kernel
theorem dX2_build_209 : decode cX2_build 209 = .ok (.aload_n 0, 1) := by decide +kernel
theorem dX2_build_210 : decode cX2_build 210 = .ok (.getfield 12, 3) := by decide +kernel
theorem dX2_build_213 : decode cX2_build 213 = .ok (.getfield 62, 3) := by decide +kernel
theorem dX2_build_216 : decode cX2_build 216 = .ok (.iload_n 2, 1) := by decide +kernel
theorem dX2_build_217 : decode cX2_build 217 = .ok (.iadd, 1) := by decide +kernel
theorem dX2_build_218 : decode cX2_build 218 = .ok (.istore_n 3, 1) := by decide +kernel
theorem dX2_build_219 : decode cX2_build 219 = .ok (.aload_n 1, 1) := by decide +kernel
theorem dX2_build_220 : decode cX2_build 220 = .ok (.getfield 309, 3) := by decide +kernel
theorem dX2_build_223 : decode cX2_build 223 = .ok (.iload_n 2, 1) := by decide +kernel
theorem dX2_build_224 : decode cX2_build 224 = .ok (.aload_n 0, 1) := by decide +kernel
theorem dX2_build_225 : decode cX2_build 225 = .ok (.getfield 12, 3) := by decide +kernel
theorem dX2_build_228 : decode cX2_build 228 = .ok (.aload_n 0, 1) := by decide +kernel
theorem dX2_build_229 : decode cX2_build 229 = .ok (.getfield 12, 3) := by decide +kernel
theorem dX2_build_232 : decode cX2_build 232 = .ok (.iload_n 3, 1) := by decide +kernel
theorem dX2_build_233 : decode cX2_build 233 = .ok (.invokevirtual 267, 3) := by decide +kernel
theorem dX2_build_236 : decode cX2_build 236 = .ok (.invokevirtual 288, 3) := by decide +kernel
theorem dX2_build_239 : decode cX2_build 239 = .ok (.iastore, 1) := by decide +kernel
theorem dX2_build_240 : decode cX2_build 240 = .ok (.aload_n 1, 1) := by decide +kernel
theorem dX2_build_241 : decode cX2_build 241 = .ok (.getfield 312, 3) := by decide +kernel
theorem dX2_build_244 : decode cX2_build 244 = .ok (.iload_n 2, 1) := by decide +kernel
theorem dX2_build_245 : decode cX2_build 245 = .ok (.aload_n 0, 1) := by decide +kernel
theorem dX2_build_246 : decode cX2_build 246 = .ok (.getfield 12, 3) := by decide +kernel
theorem dX2_build_249 : decode cX2_build 249 = .ok (.aload_n 0, 1) := by decide +kernel
theorem dX2_build_250 : decode cX2_build 250 = .ok (.getfield 12, 3) := by decide +kernel
theorem dX2_build_253 : decode cX2_build 253 = .ok (.iload_n 3, 1) := by decide +kernel
theorem dX2_build_254 : decode cX2_build 254 = .ok (.invokevirtual 65, 3) := by decide +kernel
theorem dX2_build_257 : decode cX2_build 257 = .ok (.invokevirtual 288, 3) := by decide +kernel
theorem dX2_build_260 : decode cX2_build 260 = .ok (.iastore, 1) := by decide +kernel
theorem dX2_build_261 : decode cX2_build 261 = .ok (.aload_n 0, 1) := by decide +kernel
theorem dX2_build_262 : decode cX2_build 262 = .ok (.getfield 12, 3) := by decide +kernel
theorem dX2_build_265 : decode cX2_build 265 = .ok (.aload_n 0, 1) := by decide +kernel
theorem dX2_build_266 : decode cX2_build 266 = .ok (.getfield 12, 3) := by decide +kernel
theorem dX2_build_269 : decode cX2_build 269 = .ok (.iload_n 3, 1) := by decide +kernel
theorem dX2_build_270 : decode cX2_build 270 = .ok (.invokevirtual 65, 3) := by decide +kernel
theorem dX2_build_273 : decode cX2_build 273 = .ok (.invokevirtual 69, 3) := by decide +kernel
theorem dX2_build_276 : decode cX2_build 276 = .ok (.pop, 1) := by decide +kernel
theorem dX2_build_277 : decode cX2_build 277 = .ok (.aload_n 1, 1) := by decide +kernel
theorem dX2_build_278 : decode cX2_build 278 = .ok (.getfield 315, 3) := by decide +kernel
theorem dX2_build_281 : decode cX2_build 281 = .ok (.iload_n 2, 1) := by decide +kernel
theorem dX2_build_282 : decode cX2_build 282 = .ok (.aload_n 0, 1) := by decide +kernel
theorem dX2_build_283 : decode cX2_build 283 = .ok (.getfield 12, 3) := by decide +kernel
theorem dX2_build_286 : decode cX2_build 286 = .ok (.getfield 318, 3) := by decide +kernel
theorem dX2_build_289 : decode cX2_build 289 = .ok (.iastore, 1) := by decide +kernel
theorem dX2_build_290 : decode cX2_build 290 = .ok (.aload_n 1, 1) := by decide +kernel
theorem dX2_build_291 : decode cX2_build 291 = .ok (.getfield 321, 3) := by decide +kernel
theorem dX2_build_294 : decode cX2_build 294 = .ok (.iload_n 2, 1) := by decide +kernel
theorem dX2_build_295 : decode cX2_build 295 = .ok (.aload_n 0, 1) := by decide +kernel
theorem dX2_build_296 : decode cX2_build 296 = .ok (.getfield 12, 3) := by decide +kernel
theorem dX2_build_299 : decode cX2_build 299 = .ok (.getfield 324, 3) := by decide +kernel
theorem dX2_build_302 : decode cX2_build 302 = .ok (.iastore, 1) := by decide +kernel
theorem dX2_build_303 : decode cX2_build 303 = .ok (.iinc 2 1, 3) := by decide +kernel
theorem dX2_build_306 : decode cX2_build 306 = .ok (.goto (-106), 3) := by decide +kernel
theorem dX2_build_309 : decode cX2_build 309 = .ok (.aload_n 1, 1) := by decide +kernel
theorem dX2_build_310 : decode cX2_build 310 = .ok (.areturn, 1) := by decide +kernel
theorem dX2_catchHolds_0 : decode cX2_catchHolds 0 = .ok (.aload_n 0, 1) := by decide +kernel
theorem dX2_catchHolds_1 : decode cX2_catchHolds 1 = .ok (.getfield 12, 3) := by decide +kernel
theorem dX2_catchHolds_4 : decode cX2_catchHolds 4 = .ok (.iload_n 1, 1) := by decide +kernel
theorem dX2_catchHolds_5 : decode cX2_catchHolds 5 = .ok (.invokevirtual 90, 3) := by decide +kernel

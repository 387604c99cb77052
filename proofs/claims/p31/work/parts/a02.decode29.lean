theorem dX2_addTo_133 : decode cX2_addTo 133 = .ok (.getfield 172, 3) := by decide +kernel
theorem dX2_addTo_136 : decode cX2_addTo 136 = .ok (.l2i, 1) := by decide +kernel
theorem dX2_addTo_137 : decode cX2_addTo 137 = .ok (.invokevirtual 288, 3) := by decide +kernel
theorem dX2_addTo_140 : decode cX2_addTo 140 = .ok (.iconst 1, 1) := by decide +kernel
theorem dX2_addTo_141 : decode cX2_addTo 141 = .ok (.iadd, 1) := by decide +kernel
theorem dX2_addTo_142 : decode cX2_addTo 142 = .ok (.invokevirtual 102, 3) := by decide +kernel
theorem dX2_addTo_145 : decode cX2_addTo 145 = .ok (.i2l, 1) := by decide +kernel
theorem dX2_addTo_146 : decode cX2_addTo 146 = .ok (.invokevirtual 346, 3) := by decide +kernel
theorem dX2_addTo_149 : decode cX2_addTo 149 = .ok (.goto 88, 3) := by decide +kernel
theorem dX2_addTo_152 : decode cX2_addTo 152 = .ok (.aload_n 1, 1) := by decide +kernel
theorem dX2_addTo_153 : decode cX2_addTo 153 = .ok (.bipush 20, 2) := by decide +kernel
theorem dX2_addTo_155 : decode cX2_addTo 155 = .ok (.aload_n 0, 1) := by decide +kernel
theorem dX2_addTo_156 : decode cX2_addTo 156 = .ok (.aload_n 0, 1) := by decide +kernel
theorem dX2_addTo_157 : decode cX2_addTo 157 = .ok (.getfield 12, 3) := by decide +kernel
theorem dX2_addTo_160 : decode cX2_addTo 160 = .ok (.aload_n 0, 1) := by decide +kernel
theorem dX2_addTo_161 : decode cX2_addTo 161 = .ok (.getfield 172, 3) := by decide +kernel
theorem dX2_addTo_164 : decode cX2_addTo 164 = .ok (.l2i, 1) := by decide +kernel
theorem dX2_addTo_165 : decode cX2_addTo 165 = .ok (.invokevirtual 288, 3) := by decide +kernel
theorem dX2_addTo_168 : decode cX2_addTo 168 = .ok (.iconst 1, 1) := by decide +kernel
theorem dX2_addTo_169 : decode cX2_addTo 169 = .ok (.iadd, 1) := by decide +kernel
theorem dX2_addTo_170 : decode cX2_addTo 170 = .ok (.invokevirtual 352, 3) := by decide +kernel
theorem dX2_addTo_173 : decode cX2_addTo 173 = .ok (.invokevirtual 346, 3) := by decide +kernel
theorem dX2_addTo_176 : decode cX2_addTo 176 = .ok (.goto 61, 3) := by decide +kernel
theorem dX2_addTo_179 : decode cX2_addTo 179 = .ok (.aload_n 1, 1) := by decide +kernel
theorem dX2_addTo_180 : decode cX2_addTo 180 = .ok (.aload_n 0, 1) := by decide +kernel
theorem dX2_addTo_181 : decode cX2_addTo 181 = .ok (.getfield 169, 3) := by decide +kernel
theorem dX2_addTo_184 : decode cX2_addTo 184 = .ok (.aload_n 0, 1) := by decide +kernel
theorem dX2_addTo_185 : decode cX2_addTo 185 = .ok (.aload_n 0, 1) := by decide +kernel
theorem dX2_addTo_186 : decode cX2_addTo 186 = .ok (.getfield 172, 3) := by decide +kernel
theorem dX2_addTo_189 : decode cX2_addTo 189 = .ok (.l2i, 1) := by decide +kernel
theorem dX2_addTo_190 : decode cX2_addTo 190 = .ok (.bipush 9, 2) := by decide +kernel
theorem dX2_addTo_192 : decode cX2_addTo 192 = .ok (.invokevirtual 234, 3) := by decide +kernel
theorem dX2_addTo_195 : decode cX2_addTo 195 = .ok (.i2l, 1) := by decide +kernel
theorem dX2_addTo_196 : decode cX2_addTo 196 = .ok (.invokevirtual 346, 3) := by decide +kernel
theorem dX2_addTo_199 : decode cX2_addTo 199 = .ok (.goto 38, 3) := by decide +kernel
theorem dX2_addTo_202 : decode cX2_addTo 202 = .ok (.aload_n 1, 1) := by decide +kernel
theorem dX2_addTo_203 : decode cX2_addTo 203 = .ok (.aload_n 0, 1) := by decide +kernel
theorem dX2_addTo_204 : decode cX2_addTo 204 = .ok (.getfield 169, 3) := by decide +kernel
theorem dX2_addTo_207 : decode cX2_addTo 207 = .ok (.aload_n 0, 1) := by decide +kernel
theorem dX2_addTo_208 : decode cX2_addTo 208 = .ok (.aload_n 0, 1) := by decide +kernel
theorem dX2_addTo_209 : decode cX2_addTo 209 = .ok (.getfield 172, 3) := by decide +kernel
theorem dX2_addTo_212 : decode cX2_addTo 212 = .ok (.l2i, 1) := by decide +kernel
theorem dX2_addTo_213 : decode cX2_addTo 213 = .ok (.bipush 10, 2) := by decide +kernel
theorem dX2_addTo_215 : decode cX2_addTo 215 = .ok (.invokevirtual 234, 3) := by decide +kernel
theorem dX2_addTo_218 : decode cX2_addTo 218 = .ok (.i2l, 1) := by decide +kernel
theorem dX2_addTo_219 : decode cX2_addTo 219 = .ok (.invokevirtual 346, 3) := by decide +kernel
theorem dX2_addTo_222 : decode cX2_addTo 222 = .ok (.goto 15, 3) := by decide +kernel
theorem dX2_addTo_225 : decode cX2_addTo 225 = .ok (.aload_n 1, 1) := by decide +kernel
theorem dX2_addTo_226 : decode cX2_addTo 226 = .ok (.aload_n 0, 1) := by decide +kernel
theorem dX2_addTo_227 : decode cX2_addTo 227 = .ok (.getfield 169, 3) := by decide +kernel
theorem dX2_addTo_230 : decode cX2_addTo 230 = .ok (.aload_n 0, 1) := by decide +kernel
theorem dX2_addTo_231 : decode cX2_addTo 231 = .ok (.getfield 172, 3) := by decide +kernel
theorem dX2_addTo_234 : decode cX2_addTo 234 = .ok (.invokevirtual 346, 3) := by decide +kernel
theorem dX2_addTo_237 : decode cX2_addTo 237 = .ok (.return_, 1) := by decide +kernel
theorem dX2_build_0 : decode cX2_build 0 = .ok (.new 41, 3) := by decide +kernel
theorem dX2_build_3 : decode cX2_build 3 = .ok (.dup, 1) := by decide +kernel
theorem dX2_build_4 : decode cX2_build 4 = .ok (.aload_n 0, 1) := by decide +kernel
theorem dX2_build_5 : decode cX2_build 5 = .ok (.getfield 12, 3) := by decide +kernel
theorem dX2_build_8 : decode cX2_build 8 = .ok (.getfield 270, 3) := by decide +kernel
theorem dX2_build_11 : decode cX2_build 11 = .ok (.aload_n 0, 1) := by decide +kernel
theorem dX2_build_12 : decode cX2_build 12 = .ok (.getfield 12, 3) := by decide +kernel
theorem dX2_build_15 : decode cX2_build 15 = .ok (.getfield 274, 3) := by decide +kernel
theorem dX2_build_18 : decode cX2_build 18 = .ok (.invokestatic 277, 3) := by decide +kernel
theorem dX2_build_21 : decode cX2_build 21 = .ok (.aload_n 0, 1) := by decide +kernel
theorem dX2_build_22 : decode cX2_build 22 = .ok (.getfield 12, 3) := by decide +kernel
theorem dX2_build_25 : decode cX2_build 25 = .ok (.getfield 62, 3) := by decide +kernel
theorem dX2_build_28 : decode cX2_build 28 = .ok (.aload_n 0, 1) := by decide +kernel
theorem dX2_build_29 : decode cX2_build 29 = .ok (.getfield 12, 3) := by decide +kernel
theorem dX2_build_32 : decode cX2_build 32 = .ok (.getfield 59, 3) := by decide +kernel
theorem dX2_build_35 : decode cX2_build 35 = .ok (.invokespecial 281, 3) := by decide +kernel
theorem dX2_build_38 : decode cX2_build 38 = .ok (.astore_n 1, 1) := by decide +kernel
theorem dX2_build_39 : decode cX2_build 39 = .ok (.aload_n 1, 1) := by decide +kernel
theorem dX2_build_40 : decode cX2_build 40 = .ok (.aload_n 0, 1) := by decide +kernel
theorem dX2_build_41 : decode cX2_build 41 = .ok (.getfield 12, 3) := by decide +kernel
theorem dX2_build_44 : decode cX2_build 44 = .ok (.getfield 284, 3) := by decide +kernel
theorem dX2_build_47 : decode cX2_build 47 = .ok (.putfield 287, 3) := by decide +kernel
theorem dX2_build_50 : decode cX2_build 50 = .ok (.aload_n 1, 1) := by decide +kernel
theorem dX2_build_51 : decode cX2_build 51 = .ok (.aload_n 0, 1) := by decide +kernel
theorem dX2_build_52 : decode cX2_build 52 = .ok (.getfield 12, 3) := by decide +kernel
theorem dX2_build_55 : decode cX2_build 55 = .ok (.aload_n 0, 1) := by decide +kernel
theorem dX2_build_56 : decode cX2_build 56 = .ok (.getfield 12, 3) := by decide +kernel
theorem dX2_build_59 : decode cX2_build 59 = .ok (.aload_n 0, 1) := by decide +kernel
theorem dX2_build_60 : decode cX2_build 60 = .ok (.getfield 12, 3) := by decide +kernel
theorem dX2_build_63 : decode cX2_build 63 = .ok (.aload_n 0, 1) := by decide +kernel
theorem dX2_build_64 : decode cX2_build 64 = .ok (.getfield 12, 3) := by decide +kernel
theorem dX2_build_67 : decode cX2_build 67 = .ok (.getfield 258, 3) := by decide +kernel
theorem dX2_build_70 : decode cX2_build 70 = .ok (.iconst 2, 1) := by decide +kernel
theorem dX2_build_71 : decode cX2_build 71 = .ok (.iadd, 1) := by decide +kernel
theorem dX2_build_72 : decode cX2_build 72 = .ok (.invokevirtual 90, 3) := by decide +kernel
theorem dX2_build_75 : decode cX2_build 75 = .ok (.invokevirtual 247, 3) := by decide +kernel
theorem dX2_build_78 : decode cX2_build 78 = .ok (.invokevirtual 288, 3) := by decide +kernel
theorem dX2_build_81 : decode cX2_build 81 = .ok (.putfield 291, 3) := by decide +kernel
theorem dX2_build_84 : decode cX2_build 84 = .ok (.aload_n 1, 1) := by decide +kernel
theorem dX2_build_85 : decode cX2_build 85 = .ok (.aload_n 0, 1) := by decide +kernel
theorem dX2_build_86 : decode cX2_build 86 = .ok (.getfield 12, 3) := by decide +kernel
theorem dX2_build_89 : decode cX2_build 89 = .ok (.aload_n 0, 1) := by decide +kernel
theorem dX2_build_90 : decode cX2_build 90 = .ok (.getfield 12, 3) := by decide +kernel
theorem dX2_build_93 : decode cX2_build 93 = .ok (.aload_n 0, 1) := by decide +kernel
theorem dX2_build_94 : decode cX2_build 94 = .ok (.getfield 12, 3) := by decide +kernel
theorem dX2_build_97 : decode cX2_build 97 = .ok (.aload_n 0, 1) := by decide +kernel
theorem dX2_build_98 : decode cX2_build 98 = .ok (.getfield 12, 3) := by decide +kernel
theorem dX2_build_101 : decode cX2_build 101 = .ok (.getfield 258, 3) := by decide +kernel
theorem dX2_build_104 : decode cX2_build 104 = .ok (.iconst 4, 1) := by decide +kernel
theorem dX2_build_105 : decode cX2_build 105 = .ok (.iadd, 1) := by decide +kernel
theorem dX2_build_106 : decode cX2_build 106 = .ok (.invokevirtual 90, 3) := by decide +kernel
theorem dX2_build_109 : decode cX2_build 109 = .ok (.invokevirtual 247, 3) := by decide +kernel
theorem dX2_build_112 : decode cX2_build 112 = .ok (.invokevirtual 288, 3) := by decide +kernel
theorem dX2_build_115 : decode cX2_build 115 = .ok (.putfield 294, 3) := by decide +kernel
theorem dX2_build_118 : decode cX2_build 118 = .ok (.iconst 0, 1) := by decide +kernel
theorem dX2_build_119 : decode cX2_build 119 = .ok (.istore_n 2, 1) := by decide +kernel
theorem dX2_build_120 : decode cX2_build 120 = .ok (.iload_n 2, 1) := by decide +kernel
theorem dX2_build_121 : decode cX2_build 121 = .ok (.aload_n 1, 1) := by decide +kernel
theorem dX2_build_122 : decode cX2_build 122 = .ok (.getfield 297, 3) := by decide +kernel
theorem dX2_build_125 : decode cX2_build 125 = .ok (.arraylength, 1) := by decide +kernel
theorem dX2_build_126 : decode cX2_build 126 = .ok (.if_icmp .ge 72, 3) := by decide +kernel
theorem dX2_build_129 : decode cX2_build 129 = .ok (.aload_n 1, 1) := by decide +kernel
theorem dX2_build_130 : decode cX2_build 130 = .ok (.getfield 297, 3) := by decide +kernel
theorem dX2_build_133 : decode cX2_build 133 = .ok (.iload_n 2, 1) := by decide +kernel
theorem dX2_build_134 : decode cX2_build 134 = .ok (.aload_n 0, 1) := by decide +kernel
theorem dX2_build_135 : decode cX2_build 135 = .ok (.getfield 12, 3) := by decide +kernel
theorem dX2_build_138 : decode cX2_build 138 = .ok (.aload_n 0, 1) := by decide +kernel
theorem dX2_build_139 : decode cX2_build 139 = .ok (.getfield 12, 3) := by decide +kernel
theorem dX2_build_142 : decode cX2_build 142 = .ok (.iload_n 2, 1) := by decide +kernel
theorem dX2_build_143 : decode cX2_build 143 = .ok (.invokevirtual 267, 3) := by decide +kernel
theorem dX2_build_146 : decode cX2_build 146 = .ok (.invokevirtual 288, 3) := by decide +kernel
theorem dX2_build_149 : decode cX2_build 149 = .ok (.iastore, 1) := by decide +kernel
theorem dX2_build_150 : decode cX2_build 150 = .ok (.aload_n 1, 1) := by decide +kernel
theorem dX2_build_151 : decode cX2_build 151 = .ok (.getfield 300, 3) := by decide +kernel
theorem dX2_build_154 : decode cX2_build 154 = .ok (.iload_n 2, 1) := by decide +kernel
theorem dX2_build_155 : decode cX2_build 155 = .ok (.aload_n 0, 1) := by decide +kernel
theorem dX2_build_156 : decode cX2_build 156 = .ok (.getfield 12, 3) := by decide +kernel
theorem dX2_build_159 : decode cX2_build 159 = .ok (.aload_n 0, 1) := by decide +kernel
theorem dX2_build_160 : decode cX2_build 160 = .ok (.getfield 12, 3) := by decide +kernel
theorem dX2_build_163 : decode cX2_build 163 = .ok (.iload_n 2, 1) := by decide +kernel
theorem dX2_build_164 : decode cX2_build 164 = .ok (.invokevirtual 65, 3) := by decide +kernel
theorem dX2_build_167 : decode cX2_build 167 = .ok (.invokevirtual 288, 3) := by decide +kernel
theorem dX2_build_170 : decode cX2_build 170 = .ok (.iastore, 1) := by decide +kernel
theorem dX2_build_171 : decode cX2_build 171 = .ok (.aload_n 1, 1) := by decide +kernel
theorem dX2_build_172 : decode cX2_build 172 = .ok (.getfield 303, 3) := by decide +kernel
theorem dX2_build_175 : decode cX2_build 175 = .ok (.iload_n 2, 1) := by decide +kernel
theorem dX2_build_176 : decode cX2_build 176 = .ok (.aload_n 0, 1) := by decide +kernel
theorem dX2_build_177 : decode cX2_build 177 = .ok (.getfield 12, 3) := by decide +kernel
theorem dX2_build_180 : decode cX2_build 180 = .ok (.aload_n 0, 1) := by decide +kernel
theorem dX2_build_181 : decode cX2_build 181 = .ok (.getfield 12, 3) := by decide +kernel
theorem dX2_build_184 : decode cX2_build 184 = .ok (.iload_n 2, 1) := by decide +kernel
theorem dX2_build_185 : decode cX2_build 185 = .ok (.invokevirtual 65, 3) := by decide +kernel
theorem dX2_build_188 : decode cX2_build 188 = .ok (.invokevirtual 306, 3) := by decide +kernel
theorem dX2_build_191 : decode cX2_build 191 = .ok (.iastore, 1) := by decide +kernel
theorem dX2_build_192 : decode cX2_build 192 = .ok (.iinc 2 1, 3) := by decide +kernel
theorem dX2_build_195 : decode cX2_build 195 = .ok (.goto (-75), 3) := by decide +kernel
theorem dX2_build_198 : decode cX2_build 198 = .ok (.iconst 0, 1) := by decide +kernel
theorem dX2_build_199 : decode cX2_build 199 = .ok (.istore_n 2, 1) := by decide +kernel
theorem dX2_build_200 : decode cX2_build 200 = .ok (.iload_n 2, 1) := by decide +kernel
theorem dX2_build_201 : decode cX2_build 201 = .ok (.aload_n 1, 1) := by decide +kernel
theorem dX2_build_202 : decode cX2_build 202 = .ok (.getfield 40, 3) := by decide +kernel
theorem dX2_build_205 : decode cX2_build 205 = .ok (.arraylength, 1) := by decide +kernel
theorem dX2_build_206 : decode cX2_build 206 = .ok (.if_icmp .ge 103, 3) := by decide +kernel
theorem dX2_build_209 : decode cX2_build 209 = .ok (.aload_n 0, 1) := by decide +kernel
theorem dX2_build_210 : decode cX2_build 210 = .ok (.getfield 12, 3) := by decide +kernel
theorem dX2_build_213 : decode cX2_build 213 = .ok (.getfield 62, 3) := by decide +kernel
theorem dX2_build_216 : decode cX2_build 216 = .ok (.iload_n 2, 1) := by decide +kernel
theorem dX2_build_217 : decode cX2_build 217 = .ok (.iadd, 1) := by decide +kernel
theorem dX2_build_218 : decode cX2_build 218 = .ok (.istore_n 3, 1) := by decide +kernel
theorem dX2_build_219 : decode cX2_build 219 = .ok (.aload_n 1, 1) := by decide +kernel
theorem dX2_build_220 : decode cX2_build 220 = .ok (.getfield 309, 3) := by decide +kernel
theorem dX2_build_223 : decode cX2_build 223 = .ok (.iload_n 2, 1) := by decide +kernel
theorem dX2_build_224 : decode cX2_build 224 = .ok (.aload_n 0, 1) := by decide +kernel
theorem dX2_build_225 : decode cX2_build 225 = .ok (.getfield 12, 3) := by decide +kernel
theorem dX2_build_228 : decode cX2_build 228 = .ok (.aload_n 0, 1) := by decide +kernel
theorem dX2_build_229 : decode cX2_build 229 = .ok (.getfield 12, 3) := by decide +kernel
theorem dX2_build_232 : decode cX2_build 232 = .ok (.iload_n 3, 1) := by decide +kernel
theorem dX2_build_233 : decode cX2_build 233 = .ok (.invokevirtual 267, 3) := by decide +kernel
theorem dX2_build_236 : decode cX2_build 236 = .ok (.invokevirtual 288, 3) := by decide +kernel
theorem dX2_build_239 : decode cX2_build 239 = .ok (.iastore, 1) := by decide +kernel
theorem dX2_build_240 : decode cX2_build 240 = .ok (.aload_n 1, 1) := by decide +kernel
theorem dX2_build_241 : decode cX2_build 241 = .ok (.getfield 312, 3) := by decide +kernel
theorem dX2_build_244 : decode cX2_build 244 = .ok (.iload_n 2, 1) := by decide +kernel
theorem dX2_build_245 : decode cX2_build 245 = .ok (.aload_n 0, 1) := by decide +kernel
theorem dX2_build_246 : decode cX2_build 246 = .ok (.getfield 12, 3) := by decide +kernel
theorem dX2_build_249 : decode cX2_build 249 = .ok (.aload_n 0, 1) := by decide +kernel
theorem dX2_build_250 : decode cX2_build 250 = .ok (.getfield 12, 3) := by decide +kernel
theorem dX2_build_253 : decode cX2_build 253 = .ok (.iload_n 3, 1) := by decide +kernel
theorem dX2_build_254 : decode cX2_build 254 = .ok (.invokevirtual 65, 3) := by decide +kernel
theorem dX2_build_257 : decode cX2_build 257 = .ok (.invokevirtual 288, 3) := by decide +kernel
theorem dX2_build_260 : decode cX2_build 260 = .ok (.iastore, 1) := by decide +kernel
theorem dX2_build_261 : decode cX2_build 261 = .ok (.aload_n 0, 1) := by decide +kernel
theorem dX2_build_262 : decode cX2_build 262 = .ok (.getfield 12, 3) := by decide +kernel
theorem dX2_build_265 : decode cX2_build 265 = .ok (.aload_n 0, 1) := by decide +kernel
theorem dX2_build_266 : decode cX2_build 266 = .ok (.getfield 12, 3) := by decide +kernel
theorem dX2_build_269 : decode cX2_build 269 = .ok (.iload_n 3, 1) := by decide +kernel
theorem dX2_build_270 : decode cX2_build 270 = .ok (.invokevirtual 65, 3) := by decide +kernel
theorem dX2_build_273 : decode cX2_build 273 = .ok (.invokevirtual 69, 3) := by decide +kernel
theorem dX2_build_276 : decode cX2_build 276 = .ok (.pop, 1) := by decide +kernel
theorem dX2_build_277 : decode cX2_build 277 = .ok (.aload_n 1, 1) := by decide +kernel
theorem dX2_build_278 : decode cX2_build 278 = .ok (.getfield 315, 3) := by decide +kernel
theorem dX2_build_281 : decode cX2_build 281 = .ok (.iload_n 2, 1) := by decide +kernel
theorem dX2_build_282 : decode cX2_build 282 = .ok (.aload_n 0, 1) := by decide +kernel
theorem dX2_build_283 : decode cX2_build 283 = .ok (.getfield 12, 3) := by decide +kernel
theorem dX2_build_286 : decode cX2_build 286 = .ok (.getfield 318, 3) := by decide +kernel
theorem dX2_build_289 : decode cX2_build 289 = .ok (.iastore, 1) := by decide +kernel
theorem dX2_build_290 : decode cX2_build 290 = .ok (.aload_n 1, 1) := by decide +kernel
theorem dX2_build_291 : decode cX2_build 291 = .ok (.getfield 321, 3) := by decide +kernel
theorem dX2_build_294 : decode cX2_build 294 = .ok (.iload_n 2, 1) := by decide +kernel
theorem dX2_build_295 : decode cX2_build 295 = .ok (.aload_n 0, 1) := by decide +kernel
theorem dX2_build_296 : decode cX2_build 296 = .ok (.getfield 12, 3) := by decide +kernel
theorem dX2_build_299 : decode cX2_build 299 = .ok (.getfield 324, 3) := by decide +kernel
theorem dX2_build_302 : decode cX2_build 302 = .ok (.iastore, 1) := by decide +kernel
theorem dX2_build_303 : decode cX2_build 303 = .ok (.iinc 2 1, 3) := by decide +kernel
theorem dX2_build_306 : decode cX2_build 306 = .ok (.goto (-106), 3) := by decide +kernel
theorem dX2_build_309 : decode cX2_build 309 = .ok (.aload_n 1, 1) := by decide +kernel
theorem dX2_build_310 : decode cX2_build 310 = .ok (.areturn, 1) := by decide +kernel
theorem dX2_catchHolds_0 : decode cX2_catchHolds 0 = .ok (.aload_n 0, 1) := by decide +kernel
theorem dX2_catchHolds_1 : decode cX2_catchHolds 1 = .ok (.getfield 12, 3) := by decide +kernel
theorem dX2_catchHolds_4 : decode cX2_catchHolds 4 = .ok (.iload_n 1, 1) := by decide +kernel
theorem dX2_catchHolds_5 : decode cX2_catchHolds 5 = .ok (.invokevirtual 90, 3) := by decide +kernel
theorem dX2_catchHolds_8 : decode cX2_catchHolds 8 = .ok (.istore_n 2, 1) := by decide +kernel
theorem dX2_catchHolds_9 : decode cX2_catchHolds 9 = .ok (.aload_n 0, 1) := by decide +kernel
theorem dX2_catchHolds_10 : decode cX2_catchHolds 10 = .ok (.getfield 12, 3) := by decide +kernel
theorem dX2_catchHolds_13 : decode cX2_catchHolds 13 = .ok (.iload_n 1, 1) := by decide +kernel
theorem dX2_catchHolds_14 : decode cX2_catchHolds 14 = .ok (.iconst 2, 1) := by decide +kernel
theorem dX2_catchHolds_15 : decode cX2_catchHolds 15 = .ok (.iadd, 1) := by decide +kernel
theorem dX2_catchHolds_16 : decode cX2_catchHolds 16 = .ok (.invokevirtual 90, 3) := by decide +kernel
theorem dX2_catchHolds_19 : decode cX2_catchHolds 19 = .ok (.istore_n 3, 1) := by decide +kernel
theorem dX2_catchHolds_20 : decode cX2_catchHolds 20 = .ok (.aload_n 0, 1) := by decide +kernel
theorem dX2_catchHolds_21 : decode cX2_catchHolds 21 = .ok (.iload_n 2, 1) := by decide +kernel
theorem dX2_catchHolds_22 : decode cX2_catchHolds 22 = .ok (.i2l, 1) := by decide +kernel
theorem dX2_catchHolds_23 : decode cX2_catchHolds 23 = .ok (.invokevirtual 221, 3) := by decide +kernel
theorem dX2_catchHolds_26 : decode cX2_catchHolds 26 = .ok (.ifCond .eq 58, 3) := by decide +kernel
theorem dX2_catchHolds_29 : decode cX2_catchHolds 29 = .ok (.aload_n 0, 1) := by decide +kernel
theorem dX2_catchHolds_30 : decode cX2_catchHolds 30 = .ok (.iload_n 3, 1) := by decide +kernel
theorem dX2_catchHolds_31 : decode cX2_catchHolds 31 = .ok (.i2l, 1) := by decide +kernel
theorem dX2_catchHolds_32 : decode cX2_catchHolds 32 = .ok (.invokevirtual 217, 3) := by decide +kernel
theorem dX2_catchHolds_35 : decode cX2_catchHolds 35 = .ok (.ifCond .lt 49, 3) := by decide +kernel
theorem dX2_catchHolds_38 : decode cX2_catchHolds 38 = .ok (.iload_n 2, 1) := by decide +kernel
theorem dX2_catchHolds_39 : decode cX2_catchHolds 39 = .ok (.iload_n 3, 1) := by decide +kernel
theorem dX2_catchHolds_40 : decode cX2_catchHolds 40 = .ok (.if_icmp .ge 44, 3) := by decide +kernel
theorem dX2_catchHolds_43 : decode cX2_catchHolds 43 = .ok (.aload_n 0, 1) := by decide +kernel
theorem dX2_catchHolds_44 : decode cX2_catchHolds 44 = .ok (.aload_n 0, 1) := by decide +kernel
theorem dX2_catchHolds_45 : decode cX2_catchHolds 45 = .ok (.getfield 12, 3) := by decide +kernel
theorem dX2_catchHolds_48 : decode cX2_catchHolds 48 = .ok (.iload_n 1, 1) := by decide +kernel
theorem dX2_catchHolds_49 : decode cX2_catchHolds 49 = .ok (.iconst 4, 1) := by decide +kernel
theorem dX2_catchHolds_50 : decode cX2_catchHolds 50 = .ok (.iadd, 1) := by decide +kernel
theorem dX2_catchHolds_51 : decode cX2_catchHolds 51 = .ok (.invokevirtual 90, 3) := by decide +kernel
theorem dX2_catchHolds_54 : decode cX2_catchHolds 54 = .ok (.i2l, 1) := by decide +kernel
theorem dX2_catchHolds_55 : decode cX2_catchHolds 55 = .ok (.invokevirtual 221, 3) := by decide +kernel
theorem dX2_catchHolds_58 : decode cX2_catchHolds 58 = .ok (.ifCond .eq 26, 3) := by decide +kernel
theorem dX2_catchHolds_61 : decode cX2_catchHolds 61 = .ok (.aload_n 0, 1) := by decide +kernel
theorem dX2_catchHolds_62 : decode cX2_catchHolds 62 = .ok (.aload_n 0, 1) := by decide +kernel
theorem dX2_catchHolds_63 : decode cX2_catchHolds 63 = .ok (.getfield 12, 3) := by decide +kernel
theorem dX2_catchHolds_66 : decode cX2_catchHolds 66 = .ok (.iload_n 1, 1) := by decide +kernel
theorem dX2_catchHolds_67 : decode cX2_catchHolds 67 = .ok (.bipush 6, 2) := by decide +kernel
theorem dX2_catchHolds_69 : decode cX2_catchHolds 69 = .ok (.iadd, 1) := by decide +kernel
theorem dX2_catchHolds_70 : decode cX2_catchHolds 70 = .ok (.invokevirtual 90, 3) := by decide +kernel
theorem dX2_catchHolds_73 : decode cX2_catchHolds 73 = .ok (.invokevirtual 244, 3) := by decide +kernel
theorem dX2_catchHolds_76 : decode cX2_catchHolds 76 = .ok (.iconst (-1), 1) := by decide +kernel
theorem dX2_catchHolds_77 : decode cX2_catchHolds 77 = .ok (.if_icmp .lt 7, 3) := by decide +kernel
theorem dX2_catchHolds_80 : decode cX2_catchHolds 80 = .ok (.iconst 1, 1) := by decide +kernel
theorem dX2_catchHolds_81 : decode cX2_catchHolds 81 = .ok (.goto 4, 3) := by decide +kernel
theorem dX2_catchHolds_84 : decode cX2_catchHolds 84 = .ok (.iconst 0, 1) := by decide +kernel
theorem dX2_catchHolds_85 : decode cX2_catchHolds 85 = .ok (.ireturn, 1) := by decide +kernel
theorem dX2_catchesHold_0 : decode cX2_catchesHold 0 = .ok (.iload_n 1, 1) := by decide +kernel
theorem dX2_catchesHold_1 : decode cX2_catchesHold 1 = .ok (.iconst 2, 1) := by decide +kernel
theorem dX2_catchesHold_2 : decode cX2_catchesHold 2 = .ok (.iadd, 1) := by decide +kernel
theorem dX2_catchesHold_3 : decode cX2_catchesHold 3 = .ok (.iload_n 2, 1) := by decide +kernel
theorem dX2_catchesHold_4 : decode cX2_catchesHold 4 = .ok (.if_icmp .le 14, 3) := by decide +kernel
theorem dX2_catchesHold_7 : decode cX2_catchesHold 7 = .ok (.aload_n 0, 1) := by decide +kernel
theorem dX2_catchesHold_8 : decode cX2_catchesHold 8 = .ok (.getfield 12, 3) := by decide +kernel
theorem dX2_catchesHold_11 : decode cX2_catchesHold 11 = .ok (.bipush 14, 2) := by decide +kernel
theorem dX2_catchesHold_13 : decode cX2_catchesHold 13 = .ok (.iload_n 2, 1) := by decide +kernel
theorem dX2_catchesHold_14 : decode cX2_catchesHold 14 = .ok (.invokevirtual 86, 3) := by decide +kernel
theorem dX2_catchesHold_17 : decode cX2_catchesHold 17 = .ok (.ireturn, 1) := by decide +kernel
theorem dX2_catchesHold_18 : decode cX2_catchesHold 18 = .ok (.aload_n 0, 1) := by decide +kernel
theorem dX2_catchesHold_19 : decode cX2_catchesHold 19 = .ok (.getfield 12, 3) := by decide +kernel
theorem dX2_catchesHold_22 : decode cX2_catchesHold 22 = .ok (.iload_n 1, 1) := by decide +kernel
theorem dX2_catchesHold_23 : decode cX2_catchesHold 23 = .ok (.invokevirtual 90, 3) := by decide +kernel
theorem dX2_catchesHold_26 : decode cX2_catchesHold 26 = .ok (.istore_n 3, 1) := by decide +kernel
theorem dX2_catchesHold_27 : decode cX2_catchesHold 27 = .ok (.iload_n 3, 1) := by decide +kernel
theorem dX2_catchesHold_28 : decode cX2_catchesHold 28 = .ok (.bipush 16, 2) := by decide +kernel
theorem dX2_catchesHold_30 : decode cX2_catchesHold 30 = .ok (.if_icmp .le 14, 3) := by decide +kernel
theorem dX2_catchesHold_33 : decode cX2_catchesHold 33 = .ok (.aload_n 0, 1) := by decide +kernel
theorem dX2_catchesHold_34 : decode cX2_catchesHold 34 = .ok (.getfield 12, 3) := by decide +kernel
theorem dX2_catchesHold_37 : decode cX2_catchesHold 37 = .ok (.bipush 13, 2) := by decide +kernel
theorem dX2_catchesHold_39 : decode cX2_catchesHold 39 = .ok (.iload_n 1, 1) := by decide +kernel
theorem dX2_catchesHold_40 : decode cX2_catchesHold 40 = .ok (.invokevirtual 86, 3) := by decide +kernel
theorem dX2_catchesHold_43 : decode cX2_catchesHold 43 = .ok (.ireturn, 1) := by decide +kernel
theorem dX2_catchesHold_44 : decode cX2_catchesHold 44 = .ok (.iload_n 1, 1) := by decide +kernel
theorem dX2_catchesHold_45 : decode cX2_catchesHold 45 = .ok (.iconst 2, 1) := by decide +kernel
theorem dX2_catchesHold_46 : decode cX2_catchesHold 46 = .ok (.iadd, 1) := by decide +kernel
theorem dX2_catchesHold_47 : decode cX2_catchesHold 47 = .ok (.bipush 8, 2) := by decide +kernel
theorem dX2_catchesHold_49 : decode cX2_catchesHold 49 = .ok (.iload_n 3, 1) := by decide +kernel
theorem dX2_catchesHold_50 : decode cX2_catchesHold 50 = .ok (.imul, 1) := by decide +kernel
theorem dX2_catchesHold_51 : decode cX2_catchesHold 51 = .ok (.iadd, 1) := by decide +kernel
theorem dX2_catchesHold_52 : decode cX2_catchesHold 52 = .ok (.istore 4, 2) := by decide +kernel
theorem dX2_catchesHold_54 : decode cX2_catchesHold 54 = .ok (.iload 4, 2) := by decide +kernel
theorem dX2_catchesHold_56 : decode cX2_catchesHold 56 = .ok (.iconst 2, 1) := by decide +kernel
theorem dX2_catchesHold_57 : decode cX2_catchesHold 57 = .ok (.iadd, 1) := by decide +kernel
theorem dX2_catchesHold_58 : decode cX2_catchesHold 58 = .ok (.iload_n 2, 1) := by decide +kernel
theorem dX2_catchesHold_59 : decode cX2_catchesHold 59 = .ok (.if_icmp .le 14, 3) := by decide +kernel
theorem dX2_catchesHold_62 : decode cX2_catchesHold 62 = .ok (.aload_n 0, 1) := by decide +kernel
theorem dX2_catchesHold_63 : decode cX2_catchesHold 63 = .ok (.getfield 12, 3) := by decide +kernel
theorem dX2_catchesHold_66 : decode cX2_catchesHold 66 = .ok (.bipush 14, 2) := by decide +kernel
theorem dX2_catchesHold_68 : decode cX2_catchesHold 68 = .ok (.iload_n 2, 1) := by decide +kernel
theorem dX2_catchesHold_69 : decode cX2_catchesHold 69 = .ok (.invokevirtual 86, 3) := by decide +kernel
theorem dX2_catchesHold_72 : decode cX2_catchesHold 72 = .ok (.ireturn, 1) := by decide +kernel
theorem dX2_catchesHold_73 : decode cX2_catchesHold 73 = .ok (.aload_n 0, 1) := by decide +kernel
theorem dX2_catchesHold_74 : decode cX2_catchesHold 74 = .ok (.getfield 12, 3) := by decide +kernel
theorem dX2_catchesHold_77 : decode cX2_catchesHold 77 = .ok (.iload 4, 2) := by decide +kernel
theorem dX2_catchesHold_79 : decode cX2_catchesHold 79 = .ok (.invokevirtual 90, 3) := by decide +kernel
theorem dX2_catchesHold_82 : decode cX2_catchesHold 82 = .ok (.istore 5, 2) := by decide +kernel
theorem dX2_catchesHold_84 : decode cX2_catchesHold 84 = .ok (.iinc 4 2, 3) := by decide +kernel
theorem dX2_catchesHold_87 : decode cX2_catchesHold 87 = .ok (.iconst 0, 1) := by decide +kernel
theorem dX2_catchesHold_88 : decode cX2_catchesHold 88 = .ok (.istore 6, 2) := by decide +kernel
theorem dX2_catchesHold_90 : decode cX2_catchesHold 90 = .ok (.iload 6, 2) := by decide +kernel
theorem dX2_catchesHold_92 : decode cX2_catchesHold 92 = .ok (.iload 5, 2) := by decide +kernel
theorem dX2_catchesHold_94 : decode cX2_catchesHold 94 = .ok (.if_icmp .ge 71, 3) := by decide +kernel
theorem dX2_catchesHold_97 : decode cX2_catchesHold 97 = .ok (.iload 4, 2) := by decide +kernel
theorem dX2_catchesHold_99 : decode cX2_catchesHold 99 = .ok (.bipush 6, 2) := by decide +kernel
theorem dX2_catchesHold_101 : decode cX2_catchesHold 101 = .ok (.iadd, 1) := by decide +kernel
theorem dX2_catchesHold_102 : decode cX2_catchesHold 102 = .ok (.iload_n 2, 1) := by decide +kernel
theorem dX2_catchesHold_103 : decode cX2_catchesHold 103 = .ok (.if_icmp .gt 26, 3) := by decide +kernel
theorem dX2_catchesHold_106 : decode cX2_catchesHold 106 = .ok (.aload_n 0, 1) := by decide +kernel
theorem dX2_catchesHold_107 : decode cX2_catchesHold 107 = .ok (.getfield 12, 3) := by decide +kernel
theorem dX2_catchesHold_110 : decode cX2_catchesHold 110 = .ok (.iload 4, 2) := by decide +kernel
theorem dX2_catchesHold_112 : decode cX2_catchesHold 112 = .ok (.iconst 2, 1) := by decide +kernel
theorem dX2_catchesHold_113 : decode cX2_catchesHold 113 = .ok (.iadd, 1) := by decide +kernel
theorem dX2_catchesHold_114 : decode cX2_catchesHold 114 = .ok (.invokevirtual 93, 3) := by decide +kernel
theorem dX2_catchesHold_117 : decode cX2_catchesHold 117 = .ok (.iload_n 2, 1) := by decide +kernel
theorem dX2_catchesHold_118 : decode cX2_catchesHold 118 = .ok (.iload 4, 2) := by decide +kernel
theorem dX2_catchesHold_120 : decode cX2_catchesHold 120 = .ok (.isub, 1) := by decide +kernel
theorem dX2_catchesHold_121 : decode cX2_catchesHold 121 = .ok (.bipush 6, 2) := by decide +kernel
theorem dX2_catchesHold_123 : decode cX2_catchesHold 123 = .ok (.isub, 1) := by decide +kernel
theorem dX2_catchesHold_124 : decode cX2_catchesHold 124 = .ok (.i2l, 1) := by decide +kernel
theorem dX2_catchesHold_125 : decode cX2_catchesHold 125 = .ok (.lcmp, 1) := by decide +kernel
theorem dX2_catchesHold_126 : decode cX2_catchesHold 126 = .ok (.ifCond .le 14, 3) := by decide +kernel
theorem dX2_catchesHold_129 : decode cX2_catchesHold 129 = .ok (.aload_n 0, 1) := by decide +kernel
theorem dX2_catchesHold_130 : decode cX2_catchesHold 130 = .ok (.getfield 12, 3) := by decide +kernel
theorem dX2_catchesHold_133 : decode cX2_catchesHold 133 = .ok (.bipush 14, 2) := by decide +kernel
theorem dX2_catchesHold_135 : decode cX2_catchesHold 135 = .ok (.iload_n 2, 1) := by decide +kernel
theorem dX2_catchesHold_136 : decode cX2_catchesHold 136 = .ok (.invokevirtual 86, 3) := by decide +kernel
theorem dX2_catchesHold_139 : decode cX2_catchesHold 139 = .ok (.ireturn, 1) := by decide +kernel
theorem dX2_catchesHold_140 : decode cX2_catchesHold 140 = .ok (.iload 4, 2) := by decide +kernel
theorem dX2_catchesHold_142 : decode cX2_catchesHold 142 = .ok (.bipush 6, 2) := by decide +kernel
theorem dX2_catchesHold_144 : decode cX2_catchesHold 144 = .ok (.aload_n 0, 1) := by decide +kernel
theorem dX2_catchesHold_145 : decode cX2_catchesHold 145 = .ok (.getfield 12, 3) := by decide +kernel
theorem dX2_catchesHold_148 : decode cX2_catchesHold 148 = .ok (.iload 4, 2) := by decide +kernel
theorem dX2_catchesHold_150 : decode cX2_catchesHold 150 = .ok (.iconst 2, 1) := by decide +kernel
theorem dX2_catchesHold_151 : decode cX2_catchesHold 151 = .ok (.iadd, 1) := by decide +kernel
theorem dX2_catchesHold_152 : decode cX2_catchesHold 152 = .ok (.invokevirtual 102, 3) := by decide +kernel
theorem dX2_catchesHold_155 : decode cX2_catchesHold 155 = .ok (.iadd, 1) := by decide +kernel
theorem dX2_catchesHold_156 : decode cX2_catchesHold 156 = .ok (.iadd, 1) := by decide +kernel
theorem dX2_catchesHold_157 : decode cX2_catchesHold 157 = .ok (.istore 4, 2) := by decide +kernel
theorem dX2_catchesHold_159 : decode cX2_catchesHold 159 = .ok (.iinc 6 1, 3) := by decide +kernel
theorem dX2_catchesHold_162 : decode cX2_catchesHold 162 = .ok (.goto (-72), 3) := by decide +kernel
theorem dX2_catchesHold_165 : decode cX2_catchesHold 165 = .ok (.iload 4, 2) := by decide +kernel
theorem dX2_catchesHold_167 : decode cX2_catchesHold 167 = .ok (.iload_n 2, 1) := by decide +kernel
theorem dX2_catchesHold_168 : decode cX2_catchesHold 168 = .ok (.if_icmp .eq 17, 3) := by decide +kernel
theorem dX2_catchesHold_171 : decode cX2_catchesHold 171 = .ok (.aload_n 0, 1) := by decide +kernel
theorem dX2_catchesHold_172 : decode cX2_catchesHold 172 = .ok (.getfield 12, 3) := by decide +kernel
theorem dX2_catchesHold_175 : decode cX2_catchesHold 175 = .ok (.bipush 14, 2) := by decide +kernel
theorem dX2_catchesHold_177 : decode cX2_catchesHold 177 = .ok (.iload 4, 2) := by decide +kernel
theorem dX2_catchesHold_179 : decode cX2_catchesHold 179 = .ok (.invokevirtual 86, 3) := by decide +kernel
theorem dX2_catchesHold_182 : decode cX2_catchesHold 182 = .ok (.ifCond .eq 7, 3) := by decide +kernel
theorem dX2_catchesHold_185 : decode cX2_catchesHold 185 = .ok (.iconst 1, 1) := by decide +kernel
theorem dX2_catchesHold_186 : decode cX2_catchesHold 186 = .ok (.goto 4, 3) := by decide +kernel
theorem dX2_catchesHold_189 : decode cX2_catchesHold 189 = .ok (.iconst 0, 1) := by decide +kernel
theorem dX2_catchesHold_190 : decode cX2_catchesHold 190 = .ok (.ireturn, 1) := by decide +kernel
theorem dX2_decode_0 : decode cX2_decode 0 = .ok (.aload_n 0, 1) := by decide +kernel
theorem dX2_decode_1 : decode cX2_decode 1 = .ok (.iload_n 1, 1) := by decide +kernel
theorem dX2_decode_2 : decode cX2_decode 2 = .ok (.invokevirtual 139, 3) := by decide +kernel
theorem dX2_decode_5 : decode cX2_decode 5 = .ok (.istore_n 2, 1) := by decide +kernel
theorem dX2_decode_6 : decode cX2_decode 6 = .ok (.aload_n 0, 1) := by decide +kernel
theorem dX2_decode_7 : decode cX2_decode 7 = .ok (.iload_n 1, 1) := by decide +kernel
theorem dX2_decode_8 : decode cX2_decode 8 = .ok (.putfield 166, 3) := by decide +kernel
theorem dX2_decode_11 : decode cX2_decode 11 = .ok (.aload_n 0, 1) := by decide +kernel
theorem dX2_decode_12 : decode cX2_decode 12 = .ok (.iload_n 2, 1) := by decide +kernel
theorem dX2_decode_13 : decode cX2_decode 13 = .ok (.putfield 169, 3) := by decide +kernel
theorem dX2_decode_16 : decode cX2_decode 16 = .ok (.aload_n 0, 1) := by decide +kernel
theorem dX2_decode_17 : decode cX2_decode 17 = .ok (.lconst 0, 1) := by decide +kernel
theorem dX2_decode_18 : decode cX2_decode 18 = .ok (.putfield 172, 3) := by decide +kernel
theorem dX2_decode_21 : decode cX2_decode 21 = .ok (.iload_n 2, 1) := by decide +kernel
theorem dX2_decode_22 : decode cX2_decode 22 = .ok (.iconst 2, 1) := by decide +kernel
theorem dX2_decode_23 : decode cX2_decode 23 = .ok (.if_icmp .lt 22, 3) := by decide +kernel
theorem dX2_decode_26 : decode cX2_decode 26 = .ok (.iload_n 2, 1) := by decide +kernel
theorem dX2_decode_27 : decode cX2_decode 27 = .ok (.bipush 8, 2) := by decide +kernel
theorem dX2_decode_29 : decode cX2_decode 29 = .ok (.if_icmp .gt 16, 3) := by decide +kernel
theorem dX2_decode_32 : decode cX2_decode 32 = .ok (.aload_n 0, 1) := by decide +kernel
theorem dX2_decode_33 : decode cX2_decode 33 = .ok (.bipush 17, 2) := by decide +kernel
theorem dX2_decode_35 : decode cX2_decode 35 = .ok (.iload_n 2, 1) := by decide +kernel
theorem dX2_decode_36 : decode cX2_decode 36 = .ok (.iconst 3, 1) := by decide +kernel
theorem dX2_decode_37 : decode cX2_decode 37 = .ok (.isub, 1) := by decide +kernel
theorem dX2_decode_38 : decode cX2_decode 38 = .ok (.i2l, 1) := by decide +kernel
theorem dX2_decode_39 : decode cX2_decode 39 = .ok (.invokevirtual 176, 3) := by decide +kernel
theorem dX2_decode_42 : decode cX2_decode 42 = .ok (.goto 210, 3) := by decide +kernel
theorem dX2_decode_45 : decode cX2_decode 45 = .ok (.iload_n 2, 1) := by decide +kernel
theorem dX2_decode_46 : decode cX2_decode 46 = .ok (.bipush 9, 2) := by decide +kernel
theorem dX2_decode_48 : decode cX2_decode 48 = .ok (.if_icmp .eq 9, 3) := by decide +kernel
theorem dX2_decode_51 : decode cX2_decode 51 = .ok (.iload_n 2, 1) := by decide +kernel
theorem dX2_decode_52 : decode cX2_decode 52 = .ok (.bipush 10, 2) := by decide +kernel
theorem dX2_decode_54 : decode cX2_decode 54 = .ok (.if_icmp .ne 17, 3) := by decide +kernel
theorem dX2_decode_57 : decode cX2_decode 57 = .ok (.aload_n 0, 1) := by decide +kernel
theorem dX2_decode_58 : decode cX2_decode 58 = .ok (.bipush 9, 2) := by decide +kernel
theorem dX2_decode_60 : decode cX2_decode 60 = .ok (.iload_n 2, 1) := by decide +kernel
theorem dX2_decode_61 : decode cX2_decode 61 = .ok (.bipush 9, 2) := by decide +kernel
theorem dX2_decode_63 : decode cX2_decode 63 = .ok (.isub, 1) := by decide +kernel
theorem dX2_decode_64 : decode cX2_decode 64 = .ok (.i2l, 1) := by decide +kernel
theorem dX2_decode_65 : decode cX2_decode 65 = .ok (.invokevirtual 176, 3) := by decide +kernel
theorem dX2_decode_68 : decode cX2_decode 68 = .ok (.goto 184, 3) := by decide +kernel
theorem dX2_decode_71 : decode cX2_decode 71 = .ok (.iload_n 2, 1) := by decide +kernel
theorem dX2_decode_72 : decode cX2_decode 72 = .ok (.bipush 16, 2) := by decide +kernel
theorem dX2_decode_74 : decode cX2_decode 74 = .ok (.if_icmp .ne 21, 3) := by decide +kernel
theorem dX2_decode_77 : decode cX2_decode 77 = .ok (.aload_n 0, 1) := by decide +kernel
theorem dX2_decode_78 : decode cX2_decode 78 = .ok (.bipush 17, 2) := by decide +kernel
theorem dX2_decode_80 : decode cX2_decode 80 = .ok (.aload_n 0, 1) := by decide +kernel
theorem dX2_decode_81 : decode cX2_decode 81 = .ok (.iload_n 1, 1) := by decide +kernel
theorem dX2_decode_82 : decode cX2_decode 82 = .ok (.iconst 1, 1) := by decide +kernel
theorem dX2_decode_83 : decode cX2_decode 83 = .ok (.iadd, 1) := by decide +kernel
theorem dX2_decode_84 : decode cX2_decode 84 = .ok (.invokevirtual 139, 3) := by decide +kernel
theorem dX2_decode_87 : decode cX2_decode 87 = .ok (.i2b, 1) := by decide +kernel
theorem dX2_decode_88 : decode cX2_decode 88 = .ok (.i2l, 1) := by decide +kernel
theorem dX2_decode_89 : decode cX2_decode 89 = .ok (.invokevirtual 176, 3) := by decide +kernel
theorem dX2_decode_92 : decode cX2_decode 92 = .ok (.goto 160, 3) := by decide +kernel
theorem dX2_decode_95 : decode cX2_decode 95 = .ok (.iload_n 2, 1) := by decide +kernel
theorem dX2_decode_96 : decode cX2_decode 96 = .ok (.bipush 17, 2) := by decide +kernel
theorem dX2_decode_98 : decode cX2_decode 98 = .ok (.if_icmp .ne 21, 3) := by decide +kernel
theorem dX2_decode_101 : decode cX2_decode 101 = .ok (.aload_n 0, 1) := by decide +kernel
theorem dX2_decode_102 : decode cX2_decode 102 = .ok (.bipush 17, 2) := by decide +kernel
theorem dX2_decode_104 : decode cX2_decode 104 = .ok (.aload_n 0, 1) := by decide +kernel
theorem dX2_decode_105 : decode cX2_decode 105 = .ok (.iload_n 1, 1) := by decide +kernel
theorem dX2_decode_106 : decode cX2_decode 106 = .ok (.iconst 1, 1) := by decide +kernel
theorem dX2_decode_107 : decode cX2_decode 107 = .ok (.iadd, 1) := by decide +kernel
theorem dX2_decode_108 : decode cX2_decode 108 = .ok (.invokevirtual 180, 3) := by decide +kernel
theorem dX2_decode_111 : decode cX2_decode 111 = .ok (.i2s, 1) := by decide +kernel
theorem dX2_decode_112 : decode cX2_decode 112 = .ok (.i2l, 1) := by decide +kernel
theorem dX2_decode_113 : decode cX2_decode 113 = .ok (.invokevirtual 176, 3) := by decide +kernel
theorem dX2_decode_116 : decode cX2_decode 116 = .ok (.goto 136, 3) := by decide +kernel
theorem dX2_decode_119 : decode cX2_decode 119 = .ok (.iload_n 2, 1) := by decide +kernel
theorem dX2_decode_120 : decode cX2_decode 120 = .ok (.bipush 18, 2) := by decide +kernel
theorem dX2_decode_122 : decode cX2_decode 122 = .ok (.if_icmp .ne 20, 3) := by decide +kernel
theorem dX2_decode_125 : decode cX2_decode 125 = .ok (.aload_n 0, 1) := by decide +kernel
theorem dX2_decode_126 : decode cX2_decode 126 = .ok (.bipush 19, 2) := by decide +kernel
theorem dX2_decode_128 : decode cX2_decode 128 = .ok (.aload_n 0, 1) := by decide +kernel
theorem dX2_decode_129 : decode cX2_decode 129 = .ok (.iload_n 1, 1) := by decide +kernel
theorem dX2_decode_130 : decode cX2_decode 130 = .ok (.iconst 1, 1) := by decide +kernel
theorem dX2_decode_131 : decode cX2_decode 131 = .ok (.iadd, 1) := by decide +kernel
theorem dX2_decode_132 : decode cX2_decode 132 = .ok (.invokevirtual 139, 3) := by decide +kernel
theorem dX2_decode_135 : decode cX2_decode 135 = .ok (.i2l, 1) := by decide +kernel
theorem dX2_decode_136 : decode cX2_decode 136 = .ok (.invokevirtual 176, 3) := by decide +kernel
theorem dX2_decode_139 : decode cX2_decode 139 = .ok (.goto 113, 3) := by decide +kernel
theorem dX2_decode_142 : decode cX2_decode 142 = .ok (.iload_n 2, 1) := by decide +kernel
theorem dX2_decode_143 : decode cX2_decode 143 = .ok (.sipush 200, 3) := by decide +kernel
theorem dX2_decode_146 : decode cX2_decode 146 = .ok (.if_icmp .ne 24, 3) := by decide +kernel
theorem dX2_decode_149 : decode cX2_decode 149 = .ok (.aload_n 0, 1) := by decide +kernel
theorem dX2_decode_150 : decode cX2_decode 150 = .ok (.sipush 167, 3) := by decide +kernel
theorem dX2_decode_153 : decode cX2_decode 153 = .ok (.iload_n 1, 1) := by decide +kernel
theorem dX2_decode_154 : decode cX2_decode 154 = .ok (.i2l, 1) := by decide +kernel
theorem dX2_decode_155 : decode cX2_decode 155 = .ok (.aload_n 0, 1) := by decide +kernel
theorem dX2_decode_156 : decode cX2_decode 156 = .ok (.iload_n 1, 1) := by decide +kernel
theorem dX2_decode_157 : decode cX2_decode 157 = .ok (.iconst 1, 1) := by decide +kernel
theorem dX2_decode_158 : decode cX2_decode 158 = .ok (.iadd, 1) := by decide +kernel
theorem dX2_decode_159 : decode cX2_decode 159 = .ok (.invokevirtual 163, 3) := by decide +kernel
theorem dX2_decode_162 : decode cX2_decode 162 = .ok (.i2l, 1) := by decide +kernel
theorem dX2_decode_163 : decode cX2_decode 163 = .ok (.ladd, 1) := by decide +kernel
theorem dX2_decode_164 : decode cX2_decode 164 = .ok (.invokevirtual 176, 3) := by decide +kernel
theorem dX2_decode_167 : decode cX2_decode 167 = .ok (.goto 85, 3) := by decide +kernel
theorem dX2_decode_170 : decode cX2_decode 170 = .ok (.iload_n 2, 1) := by decide +kernel
theorem dX2_decode_171 : decode cX2_decode 171 = .ok (.invokestatic 181, 3) := by decide +kernel
theorem dX2_decode_174 : decode cX2_decode 174 = .ok (.ifCond .eq 22, 3) := by decide +kernel
theorem dX2_decode_177 : decode cX2_decode 177 = .ok (.aload_n 0, 1) := by decide +kernel
theorem dX2_decode_178 : decode cX2_decode 178 = .ok (.iload_n 2, 1) := by decide +kernel
theorem dX2_decode_179 : decode cX2_decode 179 = .ok (.iload_n 1, 1) := by decide +kernel
theorem dX2_decode_180 : decode cX2_decode 180 = .ok (.aload_n 0, 1) := by decide +kernel
theorem dX2_decode_181 : decode cX2_decode 181 = .ok (.iload_n 1, 1) := by decide +kernel
theorem dX2_decode_182 : decode cX2_decode 182 = .ok (.iconst 1, 1) := by decide +kernel
theorem dX2_decode_183 : decode cX2_decode 183 = .ok (.iadd, 1) := by decide +kernel
theorem dX2_decode_184 : decode cX2_decode 184 = .ok (.invokevirtual 180, 3) := by decide +kernel
theorem dX2_decode_187 : decode cX2_decode 187 = .ok (.i2s, 1) := by decide +kernel
theorem dX2_decode_188 : decode cX2_decode 188 = .ok (.iadd, 1) := by decide +kernel
theorem dX2_decode_189 : decode cX2_decode 189 = .ok (.i2l, 1) := by decide +kernel
theorem dX2_decode_190 : decode cX2_decode 190 = .ok (.invokevirtual 176, 3) := by decide +kernel
theorem dX2_decode_193 : decode cX2_decode 193 = .ok (.goto 59, 3) := by decide +kernel
theorem dX2_decode_196 : decode cX2_decode 196 = .ok (.iload_n 2, 1) := by decide +kernel
theorem dX2_decode_197 : decode cX2_decode 197 = .ok (.invokestatic 184, 3) := by decide +kernel
theorem dX2_decode_200 : decode cX2_decode 200 = .ok (.ifCond .eq 16, 3) := by decide +kernel
theorem dX2_decode_203 : decode cX2_decode 203 = .ok (.aload_n 0, 1) := by decide +kernel
theorem dX2_decode_204 : decode cX2_decode 204 = .ok (.iload_n 2, 1) := by decide +kernel
theorem dX2_decode_205 : decode cX2_decode 205 = .ok (.iload_n 1, 1) := by decide +kernel
theorem dX2_decode_206 : decode cX2_decode 206 = .ok (.invokestatic 160, 3) := by decide +kernel
theorem dX2_decode_209 : decode cX2_decode 209 = .ok (.i2l, 1) := by decide +kernel
theorem dX2_decode_210 : decode cX2_decode 210 = .ok (.invokevirtual 176, 3) := by decide +kernel
theorem dX2_decode_213 : decode cX2_decode 213 = .ok (.goto 39, 3) := by decide +kernel
theorem dX2_decode_216 : decode cX2_decode 216 = .ok (.iload_n 2, 1) := by decide +kernel
theorem dX2_decode_217 : decode cX2_decode 217 = .ok (.invokestatic 149, 3) := by decide +kernel
theorem dX2_decode_220 : decode cX2_decode 220 = .ok (.iconst 3, 1) := by decide +kernel
theorem dX2_decode_221 : decode cX2_decode 221 = .ok (.if_icmp .ne 26, 3) := by decide +kernel
theorem dX2_decode_224 : decode cX2_decode 224 = .ok (.iload_n 2, 1) := by decide +kernel
theorem dX2_decode_225 : decode cX2_decode 225 = .ok (.sipush 132, 3) := by decide +kernel
theorem dX2_decode_228 : decode cX2_decode 228 = .ok (.if_icmp .eq 19, 3) := by decide +kernel
theorem dX2_decode_231 : decode cX2_decode 231 = .ok (.aload_n 0, 1) := by decide +kernel
theorem dX2_decode_232 : decode cX2_decode 232 = .ok (.iload_n 2, 1) := by decide +kernel
theorem dX2_decode_233 : decode cX2_decode 233 = .ok (.aload_n 0, 1) := by decide +kernel
theorem dX2_decode_234 : decode cX2_decode 234 = .ok (.iload_n 1, 1) := by decide +kernel
theorem dX2_decode_235 : decode cX2_decode 235 = .ok (.iconst 1, 1) := by decide +kernel
theorem dX2_decode_236 : decode cX2_decode 236 = .ok (.iadd, 1) := by decide +kernel
theorem dX2_decode_237 : decode cX2_decode 237 = .ok (.invokevirtual 180, 3) := by decide +kernel
theorem dX2_decode_240 : decode cX2_decode 240 = .ok (.i2l, 1) := by decide +kernel
theorem dX2_decode_241 : decode cX2_decode 241 = .ok (.invokevirtual 176, 3) := by decide +kernel
theorem dX2_decode_244 : decode cX2_decode 244 = .ok (.goto 8, 3) := by decide +kernel
theorem dX2_decode_247 : decode cX2_decode 247 = .ok (.aload_n 0, 1) := by decide +kernel
theorem dX2_decode_248 : decode cX2_decode 248 = .ok (.iload_n 1, 1) := by decide +kernel
theorem dX2_decode_249 : decode cX2_decode 249 = .ok (.invokevirtual 187, 3) := by decide +kernel
theorem dX2_decode_252 : decode cX2_decode 252 = .ok (.return_, 1) := by decide +kernel
theorem dX2_decodeLocal_0 : decode cX2_decodeLocal 0 = .ok (.aload_n 0, 1) := by decide +kernel
theorem dX2_decodeLocal_1 : decode cX2_decodeLocal 1 = .ok (.iload_n 1, 1) := by decide +kernel
theorem dX2_decodeLocal_2 : decode cX2_decodeLocal 2 = .ok (.invokevirtual 139, 3) := by decide +kernel
theorem dX2_decodeLocal_5 : decode cX2_decodeLocal 5 = .ok (.istore_n 2, 1) := by decide +kernel
theorem dX2_decodeLocal_6 : decode cX2_decodeLocal 6 = .ok (.iload_n 2, 1) := by decide +kernel
theorem dX2_decodeLocal_7 : decode cX2_decodeLocal 7 = .ok (.sipush 196, 3) := by decide +kernel
theorem dX2_decodeLocal_10 : decode cX2_decodeLocal 10 = .ok (.if_icmp .ne 71, 3) := by decide +kernel
theorem dX2_decodeLocal_13 : decode cX2_decodeLocal 13 = .ok (.aload_n 0, 1) := by decide +kernel
theorem dX2_decodeLocal_14 : decode cX2_decodeLocal 14 = .ok (.iload_n 1, 1) := by decide +kernel
theorem dX2_decodeLocal_15 : decode cX2_decodeLocal 15 = .ok (.iconst 2, 1) := by decide +kernel
theorem dX2_decodeLocal_16 : decode cX2_decodeLocal 16 = .ok (.iadd, 1) := by decide +kernel
theorem dX2_decodeLocal_17 : decode cX2_decodeLocal 17 = .ok (.invokevirtual 180, 3) := by decide +kernel
theorem dX2_decodeLocal_20 : decode cX2_decodeLocal 20 = .ok (.istore_n 3, 1) := by decide +kernel
theorem dX2_decodeLocal_21 : decode cX2_decodeLocal 21 = .ok (.aload_n 0, 1) := by decide +kernel
theorem dX2_decodeLocal_22 : decode cX2_decodeLocal 22 = .ok (.aload_n 0, 1) := by decide +kernel
theorem dX2_decodeLocal_23 : decode cX2_decodeLocal 23 = .ok (.iload_n 1, 1) := by decide +kernel
theorem dX2_decodeLocal_24 : decode cX2_decodeLocal 24 = .ok (.iconst 1, 1) := by decide +kernel
theorem dX2_decodeLocal_25 : decode cX2_decodeLocal 25 = .ok (.iadd, 1) := by decide +kernel
theorem dX2_decodeLocal_26 : decode cX2_decodeLocal 26 = .ok (.invokevirtual 139, 3) := by decide +kernel
theorem dX2_decodeLocal_29 : decode cX2_decodeLocal 29 = .ok (.iload_n 3, 1) := by decide +kernel
theorem dX2_decodeLocal_30 : decode cX2_decodeLocal 30 = .ok (.sipush 255, 3) := by decide +kernel
theorem dX2_decodeLocal_33 : decode cX2_decodeLocal 33 = .ok (.if_icmp .le 9, 3) := by decide +kernel
theorem dX2_decodeLocal_36 : decode cX2_decodeLocal 36 = .ok (.ldc2_w 190, 3) := by decide +kernel
theorem dX2_decodeLocal_39 : decode cX2_decodeLocal 39 = .ok (.goto 36, 3) := by decide +kernel
theorem dX2_decodeLocal_42 : decode cX2_decodeLocal 42 = .ok (.aload_n 0, 1) := by decide +kernel
theorem dX2_decodeLocal_43 : decode cX2_decodeLocal 43 = .ok (.iload_n 1, 1) := by decide +kernel
theorem dX2_decodeLocal_44 : decode cX2_decodeLocal 44 = .ok (.iconst 1, 1) := by decide +kernel
theorem dX2_decodeLocal_45 : decode cX2_decodeLocal 45 = .ok (.iadd, 1) := by decide +kernel
theorem dX2_decodeLocal_46 : decode cX2_decodeLocal 46 = .ok (.invokevirtual 139, 3) := by decide +kernel
theorem dX2_decodeLocal_49 : decode cX2_decodeLocal 49 = .ok (.sipush 132, 3) := by decide +kernel
theorem dX2_decodeLocal_52 : decode cX2_decodeLocal 52 = .ok (.if_icmp .ne 21, 3) := by decide +kernel
theorem dX2_decodeLocal_55 : decode cX2_decodeLocal 55 = .ok (.aload_n 0, 1) := by decide +kernel
theorem dX2_decodeLocal_56 : decode cX2_decodeLocal 56 = .ok (.iload_n 1, 1) := by decide +kernel
theorem dX2_decodeLocal_57 : decode cX2_decodeLocal 57 = .ok (.iconst 4, 1) := by decide +kernel
theorem dX2_decodeLocal_58 : decode cX2_decodeLocal 58 = .ok (.iadd, 1) := by decide +kernel
theorem dX2_decodeLocal_59 : decode cX2_decodeLocal 59 = .ok (.invokevirtual 180, 3) := by decide +kernel
theorem dX2_decodeLocal_62 : decode cX2_decodeLocal 62 = .ok (.i2s, 1) := by decide +kernel
theorem dX2_decodeLocal_63 : decode cX2_decodeLocal 63 = .ok (.i2l, 1) := by decide +kernel
theorem dX2_decodeLocal_64 : decode cX2_decodeLocal 64 = .ok (.bipush 8, 2) := by decide +kernel
theorem dX2_decodeLocal_66 : decode cX2_decodeLocal 66 = .ok (.lshl, 1) := by decide +kernel
theorem dX2_decodeLocal_67 : decode cX2_decodeLocal 67 = .ok (.iload_n 3, 1) := by decide +kernel
theorem dX2_decodeLocal_68 : decode cX2_decodeLocal 68 = .ok (.i2l, 1) := by decide +kernel
theorem dX2_decodeLocal_69 : decode cX2_decodeLocal 69 = .ok (.lor, 1) := by decide +kernel
theorem dX2_decodeLocal_70 : decode cX2_decodeLocal 70 = .ok (.goto 5, 3) := by decide +kernel
theorem dX2_decodeLocal_73 : decode cX2_decodeLocal 73 = .ok (.iload_n 3, 1) := by decide +kernel
theorem dX2_decodeLocal_74 : decode cX2_decodeLocal 74 = .ok (.i2l, 1) := by decide +kernel
theorem dX2_decodeLocal_75 : decode cX2_decodeLocal 75 = .ok (.invokevirtual 176, 3) := by decide +kernel
theorem dX2_decodeLocal_78 : decode cX2_decodeLocal 78 = .ok (.goto 191, 3) := by decide +kernel
theorem dX2_decodeLocal_81 : decode cX2_decodeLocal 81 = .ok (.iload_n 2, 1) := by decide +kernel
theorem dX2_decodeLocal_82 : decode cX2_decodeLocal 82 = .ok (.sipush 132, 3) := by decide +kernel
theorem dX2_decodeLocal_85 : decode cX2_decodeLocal 85 = .ok (.if_icmp .ne 34, 3) := by decide +kernel
theorem dX2_decodeLocal_88 : decode cX2_decodeLocal 88 = .ok (.aload_n 0, 1) := by decide +kernel
theorem dX2_decodeLocal_89 : decode cX2_decodeLocal 89 = .ok (.sipush 132, 3) := by decide +kernel
theorem dX2_decodeLocal_92 : decode cX2_decodeLocal 92 = .ok (.aload_n 0, 1) := by decide +kernel
theorem dX2_decodeLocal_93 : decode cX2_decodeLocal 93 = .ok (.iload_n 1, 1) := by decide +kernel
theorem dX2_decodeLocal_94 : decode cX2_decodeLocal 94 = .ok (.iconst 2, 1) := by decide +kernel
theorem dX2_decodeLocal_95 : decode cX2_decodeLocal 95 = .ok (.iadd, 1) := by decide +kernel
theorem dX2_decodeLocal_96 : decode cX2_decodeLocal 96 = .ok (.invokevirtual 139, 3) := by decide +kernel
theorem dX2_decodeLocal_99 : decode cX2_decodeLocal 99 = .ok (.i2b, 1) := by decide +kernel
theorem dX2_decodeLocal_100 : decode cX2_decodeLocal 100 = .ok (.i2l, 1) := by decide +kernel
theorem dX2_decodeLocal_101 : decode cX2_decodeLocal 101 = .ok (.bipush 8, 2) := by decide +kernel
theorem dX2_decodeLocal_103 : decode cX2_decodeLocal 103 = .ok (.lshl, 1) := by decide +kernel
theorem dX2_decodeLocal_104 : decode cX2_decodeLocal 104 = .ok (.aload_n 0, 1) := by decide +kernel
theorem dX2_decodeLocal_105 : decode cX2_decodeLocal 105 = .ok (.iload_n 1, 1) := by decide +kernel
theorem dX2_decodeLocal_106 : decode cX2_decodeLocal 106 = .ok (.iconst 1, 1) := by decide +kernel
theorem dX2_decodeLocal_107 : decode cX2_decodeLocal 107 = .ok (.iadd, 1) := by decide +kernel
theorem dX2_decodeLocal_108 : decode cX2_decodeLocal 108 = .ok (.invokevirtual 139, 3) := by decide +kernel
theorem dX2_decodeLocal_111 : decode cX2_decodeLocal 111 = .ok (.i2l, 1) := by decide +kernel
theorem dX2_decodeLocal_112 : decode cX2_decodeLocal 112 = .ok (.lor, 1) := by decide +kernel
theorem dX2_decodeLocal_113 : decode cX2_decodeLocal 113 = .ok (.invokevirtual 176, 3) := by decide +kernel
theorem dX2_decodeLocal_116 : decode cX2_decodeLocal 116 = .ok (.goto 153, 3) := by decide +kernel
theorem dX2_decodeLocal_119 : decode cX2_decodeLocal 119 = .ok (.iload_n 2, 1) := by decide +kernel
theorem dX2_decodeLocal_120 : decode cX2_decodeLocal 120 = .ok (.invokestatic 192, 3) := by decide +kernel
theorem dX2_decodeLocal_123 : decode cX2_decodeLocal 123 = .ok (.ifCond .eq 19, 3) := by decide +kernel
theorem dX2_decodeLocal_126 : decode cX2_decodeLocal 126 = .ok (.aload_n 0, 1) := by decide +kernel
theorem dX2_decodeLocal_127 : decode cX2_decodeLocal 127 = .ok (.iload_n 2, 1) := by decide +kernel
theorem dX2_decodeLocal_128 : decode cX2_decodeLocal 128 = .ok (.aload_n 0, 1) := by decide +kernel
theorem dX2_decodeLocal_129 : decode cX2_decodeLocal 129 = .ok (.iload_n 1, 1) := by decide +kernel
theorem dX2_decodeLocal_130 : decode cX2_decodeLocal 130 = .ok (.iconst 1, 1) := by decide +kernel
theorem dX2_decodeLocal_131 : decode cX2_decodeLocal 131 = .ok (.iadd, 1) := by decide +kernel
theorem dX2_decodeLocal_132 : decode cX2_decodeLocal 132 = .ok (.invokevirtual 139, 3) := by decide +kernel
theorem dX2_decodeLocal_135 : decode cX2_decodeLocal 135 = .ok (.i2l, 1) := by decide +kernel
theorem dX2_decodeLocal_136 : decode cX2_decodeLocal 136 = .ok (.invokevirtual 176, 3) := by decide +kernel
theorem dX2_decodeLocal_139 : decode cX2_decodeLocal 139 = .ok (.goto 130, 3) := by decide +kernel
theorem dX2_decodeLocal_142 : decode cX2_decodeLocal 142 = .ok (.iload_n 2, 1) := by decide +kernel
theorem dX2_decodeLocal_143 : decode cX2_decodeLocal 143 = .ok (.bipush 26, 2) := by decide +kernel
theorem dX2_decodeLocal_145 : decode cX2_decodeLocal 145 = .ok (.if_icmp .lt 36, 3) := by decide +kernel
theorem dX2_decodeLocal_148 : decode cX2_decodeLocal 148 = .ok (.iload_n 2, 1) := by decide +kernel
theorem dX2_decodeLocal_149 : decode cX2_decodeLocal 149 = .ok (.bipush 33, 2) := by decide +kernel
theorem dX2_decodeLocal_151 : decode cX2_decodeLocal 151 = .ok (.if_icmp .gt 30, 3) := by decide +kernel
theorem dX2_decodeLocal_154 : decode cX2_decodeLocal 154 = .ok (.aload_n 0, 1) := by decide +kernel
theorem dX2_decodeLocal_155 : decode cX2_decodeLocal 155 = .ok (.iload_n 2, 1) := by decide +kernel
theorem dX2_decodeLocal_156 : decode cX2_decodeLocal 156 = .ok (.bipush 30, 2) := by decide +kernel
theorem dX2_decodeLocal_158 : decode cX2_decodeLocal 158 = .ok (.if_icmp .ge 8, 3) := by decide +kernel
theorem dX2_decodeLocal_161 : decode cX2_decodeLocal 161 = .ok (.bipush 21, 2) := by decide +kernel
theorem dX2_decodeLocal_163 : decode cX2_decodeLocal 163 = .ok (.goto 5, 3) := by decide +kernel
theorem dX2_decodeLocal_166 : decode cX2_decodeLocal 166 = .ok (.bipush 22, 2) := by decide +kernel
theorem dX2_decodeLocal_168 : decode cX2_decodeLocal 168 = .ok (.iload_n 2, 1) := by decide +kernel
theorem dX2_decodeLocal_169 : decode cX2_decodeLocal 169 = .ok (.bipush 26, 2) := by decide +kernel
theorem dX2_decodeLocal_171 : decode cX2_decodeLocal 171 = .ok (.isub, 1) := by decide +kernel
theorem dX2_decodeLocal_172 : decode cX2_decodeLocal 172 = .ok (.iconst 3, 1) := by decide +kernel
theorem dX2_decodeLocal_173 : decode cX2_decodeLocal 173 = .ok (.iand, 1) := by decide +kernel
theorem dX2_decodeLocal_174 : decode cX2_decodeLocal 174 = .ok (.i2l, 1) := by decide +kernel
theorem dX2_decodeLocal_175 : decode cX2_decodeLocal 175 = .ok (.invokevirtual 176, 3) := by decide +kernel
theorem dX2_decodeLocal_178 : decode cX2_decodeLocal 178 = .ok (.goto 91, 3) := by decide +kernel
theorem dX2_decodeLocal_181 : decode cX2_decodeLocal 181 = .ok (.iload_n 2, 1) := by decide +kernel
theorem dX2_decodeLocal_182 : decode cX2_decodeLocal 182 = .ok (.bipush 42, 2) := by decide +kernel
theorem dX2_decodeLocal_184 : decode cX2_decodeLocal 184 = .ok (.if_icmp .lt 23, 3) := by decide +kernel
theorem dX2_decodeLocal_187 : decode cX2_decodeLocal 187 = .ok (.iload_n 2, 1) := by decide +kernel
theorem dX2_decodeLocal_188 : decode cX2_decodeLocal 188 = .ok (.bipush 45, 2) := by decide +kernel
theorem dX2_decodeLocal_190 : decode cX2_decodeLocal 190 = .ok (.if_icmp .gt 17, 3) := by decide +kernel
theorem dX2_decodeLocal_193 : decode cX2_decodeLocal 193 = .ok (.aload_n 0, 1) := by decide +kernel
theorem dX2_decodeLocal_194 : decode cX2_decodeLocal 194 = .ok (.bipush 25, 2) := by decide +kernel
theorem dX2_decodeLocal_196 : decode cX2_decodeLocal 196 = .ok (.iload_n 2, 1) := by decide +kernel
theorem dX2_decodeLocal_197 : decode cX2_decodeLocal 197 = .ok (.bipush 42, 2) := by decide +kernel
theorem dX2_decodeLocal_199 : decode cX2_decodeLocal 199 = .ok (.isub, 1) := by decide +kernel
theorem dX2_decodeLocal_200 : decode cX2_decodeLocal 200 = .ok (.i2l, 1) := by decide +kernel
theorem dX2_decodeLocal_201 : decode cX2_decodeLocal 201 = .ok (.invokevirtual 176, 3) := by decide +kernel
theorem dX2_decodeLocal_204 : decode cX2_decodeLocal 204 = .ok (.goto 65, 3) := by decide +kernel
theorem dX2_decodeLocal_207 : decode cX2_decodeLocal 207 = .ok (.iload_n 2, 1) := by decide +kernel
theorem dX2_decodeLocal_208 : decode cX2_decodeLocal 208 = .ok (.bipush 59, 2) := by decide +kernel
theorem dX2_decodeLocal_210 : decode cX2_decodeLocal 210 = .ok (.if_icmp .lt 36, 3) := by decide +kernel
theorem dX2_decodeLocal_213 : decode cX2_decodeLocal 213 = .ok (.iload_n 2, 1) := by decide +kernel
theorem dX2_decodeLocal_214 : decode cX2_decodeLocal 214 = .ok (.bipush 66, 2) := by decide +kernel
theorem dX2_decodeLocal_216 : decode cX2_decodeLocal 216 = .ok (.if_icmp .gt 30, 3) := by decide +kernel
theorem dX2_decodeLocal_219 : decode cX2_decodeLocal 219 = .ok (.aload_n 0, 1) := by decide +kernel
theorem dX2_decodeLocal_220 : decode cX2_decodeLocal 220 = .ok (.iload_n 2, 1) := by decide +kernel
theorem dX2_decodeLocal_221 : decode cX2_decodeLocal 221 = .ok (.bipush 63, 2) := by decide +kernel
theorem dX2_decodeLocal_223 : decode cX2_decodeLocal 223 = .ok (.if_icmp .ge 8, 3) := by decide +kernel
theorem dX2_decodeLocal_226 : decode cX2_decodeLocal 226 = .ok (.bipush 54, 2) := by decide +kernel
theorem dX2_decodeLocal_228 : decode cX2_decodeLocal 228 = .ok (.goto 5, 3) := by decide +kernel
theorem dX2_decodeLocal_231 : decode cX2_decodeLocal 231 = .ok (.bipush 55, 2) := by decide +kernel
theorem dX2_decodeLocal_233 : decode cX2_decodeLocal 233 = .ok (.iload_n 2, 1) := by decide +kernel
theorem dX2_decodeLocal_234 : decode cX2_decodeLocal 234 = .ok (.bipush 59, 2) := by decide +kernel
theorem dX2_decodeLocal_236 : decode cX2_decodeLocal 236 = .ok (.isub, 1) := by decide +kernel
theorem dX2_decodeLocal_237 : decode cX2_decodeLocal 237 = .ok (.iconst 3, 1) := by decide +kernel
theorem dX2_decodeLocal_238 : decode cX2_decodeLocal 238 = .ok (.iand, 1) := by decide +kernel
theorem dX2_decodeLocal_239 : decode cX2_decodeLocal 239 = .ok (.i2l, 1) := by decide +kernel
theorem dX2_decodeLocal_240 : decode cX2_decodeLocal 240 = .ok (.invokevirtual 176, 3) := by decide +kernel
theorem dX2_decodeLocal_243 : decode cX2_decodeLocal 243 = .ok (.goto 26, 3) := by decide +kernel
theorem dX2_decodeLocal_246 : decode cX2_decodeLocal 246 = .ok (.iload_n 2, 1) := by decide +kernel
theorem dX2_decodeLocal_247 : decode cX2_decodeLocal 247 = .ok (.bipush 75, 2) := by decide +kernel
theorem dX2_decodeLocal_249 : decode cX2_decodeLocal 249 = .ok (.if_icmp .lt 20, 3) := by decide +kernel
theorem dX2_decodeLocal_252 : decode cX2_decodeLocal 252 = .ok (.iload_n 2, 1) := by decide +kernel
theorem dX2_decodeLocal_253 : decode cX2_decodeLocal 253 = .ok (.bipush 78, 2) := by decide +kernel
theorem dX2_decodeLocal_255 : decode cX2_decodeLocal 255 = .ok (.if_icmp .gt 14, 3) := by decide +kernel
theorem dX2_decodeLocal_258 : decode cX2_decodeLocal 258 = .ok (.aload_n 0, 1) := by decide +kernel
theorem dX2_decodeLocal_259 : decode cX2_decodeLocal 259 = .ok (.bipush 58, 2) := by decide +kernel
theorem dX2_decodeLocal_261 : decode cX2_decodeLocal 261 = .ok (.iload_n 2, 1) := by decide +kernel
theorem dX2_decodeLocal_262 : decode cX2_decodeLocal 262 = .ok (.bipush 75, 2) := by decide +kernel
theorem dX2_decodeLocal_264 : decode cX2_decodeLocal 264 = .ok (.isub, 1) := by decide +kernel
theorem dX2_decodeLocal_265 : decode cX2_decodeLocal 265 = .ok (.i2l, 1) := by decide +kernel
theorem dX2_decodeLocal_266 : decode cX2_decodeLocal 266 = .ok (.invokevirtual 176, 3) := by decide +kernel
theorem dX2_decodeLocal_269 : decode cX2_decodeLocal 269 = .ok (.return_, 1) := by decide +kernel
theorem dX2_errorOf_0 : decode cX2_errorOf 0 = .ok (.iload_n 1, 1) := by decide +kernel
theorem dX2_errorOf_1 : decode cX2_errorOf 1 = .ok (.ifCond .ne 5, 3) := by decide +kernel
theorem dX2_errorOf_4 : decode cX2_errorOf 4 = .ok (.iconst (-1), 1) := by decide +kernel
theorem dX2_errorOf_5 : decode cX2_errorOf 5 = .ok (.ireturn, 1) := by decide +kernel
theorem dX2_errorOf_6 : decode cX2_errorOf 6 = .ok (.iconst 0, 1) := by decide +kernel
theorem dX2_errorOf_7 : decode cX2_errorOf 7 = .ok (.istore_n 2, 1) := by decide +kernel
theorem dX2_errorOf_8 : decode cX2_errorOf 8 = .ok (.iload_n 2, 1) := by decide +kernel
theorem dX2_errorOf_9 : decode cX2_errorOf 9 = .ok (.iconst 3, 1) := by decide +kernel
theorem dX2_errorOf_10 : decode cX2_errorOf 10 = .ok (.if_icmp .gt 46, 3) := by decide +kernel
theorem dX2_errorOf_13 : decode cX2_errorOf 13 = .ok (.aload_n 0, 1) := by decide +kernel
theorem dX2_errorOf_14 : decode cX2_errorOf 14 = .ok (.getfield 12, 3) := by decide +kernel
theorem dX2_errorOf_17 : decode cX2_errorOf 17 = .ok (.iload_n 1, 1) := by decide +kernel
theorem dX2_errorOf_18 : decode cX2_errorOf 18 = .ok (.invokevirtual 231, 3) := by decide +kernel
theorem dX2_errorOf_21 : decode cX2_errorOf 21 = .ok (.bipush 7, 2) := by decide +kernel
theorem dX2_errorOf_23 : decode cX2_errorOf 23 = .ok (.if_icmp .ne 27, 3) := by decide +kernel
theorem dX2_errorOf_26 : decode cX2_errorOf 26 = .ok (.aload_n 0, 1) := by decide +kernel
theorem dX2_errorOf_27 : decode cX2_errorOf 27 = .ok (.getfield 12, 3) := by decide +kernel
theorem dX2_errorOf_30 : decode cX2_errorOf 30 = .ok (.aload_n 0, 1) := by decide +kernel
theorem dX2_errorOf_31 : decode cX2_errorOf 31 = .ok (.getfield 12, 3) := by decide +kernel
theorem dX2_errorOf_34 : decode cX2_errorOf 34 = .ok (.iload_n 1, 1) := by decide +kernel
theorem dX2_errorOf_35 : decode cX2_errorOf 35 = .ok (.invokevirtual 247, 3) := by decide +kernel
theorem dX2_errorOf_38 : decode cX2_errorOf 38 = .ok (.iload_n 2, 1) := by decide +kernel
theorem dX2_errorOf_39 : decode cX2_errorOf 39 = .ok (.invokestatic 250, 3) := by decide +kernel
theorem dX2_errorOf_42 : decode cX2_errorOf 42 = .ok (.invokevirtual 254, 3) := by decide +kernel
theorem dX2_errorOf_45 : decode cX2_errorOf 45 = .ok (.ifCond .eq 5, 3) := by decide +kernel
theorem dX2_errorOf_48 : decode cX2_errorOf 48 = .ok (.iload_n 2, 1) := by decide +kernel
theorem dX2_errorOf_49 : decode cX2_errorOf 49 = .ok (.ireturn, 1) := by decide +kernel
theorem dX2_errorOf_50 : decode cX2_errorOf 50 = .ok (.iinc 2 1, 3) := by decide +kernel
theorem dX2_errorOf_53 : decode cX2_errorOf 53 = .ok (.goto (-45), 3) := by decide +kernel
theorem dX2_errorOf_56 : decode cX2_errorOf 56 = .ok (.bipush (-2), 2) := by decide +kernel
theorem dX2_errorOf_58 : decode cX2_errorOf 58 = .ok (.ireturn, 1) := by decide +kernel
theorem dX2_headHolds_0 : decode cX2_headHolds 0 = .ok (.iload_n 1, 1) := by decide +kernel
theorem dX2_headHolds_1 : decode cX2_headHolds 1 = .ok (.iconst 2, 1) := by decide +kernel
theorem dX2_headHolds_2 : decode cX2_headHolds 2 = .ok (.iadd, 1) := by decide +kernel
theorem dX2_headHolds_3 : decode cX2_headHolds 3 = .ok (.iload_n 2, 1) := by decide +kernel
theorem dX2_headHolds_4 : decode cX2_headHolds 4 = .ok (.if_icmp .le 14, 3) := by decide +kernel
theorem dX2_headHolds_7 : decode cX2_headHolds 7 = .ok (.aload_n 0, 1) := by decide +kernel
theorem dX2_headHolds_8 : decode cX2_headHolds 8 = .ok (.getfield 12, 3) := by decide +kernel
theorem dX2_headHolds_11 : decode cX2_headHolds 11 = .ok (.bipush 14, 2) := by decide +kernel
theorem dX2_headHolds_13 : decode cX2_headHolds 13 = .ok (.iload_n 2, 1) := by decide +kernel
theorem dX2_headHolds_14 : decode cX2_headHolds 14 = .ok (.invokevirtual 86, 3) := by decide +kernel
theorem dX2_headHolds_17 : decode cX2_headHolds 17 = .ok (.ireturn, 1) := by decide +kernel
theorem dX2_headHolds_18 : decode cX2_headHolds 18 = .ok (.aload_n 0, 1) := by decide +kernel
theorem dX2_headHolds_19 : decode cX2_headHolds 19 = .ok (.getfield 12, 3) := by decide +kernel
theorem dX2_headHolds_22 : decode cX2_headHolds 22 = .ok (.iload_n 1, 1) := by decide +kernel
theorem dX2_headHolds_23 : decode cX2_headHolds 23 = .ok (.invokevirtual 90, 3) := by decide +kernel
theorem dX2_headHolds_26 : decode cX2_headHolds 26 = .ok (.bipush 24, 2) := by decide +kernel
theorem dX2_headHolds_28 : decode cX2_headHolds 28 = .ok (.if_icmp .le 14, 3) := by decide +kernel
theorem dX2_headHolds_31 : decode cX2_headHolds 31 = .ok (.aload_n 0, 1) := by decide +kernel
theorem dX2_headHolds_32 : decode cX2_headHolds 32 = .ok (.getfield 12, 3) := by decide +kernel
theorem dX2_headHolds_35 : decode cX2_headHolds 35 = .ok (.bipush 13, 2) := by decide +kernel
theorem dX2_headHolds_37 : decode cX2_headHolds 37 = .ok (.iload_n 1, 1) := by decide +kernel
theorem dX2_headHolds_38 : decode cX2_headHolds 38 = .ok (.invokevirtual 86, 3) := by decide +kernel
theorem dX2_headHolds_41 : decode cX2_headHolds 41 = .ok (.ireturn, 1) := by decide +kernel
theorem dX2_headHolds_42 : decode cX2_headHolds 42 = .ok (.iload_n 1, 1) := by decide +kernel
theorem dX2_headHolds_43 : decode cX2_headHolds 43 = .ok (.iconst 4, 1) := by decide +kernel
theorem dX2_headHolds_44 : decode cX2_headHolds 44 = .ok (.iadd, 1) := by decide +kernel
theorem dX2_headHolds_45 : decode cX2_headHolds 45 = .ok (.iload_n 2, 1) := by decide +kernel
theorem dX2_headHolds_46 : decode cX2_headHolds 46 = .ok (.if_icmp .le 14, 3) := by decide +kernel
theorem dX2_headHolds_49 : decode cX2_headHolds 49 = .ok (.aload_n 0, 1) := by decide +kernel
theorem dX2_headHolds_50 : decode cX2_headHolds 50 = .ok (.getfield 12, 3) := by decide +kernel
theorem dX2_headHolds_53 : decode cX2_headHolds 53 = .ok (.bipush 14, 2) := by decide +kernel
theorem dX2_headHolds_55 : decode cX2_headHolds 55 = .ok (.iload_n 2, 1) := by decide +kernel
theorem dX2_headHolds_56 : decode cX2_headHolds 56 = .ok (.invokevirtual 86, 3) := by decide +kernel
theorem dX2_headHolds_59 : decode cX2_headHolds 59 = .ok (.ireturn, 1) := by decide +kernel
theorem dX2_headHolds_60 : decode cX2_headHolds 60 = .ok (.aload_n 0, 1) := by decide +kernel
theorem dX2_headHolds_61 : decode cX2_headHolds 61 = .ok (.getfield 12, 3) := by decide +kernel
theorem dX2_headHolds_64 : decode cX2_headHolds 64 = .ok (.iload_n 1, 1) := by decide +kernel
theorem dX2_headHolds_65 : decode cX2_headHolds 65 = .ok (.iconst 2, 1) := by decide +kernel
theorem dX2_headHolds_66 : decode cX2_headHolds 66 = .ok (.iadd, 1) := by decide +kernel
theorem dX2_headHolds_67 : decode cX2_headHolds 67 = .ok (.invokevirtual 90, 3) := by decide +kernel
theorem dX2_headHolds_70 : decode cX2_headHolds 70 = .ok (.bipush 24, 2) := by decide +kernel
theorem dX2_headHolds_72 : decode cX2_headHolds 72 = .ok (.if_icmp .gt 17, 3) := by decide +kernel
theorem dX2_headHolds_75 : decode cX2_headHolds 75 = .ok (.aload_n 0, 1) := by decide +kernel
theorem dX2_headHolds_76 : decode cX2_headHolds 76 = .ok (.getfield 12, 3) := by decide +kernel
theorem dX2_headHolds_79 : decode cX2_headHolds 79 = .ok (.iload_n 1, 1) := by decide +kernel
theorem dX2_headHolds_80 : decode cX2_headHolds 80 = .ok (.iconst 2, 1) := by decide +kernel
theorem dX2_headHolds_81 : decode cX2_headHolds 81 = .ok (.iadd, 1) := by decide +kernel
theorem dX2_headHolds_82 : decode cX2_headHolds 82 = .ok (.invokevirtual 90, 3) := by decide +kernel
theorem dX2_headHolds_85 : decode cX2_headHolds 85 = .ok (.iload_n 3, 1) := by decide +kernel
theorem dX2_headHolds_86 : decode cX2_headHolds 86 = .ok (.if_icmp .ge 16, 3) := by decide +kernel
theorem dX2_headHolds_89 : decode cX2_headHolds 89 = .ok (.aload_n 0, 1) := by decide +kernel
theorem dX2_headHolds_90 : decode cX2_headHolds 90 = .ok (.getfield 12, 3) := by decide +kernel
theorem dX2_headHolds_93 : decode cX2_headHolds 93 = .ok (.bipush 13, 2) := by decide +kernel
theorem dX2_headHolds_95 : decode cX2_headHolds 95 = .ok (.iload_n 1, 1) := by decide +kernel
theorem dX2_headHolds_96 : decode cX2_headHolds 96 = .ok (.iconst 2, 1) := by decide +kernel
theorem dX2_headHolds_97 : decode cX2_headHolds 97 = .ok (.iadd, 1) := by decide +kernel
theorem dX2_headHolds_98 : decode cX2_headHolds 98 = .ok (.invokevirtual 86, 3) := by decide +kernel
theorem dX2_headHolds_101 : decode cX2_headHolds 101 = .ok (.ireturn, 1) := by decide +kernel
theorem dX2_headHolds_102 : decode cX2_headHolds 102 = .ok (.iload_n 1, 1) := by decide +kernel
theorem dX2_headHolds_103 : decode cX2_headHolds 103 = .ok (.bipush 8, 2) := by decide +kernel
theorem dX2_headHolds_105 : decode cX2_headHolds 105 = .ok (.iadd, 1) := by decide +kernel
theorem dX2_headHolds_106 : decode cX2_headHolds 106 = .ok (.iload_n 2, 1) := by decide +kernel
theorem dX2_headHolds_107 : decode cX2_headHolds 107 = .ok (.if_icmp .le 14, 3) := by decide +kernel
theorem dX2_headHolds_110 : decode cX2_headHolds 110 = .ok (.aload_n 0, 1) := by decide +kernel
theorem dX2_headHolds_111 : decode cX2_headHolds 111 = .ok (.getfield 12, 3) := by decide +kernel
theorem dX2_headHolds_114 : decode cX2_headHolds 114 = .ok (.bipush 14, 2) := by decide +kernel
theorem dX2_headHolds_116 : decode cX2_headHolds 116 = .ok (.iload_n 2, 1) := by decide +kernel
theorem dX2_headHolds_117 : decode cX2_headHolds 117 = .ok (.invokevirtual 86, 3) := by decide +kernel
theorem dX2_headHolds_120 : decode cX2_headHolds 120 = .ok (.ireturn, 1) := by decide +kernel
theorem dX2_headHolds_121 : decode cX2_headHolds 121 = .ok (.aload_n 0, 1) := by decide +kernel
theorem dX2_headHolds_122 : decode cX2_headHolds 122 = .ok (.getfield 12, 3) := by decide +kernel
theorem dX2_headHolds_125 : decode cX2_headHolds 125 = .ok (.iload_n 1, 1) := by decide +kernel
theorem dX2_headHolds_126 : decode cX2_headHolds 126 = .ok (.iconst 4, 1) := by decide +kernel
theorem dX2_headHolds_127 : decode cX2_headHolds 127 = .ok (.iadd, 1) := by decide +kernel
theorem dX2_headHolds_128 : decode cX2_headHolds 128 = .ok (.invokevirtual 93, 3) := by decide +kernel
theorem dX2_headHolds_131 : decode cX2_headHolds 131 = .ok (.lstore 4, 2) := by decide +kernel
theorem dX2_headHolds_133 : decode cX2_headHolds 133 = .ok (.lload 4, 2) := by decide +kernel
theorem dX2_headHolds_135 : decode cX2_headHolds 135 = .ok (.lconst 1, 1) := by decide +kernel
theorem dX2_headHolds_136 : decode cX2_headHolds 136 = .ok (.lcmp, 1) := by decide +kernel
theorem dX2_headHolds_137 : decode cX2_headHolds 137 = .ok (.ifCond .lt 12, 3) := by decide +kernel
theorem dX2_headHolds_140 : decode cX2_headHolds 140 = .ok (.lload 4, 2) := by decide +kernel
theorem dX2_headHolds_142 : decode cX2_headHolds 142 = .ok (.ldc2_w 97, 3) := by decide +kernel
theorem dX2_headHolds_145 : decode cX2_headHolds 145 = .ok (.lcmp, 1) := by decide +kernel
theorem dX2_headHolds_146 : decode cX2_headHolds 146 = .ok (.ifCond .le 16, 3) := by decide +kernel
theorem dX2_headHolds_149 : decode cX2_headHolds 149 = .ok (.aload_n 0, 1) := by decide +kernel
theorem dX2_headHolds_150 : decode cX2_headHolds 150 = .ok (.getfield 12, 3) := by decide +kernel
theorem dX2_headHolds_153 : decode cX2_headHolds 153 = .ok (.bipush 13, 2) := by decide +kernel
theorem dX2_headHolds_155 : decode cX2_headHolds 155 = .ok (.iload_n 1, 1) := by decide +kernel
theorem dX2_headHolds_156 : decode cX2_headHolds 156 = .ok (.iconst 4, 1) := by decide +kernel
theorem dX2_headHolds_157 : decode cX2_headHolds 157 = .ok (.iadd, 1) := by decide +kernel
theorem dX2_headHolds_158 : decode cX2_headHolds 158 = .ok (.invokevirtual 86, 3) := by decide +kernel
theorem dX2_headHolds_161 : decode cX2_headHolds 161 = .ok (.ireturn, 1) := by decide +kernel
theorem dX2_headHolds_162 : decode cX2_headHolds 162 = .ok (.aload_n 0, 1) := by decide +kernel
theorem dX2_headHolds_163 : decode cX2_headHolds 163 = .ok (.iload_n 1, 1) := by decide +kernel
theorem dX2_headHolds_164 : decode cX2_headHolds 164 = .ok (.bipush 8, 2) := by decide +kernel
theorem dX2_headHolds_166 : decode cX2_headHolds 166 = .ok (.iadd, 1) := by decide +kernel
theorem dX2_headHolds_167 : decode cX2_headHolds 167 = .ok (.lload 4, 2) := by decide +kernel
theorem dX2_headHolds_169 : decode cX2_headHolds 169 = .ok (.l2i, 1) := by decide +kernel
theorem dX2_headHolds_170 : decode cX2_headHolds 170 = .ok (.iadd, 1) := by decide +kernel
theorem dX2_headHolds_171 : decode cX2_headHolds 171 = .ok (.iload_n 2, 1) := by decide +kernel
theorem dX2_headHolds_172 : decode cX2_headHolds 172 = .ok (.invokevirtual 99, 3) := by decide +kernel
theorem dX2_headHolds_175 : decode cX2_headHolds 175 = .ok (.ireturn, 1) := by decide +kernel
theorem dX2_init_0 : decode cX2_init 0 = .ok (.aload_n 0, 1) := by decide +kernel
theorem dX2_init_1 : decode cX2_init 1 = .ok (.invokespecial 3, 3) := by decide +kernel
theorem dX2_init_4 : decode cX2_init 4 = .ok (.aload_n 0, 1) := by decide +kernel
theorem dX2_init_5 : decode cX2_init 5 = .ok (.new 9, 3) := by decide +kernel
theorem dX2_init_8 : decode cX2_init 8 = .ok (.dup, 1) := by decide +kernel
theorem dX2_init_9 : decode cX2_init 9 = .ok (.invokespecial 11, 3) := by decide +kernel
theorem dX2_init_12 : decode cX2_init 12 = .ok (.putfield 12, 3) := by decide +kernel
theorem dX2_init_15 : decode cX2_init 15 = .ok (.aload_n 0, 1) := by decide +kernel
theorem dX2_init_16 : decode cX2_init 16 = .ok (.sipush 1201, 3) := by decide +kernel
theorem dX2_init_19 : decode cX2_init 19 = .ok (.newarray .int, 2) := by decide +kernel
theorem dX2_init_21 : decode cX2_init 21 = .ok (.putfield 18, 3) := by decide +kernel
theorem dX2_init_24 : decode cX2_init 24 = .ok (.return_, 1) := by decide +kernel
theorem dX2_instructionsHold_0 : decode cX2_instructionsHold 0 = .ok (.iconst 0, 1) := by decide +kernel
theorem dX2_instructionsHold_1 : decode cX2_instructionsHold 1 = .ok (.istore_n 1, 1) := by decide +kernel
theorem dX2_instructionsHold_2 : decode cX2_instructionsHold 2 = .ok (.iload_n 1, 1) := by decide +kernel
theorem dX2_instructionsHold_3 : decode cX2_instructionsHold 3 = .ok (.aload_n 0, 1) := by decide +kernel
theorem dX2_instructionsHold_4 : decode cX2_instructionsHold 4 = .ok (.getfield 12, 3) := by decide +kernel
theorem dX2_instructionsHold_7 : decode cX2_instructionsHold 7 = .ok (.getfield 59, 3) := by decide +kernel
theorem dX2_instructionsHold_10 : decode cX2_instructionsHold 10 = .ok (.if_icmp .ge 59, 3) := by decide +kernel
theorem dX2_instructionsHold_13 : decode cX2_instructionsHold 13 = .ok (.aload_n 0, 1) := by decide +kernel
theorem dX2_instructionsHold_14 : decode cX2_instructionsHold 14 = .ok (.iload_n 1, 1) := by decide +kernel
theorem dX2_instructionsHold_15 : decode cX2_instructionsHold 15 = .ok (.invokevirtual 129, 3) := by decide +kernel
theorem dX2_instructionsHold_18 : decode cX2_instructionsHold 18 = .ok (.iconst 0, 1) := by decide +kernel
theorem dX2_instructionsHold_19 : decode cX2_instructionsHold 19 = .ok (.istore_n 2, 1) := by decide +kernel
theorem dX2_instructionsHold_20 : decode cX2_instructionsHold 20 = .ok (.iload_n 2, 1) := by decide +kernel
theorem dX2_instructionsHold_21 : decode cX2_instructionsHold 21 = .ok (.aload_n 0, 1) := by decide +kernel
theorem dX2_instructionsHold_22 : decode cX2_instructionsHold 22 = .ok (.getfield 117, 3) := by decide +kernel
theorem dX2_instructionsHold_25 : decode cX2_instructionsHold 25 = .ok (.if_icmp .ge 38, 3) := by decide +kernel
theorem dX2_instructionsHold_28 : decode cX2_instructionsHold 28 = .ok (.aload_n 0, 1) := by decide +kernel
theorem dX2_instructionsHold_29 : decode cX2_instructionsHold 29 = .ok (.iload_n 2, 1) := by decide +kernel
theorem dX2_instructionsHold_30 : decode cX2_instructionsHold 30 = .ok (.invokevirtual 133, 3) := by decide +kernel
theorem dX2_instructionsHold_33 : decode cX2_instructionsHold 33 = .ok (.ifCond .gt 19, 3) := by decide +kernel
theorem dX2_instructionsHold_36 : decode cX2_instructionsHold 36 = .ok (.aload_n 0, 1) := by decide +kernel
theorem dX2_instructionsHold_37 : decode cX2_instructionsHold 37 = .ok (.getfield 12, 3) := by decide +kernel
theorem dX2_instructionsHold_40 : decode cX2_instructionsHold 40 = .ok (.bipush 15, 2) := by decide +kernel
theorem dX2_instructionsHold_42 : decode cX2_instructionsHold 42 = .ok (.aload_n 0, 1) := by decide +kernel
theorem dX2_instructionsHold_43 : decode cX2_instructionsHold 43 = .ok (.getfield 120, 3) := by decide +kernel
theorem dX2_instructionsHold_46 : decode cX2_instructionsHold 46 = .ok (.iload_n 2, 1) := by decide +kernel
theorem dX2_instructionsHold_47 : decode cX2_instructionsHold 47 = .ok (.iadd, 1) := by decide +kernel
theorem dX2_instructionsHold_48 : decode cX2_instructionsHold 48 = .ok (.invokevirtual 86, 3) := by decide +kernel
theorem dX2_instructionsHold_51 : decode cX2_instructionsHold 51 = .ok (.ireturn, 1) := by decide +kernel
theorem dX2_instructionsHold_52 : decode cX2_instructionsHold 52 = .ok (.iload_n 2, 1) := by decide +kernel
theorem dX2_instructionsHold_53 : decode cX2_instructionsHold 53 = .ok (.aload_n 0, 1) := by decide +kernel
theorem dX2_instructionsHold_54 : decode cX2_instructionsHold 54 = .ok (.iload_n 2, 1) := by decide +kernel
theorem dX2_instructionsHold_55 : decode cX2_instructionsHold 55 = .ok (.invokevirtual 133, 3) := by decide +kernel
theorem dX2_instructionsHold_58 : decode cX2_instructionsHold 58 = .ok (.iadd, 1) := by decide +kernel
theorem dX2_instructionsHold_59 : decode cX2_instructionsHold 59 = .ok (.istore_n 2, 1) := by decide +kernel
theorem dX2_instructionsHold_60 : decode cX2_instructionsHold 60 = .ok (.goto (-40), 3) := by decide +kernel
theorem dX2_instructionsHold_63 : decode cX2_instructionsHold 63 = .ok (.iinc 1 1, 3) := by decide +kernel
theorem dX2_instructionsHold_66 : decode cX2_instructionsHold 66 = .ok (.goto (-64), 3) := by decide +kernel
theorem dX2_instructionsHold_69 : decode cX2_instructionsHold 69 = .ok (.iconst 1, 1) := by decide +kernel
theorem dX2_instructionsHold_70 : decode cX2_instructionsHold 70 = .ok (.ireturn, 1) := by decide +kernel
theorem dX2_isInstruction_0 : decode cX2_isInstruction 0 = .ok (.lload_n 1, 1) := by decide +kernel
theorem dX2_isInstruction_1 : decode cX2_isInstruction 1 = .ok (.aload_n 0, 1) := by decide +kernel
theorem dX2_isInstruction_2 : decode cX2_isInstruction 2 = .ok (.getfield 117, 3) := by decide +kernel
theorem dX2_isInstruction_5 : decode cX2_isInstruction 5 = .ok (.i2l, 1) := by decide +kernel
theorem dX2_isInstruction_6 : decode cX2_isInstruction 6 = .ok (.lcmp, 1) := by decide +kernel
theorem dX2_isInstruction_7 : decode cX2_isInstruction 7 = .ok (.ifCond .ge 15, 3) := by decide +kernel
theorem dX2_isInstruction_10 : decode cX2_isInstruction 10 = .ok (.aload_n 0, 1) := by decide +kernel
theorem dX2_isInstruction_11 : decode cX2_isInstruction 11 = .ok (.lload_n 1, 1) := by decide +kernel
theorem dX2_isInstruction_12 : decode cX2_isInstruction 12 = .ok (.invokevirtual 217, 3) := by decide +kernel
theorem dX2_isInstruction_15 : decode cX2_isInstruction 15 = .ok (.ifCond .lt 7, 3) := by decide +kernel
theorem dX2_isInstruction_18 : decode cX2_isInstruction 18 = .ok (.iconst 1, 1) := by decide +kernel
theorem dX2_isInstruction_19 : decode cX2_isInstruction 19 = .ok (.goto 4, 3) := by decide +kernel
theorem dX2_isInstruction_22 : decode cX2_isInstruction 22 = .ok (.iconst 0, 1) := by decide +kernel
theorem dX2_isInstruction_23 : decode cX2_isInstruction 23 = .ok (.ireturn, 1) := by decide +kernel
theorem dX2_lengthAt_0 : decode cX2_lengthAt 0 = .ok (.aload_n 0, 1) := by decide +kernel
theorem dX2_lengthAt_1 : decode cX2_lengthAt 1 = .ok (.iload_n 1, 1) := by decide +kernel
theorem dX2_lengthAt_2 : decode cX2_lengthAt 2 = .ok (.invokevirtual 139, 3) := by decide +kernel
theorem dX2_lengthAt_5 : decode cX2_lengthAt 5 = .ok (.lookupswitch 96 #[(170, 43), (171, 52), (188, 75), (196, 61)], 43) := by decide +kernel
theorem dX2_lengthAt_48 : decode cX2_lengthAt 48 = .ok (.aload_n 0, 1) := by decide +kernel
theorem dX2_lengthAt_49 : decode cX2_lengthAt 49 = .ok (.iload_n 1, 1) := by decide +kernel
theorem dX2_lengthAt_50 : decode cX2_lengthAt 50 = .ok (.invokevirtual 140, 3) := by decide +kernel
theorem dX2_lengthAt_53 : decode cX2_lengthAt 53 = .ok (.istore_n 2, 1) := by decide +kernel
theorem dX2_lengthAt_54 : decode cX2_lengthAt 54 = .ok (.goto 56, 3) := by decide +kernel
theorem dX2_lengthAt_57 : decode cX2_lengthAt 57 = .ok (.aload_n 0, 1) := by decide +kernel
theorem dX2_lengthAt_58 : decode cX2_lengthAt 58 = .ok (.iload_n 1, 1) := by decide +kernel
theorem dX2_lengthAt_59 : decode cX2_lengthAt 59 = .ok (.invokevirtual 143, 3) := by decide +kernel
theorem dX2_lengthAt_62 : decode cX2_lengthAt 62 = .ok (.istore_n 2, 1) := by decide +kernel
theorem dX2_lengthAt_63 : decode cX2_lengthAt 63 = .ok (.goto 47, 3) := by decide +kernel
theorem dX2_lengthAt_66 : decode cX2_lengthAt 66 = .ok (.aload_n 0, 1) := by decide +kernel
theorem dX2_lengthAt_67 : decode cX2_lengthAt 67 = .ok (.iload_n 1, 1) := by decide +kernel
theorem dX2_lengthAt_68 : decode cX2_lengthAt 68 = .ok (.iconst 1, 1) := by decide +kernel
theorem dX2_lengthAt_69 : decode cX2_lengthAt 69 = .ok (.iadd, 1) := by decide +kernel
theorem dX2_lengthAt_70 : decode cX2_lengthAt 70 = .ok (.invokevirtual 139, 3) := by decide +kernel
theorem dX2_lengthAt_73 : decode cX2_lengthAt 73 = .ok (.invokestatic 146, 3) := by decide +kernel
theorem dX2_lengthAt_76 : decode cX2_lengthAt 76 = .ok (.istore_n 2, 1) := by decide +kernel
theorem dX2_lengthAt_77 : decode cX2_lengthAt 77 = .ok (.goto 33, 3) := by decide +kernel
theorem dX2_lengthAt_80 : decode cX2_lengthAt 80 = .ok (.aload_n 0, 1) := by decide +kernel
theorem dX2_lengthAt_81 : decode cX2_lengthAt 81 = .ok (.iload_n 1, 1) := by decide +kernel
theorem dX2_lengthAt_82 : decode cX2_lengthAt 82 = .ok (.iconst 1, 1) := by decide +kernel
theorem dX2_lengthAt_83 : decode cX2_lengthAt 83 = .ok (.iadd, 1) := by decide +kernel
theorem dX2_lengthAt_84 : decode cX2_lengthAt 84 = .ok (.invokevirtual 139, 3) := by decide +kernel
theorem dX2_lengthAt_87 : decode cX2_lengthAt 87 = .ok (.bipush 10, 2) := by decide +kernel
theorem dX2_lengthAt_89 : decode cX2_lengthAt 89 = .ok (.if_icmp .ne 7, 3) := by decide +kernel
theorem dX2_lengthAt_92 : decode cX2_lengthAt 92 = .ok (.iconst 2, 1) := by decide +kernel
theorem dX2_lengthAt_93 : decode cX2_lengthAt 93 = .ok (.goto 4, 3) := by decide +kernel
theorem dX2_lengthAt_96 : decode cX2_lengthAt 96 = .ok (.iconst 0, 1) := by decide +kernel
theorem dX2_lengthAt_97 : decode cX2_lengthAt 97 = .ok (.istore_n 2, 1) := by decide +kernel
theorem dX2_lengthAt_98 : decode cX2_lengthAt 98 = .ok (.goto 12, 3) := by decide +kernel
theorem dX2_lengthAt_101 : decode cX2_lengthAt 101 = .ok (.aload_n 0, 1) := by decide +kernel
theorem dX2_lengthAt_102 : decode cX2_lengthAt 102 = .ok (.iload_n 1, 1) := by decide +kernel
theorem dX2_lengthAt_103 : decode cX2_lengthAt 103 = .ok (.invokevirtual 139, 3) := by decide +kernel
theorem dX2_lengthAt_106 : decode cX2_lengthAt 106 = .ok (.invokestatic 149, 3) := by decide +kernel
theorem dX2_lengthAt_109 : decode cX2_lengthAt 109 = .ok (.istore_n 2, 1) := by decide +kernel
theorem dX2_lengthAt_110 : decode cX2_lengthAt 110 = .ok (.iload_n 1, 1) := by decide +kernel
theorem dX2_lengthAt_111 : decode cX2_lengthAt 111 = .ok (.iload_n 2, 1) := by decide +kernel
theorem dX2_lengthAt_112 : decode cX2_lengthAt 112 = .ok (.iadd, 1) := by decide +kernel
theorem dX2_lengthAt_113 : decode cX2_lengthAt 113 = .ok (.aload_n 0, 1) := by decide +kernel
theorem dX2_lengthAt_114 : decode cX2_lengthAt 114 = .ok (.getfield 117, 3) := by decide +kernel
theorem dX2_lengthAt_117 : decode cX2_lengthAt 117 = .ok (.if_icmp .le 7, 3) := by decide +kernel
theorem dX2_lengthAt_120 : decode cX2_lengthAt 120 = .ok (.iconst 0, 1) := by decide +kernel
theorem dX2_lengthAt_121 : decode cX2_lengthAt 121 = .ok (.goto 4, 3) := by decide +kernel
theorem dX2_lengthAt_124 : decode cX2_lengthAt 124 = .ok (.iload_n 2, 1) := by decide +kernel
theorem dX2_lengthAt_125 : decode cX2_lengthAt 125 = .ok (.ireturn, 1) := by decide +kernel
theorem dX2_limitsHold_0 : decode cX2_limitsHold 0 = .ok (.iconst 0, 1) := by decide +kernel
theorem dX2_limitsHold_1 : decode cX2_limitsHold 1 = .ok (.istore_n 1, 1) := by decide +kernel
theorem dX2_limitsHold_2 : decode cX2_limitsHold 2 = .ok (.iload_n 1, 1) := by decide +kernel
theorem dX2_limitsHold_3 : decode cX2_limitsHold 3 = .ok (.aload_n 0, 1) := by decide +kernel
theorem dX2_limitsHold_4 : decode cX2_limitsHold 4 = .ok (.getfield 12, 3) := by decide +kernel
theorem dX2_limitsHold_7 : decode cX2_limitsHold 7 = .ok (.getfield 59, 3) := by decide +kernel
theorem dX2_limitsHold_10 : decode cX2_limitsHold 10 = .ok (.if_icmp .ge 73, 3) := by decide +kernel
theorem dX2_limitsHold_13 : decode cX2_limitsHold 13 = .ok (.iload_n 1, 1) := by decide +kernel
theorem dX2_limitsHold_14 : decode cX2_limitsHold 14 = .ok (.bipush 24, 2) := by decide +kernel
theorem dX2_limitsHold_16 : decode cX2_limitsHold 16 = .ok (.if_icmp .ge 67, 3) := by decide +kernel
theorem dX2_limitsHold_19 : decode cX2_limitsHold 19 = .ok (.aload_n 0, 1) := by decide +kernel
theorem dX2_limitsHold_20 : decode cX2_limitsHold 20 = .ok (.getfield 12, 3) := by decide +kernel
theorem dX2_limitsHold_23 : decode cX2_limitsHold 23 = .ok (.aload_n 0, 1) := by decide +kernel
theorem dX2_limitsHold_24 : decode cX2_limitsHold 24 = .ok (.getfield 12, 3) := by decide +kernel
theorem dX2_limitsHold_27 : decode cX2_limitsHold 27 = .ok (.aload_n 0, 1) := by decide +kernel
theorem dX2_limitsHold_28 : decode cX2_limitsHold 28 = .ok (.getfield 12, 3) := by decide +kernel
theorem dX2_limitsHold_31 : decode cX2_limitsHold 31 = .ok (.getfield 62, 3) := by decide +kernel
theorem dX2_limitsHold_34 : decode cX2_limitsHold 34 = .ok (.iload_n 1, 1) := by decide +kernel
theorem dX2_limitsHold_35 : decode cX2_limitsHold 35 = .ok (.iadd, 1) := by decide +kernel
theorem dX2_limitsHold_36 : decode cX2_limitsHold 36 = .ok (.invokevirtual 65, 3) := by decide +kernel
theorem dX2_limitsHold_39 : decode cX2_limitsHold 39 = .ok (.invokevirtual 69, 3) := by decide +kernel
theorem dX2_limitsHold_42 : decode cX2_limitsHold 42 = .ok (.pop, 1) := by decide +kernel
theorem dX2_limitsHold_43 : decode cX2_limitsHold 43 = .ok (.aload_n 0, 1) := by decide +kernel
theorem dX2_limitsHold_44 : decode cX2_limitsHold 44 = .ok (.aload_n 0, 1) := by decide +kernel
theorem dX2_limitsHold_45 : decode cX2_limitsHold 45 = .ok (.getfield 12, 3) := by decide +kernel
theorem dX2_limitsHold_48 : decode cX2_limitsHold 48 = .ok (.getfield 73, 3) := by decide +kernel
theorem dX2_limitsHold_51 : decode cX2_limitsHold 51 = .ok (.iload_n 1, 1) := by decide +kernel
theorem dX2_limitsHold_52 : decode cX2_limitsHold 52 = .ok (.iaload, 1) := by decide +kernel
theorem dX2_limitsHold_53 : decode cX2_limitsHold 53 = .ok (.aload_n 0, 1) := by decide +kernel
theorem dX2_limitsHold_54 : decode cX2_limitsHold 54 = .ok (.getfield 12, 3) := by decide +kernel
theorem dX2_limitsHold_57 : decode cX2_limitsHold 57 = .ok (.getfield 76, 3) := by decide +kernel
theorem dX2_limitsHold_60 : decode cX2_limitsHold 60 = .ok (.iload_n 1, 1) := by decide +kernel
theorem dX2_limitsHold_61 : decode cX2_limitsHold 61 = .ok (.iaload, 1) := by decide +kernel
theorem dX2_limitsHold_62 : decode cX2_limitsHold 62 = .ok (.aload_n 0, 1) := by decide +kernel
theorem dX2_limitsHold_63 : decode cX2_limitsHold 63 = .ok (.getfield 12, 3) := by decide +kernel
theorem dX2_limitsHold_66 : decode cX2_limitsHold 66 = .ok (.getfield 79, 3) := by decide +kernel
theorem dX2_limitsHold_69 : decode cX2_limitsHold 69 = .ok (.invokevirtual 82, 3) := by decide +kernel
theorem dX2_limitsHold_72 : decode cX2_limitsHold 72 = .ok (.ifCond .ne 5, 3) := by decide +kernel
theorem dX2_limitsHold_75 : decode cX2_limitsHold 75 = .ok (.iconst 0, 1) := by decide +kernel
theorem dX2_limitsHold_76 : decode cX2_limitsHold 76 = .ok (.ireturn, 1) := by decide +kernel
theorem dX2_limitsHold_77 : decode cX2_limitsHold 77 = .ok (.iinc 1 1, 3) := by decide +kernel
theorem dX2_limitsHold_80 : decode cX2_limitsHold 80 = .ok (.goto (-78), 3) := by decide +kernel
theorem dX2_limitsHold_83 : decode cX2_limitsHold 83 = .ok (.iconst 1, 1) := by decide +kernel
theorem dX2_limitsHold_84 : decode cX2_limitsHold 84 = .ok (.ireturn, 1) := by decide +kernel
theorem dX2_longAt_0 : decode cX2_longAt 0 = .ok (.aload_n 0, 1) := by decide +kernel
theorem dX2_longAt_1 : decode cX2_longAt 1 = .ok (.getfield 12, 3) := by decide +kernel
theorem dX2_longAt_4 : decode cX2_longAt 4 = .ok (.iload_n 1, 1) := by decide +kernel
theorem dX2_longAt_5 : decode cX2_longAt 5 = .ok (.invokevirtual 93, 3) := by decide +kernel
theorem dX2_longAt_8 : decode cX2_longAt 8 = .ok (.bipush 32, 2) := by decide +kernel
theorem dX2_longAt_10 : decode cX2_longAt 10 = .ok (.lshl, 1) := by decide +kernel
theorem dX2_longAt_11 : decode cX2_longAt 11 = .ok (.aload_n 0, 1) := by decide +kernel
theorem dX2_longAt_12 : decode cX2_longAt 12 = .ok (.getfield 12, 3) := by decide +kernel
theorem dX2_longAt_15 : decode cX2_longAt 15 = .ok (.iload_n 1, 1) := by decide +kernel
theorem dX2_longAt_16 : decode cX2_longAt 16 = .ok (.iconst 4, 1) := by decide +kernel
theorem dX2_longAt_17 : decode cX2_longAt 17 = .ok (.iadd, 1) := by decide +kernel
theorem dX2_longAt_18 : decode cX2_longAt 18 = .ok (.invokevirtual 93, 3) := by decide +kernel
theorem dX2_longAt_21 : decode cX2_longAt 21 = .ok (.lor, 1) := by decide +kernel
theorem dX2_longAt_22 : decode cX2_longAt 22 = .ok (.lreturn, 1) := by decide +kernel
theorem dX2_lookAt_0 : decode cX2_lookAt 0 = .ok (.iload_n 1, 1) := by decide +kernel
theorem dX2_lookAt_1 : decode cX2_lookAt 1 = .ok (.ifCond .lt 9, 3) := by decide +kernel
theorem dX2_lookAt_4 : decode cX2_lookAt 4 = .ok (.iload_n 1, 1) := by decide +kernel
theorem dX2_lookAt_5 : decode cX2_lookAt 5 = .ok (.bipush 24, 2) := by decide +kernel
theorem dX2_lookAt_7 : decode cX2_lookAt 7 = .ok (.if_icmp .lt 7, 3) := by decide +kernel
theorem dX2_lookAt_10 : decode cX2_lookAt 10 = .ok (.iconst 0, 1) := by decide +kernel
theorem dX2_lookAt_11 : decode cX2_lookAt 11 = .ok (.goto 12, 3) := by decide +kernel
theorem dX2_lookAt_14 : decode cX2_lookAt 14 = .ok (.aload_n 0, 1) := by decide +kernel
theorem dX2_lookAt_15 : decode cX2_lookAt 15 = .ok (.getfield 12, 3) := by decide +kernel
theorem dX2_lookAt_18 : decode cX2_lookAt 18 = .ok (.getfield 73, 3) := by decide +kernel
theorem dX2_lookAt_21 : decode cX2_lookAt 21 = .ok (.iload_n 1, 1) := by decide +kernel
theorem dX2_lookAt_22 : decode cX2_lookAt 22 = .ok (.iaload, 1) := by decide +kernel
theorem dX2_lookAt_23 : decode cX2_lookAt 23 = .ok (.istore_n 2, 1) := by decide +kernel
theorem dX2_lookAt_24 : decode cX2_lookAt 24 = .ok (.aload_n 0, 1) := by decide +kernel
theorem dX2_lookAt_25 : decode cX2_lookAt 25 = .ok (.aload_n 0, 1) := by decide +kernel
theorem dX2_lookAt_26 : decode cX2_lookAt 26 = .ok (.getfield 12, 3) := by decide +kernel
theorem dX2_lookAt_29 : decode cX2_lookAt 29 = .ok (.iload_n 2, 1) := by decide +kernel
theorem dX2_lookAt_30 : decode cX2_lookAt 30 = .ok (.invokevirtual 90, 3) := by decide +kernel
theorem dX2_lookAt_33 : decode cX2_lookAt 33 = .ok (.putfield 105, 3) := by decide +kernel
theorem dX2_lookAt_36 : decode cX2_lookAt 36 = .ok (.aload_n 0, 1) := by decide +kernel
theorem dX2_lookAt_37 : decode cX2_lookAt 37 = .ok (.aload_n 0, 1) := by decide +kernel
theorem dX2_lookAt_38 : decode cX2_lookAt 38 = .ok (.getfield 12, 3) := by decide +kernel
theorem dX2_lookAt_41 : decode cX2_lookAt 41 = .ok (.iload_n 2, 1) := by decide +kernel
theorem dX2_lookAt_42 : decode cX2_lookAt 42 = .ok (.iconst 2, 1) := by decide +kernel
theorem dX2_lookAt_43 : decode cX2_lookAt 43 = .ok (.iadd, 1) := by decide +kernel
theorem dX2_lookAt_44 : decode cX2_lookAt 44 = .ok (.invokevirtual 90, 3) := by decide +kernel
theorem dX2_lookAt_47 : decode cX2_lookAt 47 = .ok (.putfield 108, 3) := by decide +kernel
theorem dX2_lookAt_50 : decode cX2_lookAt 50 = .ok (.aload_n 0, 1) := by decide +kernel
theorem dX2_lookAt_51 : decode cX2_lookAt 51 = .ok (.aload_n 0, 1) := by decide +kernel
theorem dX2_lookAt_52 : decode cX2_lookAt 52 = .ok (.getfield 12, 3) := by decide +kernel
theorem dX2_lookAt_55 : decode cX2_lookAt 55 = .ok (.iload_n 2, 1) := by decide +kernel
theorem dX2_lookAt_56 : decode cX2_lookAt 56 = .ok (.iconst 4, 1) := by decide +kernel
theorem dX2_lookAt_57 : decode cX2_lookAt 57 = .ok (.iadd, 1) := by decide +kernel
theorem dX2_lookAt_58 : decode cX2_lookAt 58 = .ok (.invokevirtual 102, 3) := by decide +kernel
theorem dX2_lookAt_61 : decode cX2_lookAt 61 = .ok (.sipush 1200, 3) := by decide +kernel
theorem dX2_lookAt_64 : decode cX2_lookAt 64 = .ok (.invokestatic 111, 3) := by decide +kernel
theorem dX2_lookAt_67 : decode cX2_lookAt 67 = .ok (.putfield 117, 3) := by decide +kernel
theorem dX2_lookAt_70 : decode cX2_lookAt 70 = .ok (.aload_n 0, 1) := by decide +kernel
theorem dX2_lookAt_71 : decode cX2_lookAt 71 = .ok (.iload_n 2, 1) := by decide +kernel
theorem dX2_lookAt_72 : decode cX2_lookAt 72 = .ok (.bipush 8, 2) := by decide +kernel
theorem dX2_lookAt_74 : decode cX2_lookAt 74 = .ok (.iadd, 1) := by decide +kernel
theorem dX2_lookAt_75 : decode cX2_lookAt 75 = .ok (.putfield 120, 3) := by decide +kernel
theorem dX2_lookAt_78 : decode cX2_lookAt 78 = .ok (.aload_n 0, 1) := by decide +kernel
theorem dX2_lookAt_79 : decode cX2_lookAt 79 = .ok (.aload_n 0, 1) := by decide +kernel
theorem dX2_lookAt_80 : decode cX2_lookAt 80 = .ok (.getfield 120, 3) := by decide +kernel
theorem dX2_lookAt_83 : decode cX2_lookAt 83 = .ok (.aload_n 0, 1) := by decide +kernel
theorem dX2_lookAt_84 : decode cX2_lookAt 84 = .ok (.getfield 117, 3) := by decide +kernel
theorem dX2_lookAt_87 : decode cX2_lookAt 87 = .ok (.iadd, 1) := by decide +kernel
theorem dX2_lookAt_88 : decode cX2_lookAt 88 = .ok (.iconst 2, 1) := by decide +kernel
theorem dX2_lookAt_89 : decode cX2_lookAt 89 = .ok (.iadd, 1) := by decide +kernel
theorem dX2_lookAt_90 : decode cX2_lookAt 90 = .ok (.putfield 123, 3) := by decide +kernel
theorem dX2_lookAt_93 : decode cX2_lookAt 93 = .ok (.aload_n 0, 1) := by decide +kernel
theorem dX2_lookAt_94 : decode cX2_lookAt 94 = .ok (.aload_n 0, 1) := by decide +kernel
theorem dX2_lookAt_95 : decode cX2_lookAt 95 = .ok (.getfield 12, 3) := by decide +kernel
theorem dX2_lookAt_98 : decode cX2_lookAt 98 = .ok (.aload_n 0, 1) := by decide +kernel
theorem dX2_lookAt_99 : decode cX2_lookAt 99 = .ok (.getfield 120, 3) := by decide +kernel
theorem dX2_lookAt_102 : decode cX2_lookAt 102 = .ok (.aload_n 0, 1) := by decide +kernel
theorem dX2_lookAt_103 : decode cX2_lookAt 103 = .ok (.getfield 117, 3) := by decide +kernel
theorem dX2_lookAt_106 : decode cX2_lookAt 106 = .ok (.iadd, 1) := by decide +kernel
theorem dX2_lookAt_107 : decode cX2_lookAt 107 = .ok (.invokevirtual 90, 3) := by decide +kernel
theorem dX2_lookAt_110 : decode cX2_lookAt 110 = .ok (.putfield 126, 3) := by decide +kernel
theorem dX2_lookAt_113 : decode cX2_lookAt 113 = .ok (.return_, 1) := by decide +kernel
theorem dX2_lookupLength_0 : decode cX2_lookupLength 0 = .ok (.iload_n 1, 1) := by decide +kernel
theorem dX2_lookupLength_1 : decode cX2_lookupLength 1 = .ok (.invokestatic 160, 3) := by decide +kernel
theorem dX2_lookupLength_4 : decode cX2_lookupLength 4 = .ok (.istore_n 2, 1) := by decide +kernel
theorem dX2_lookupLength_5 : decode cX2_lookupLength 5 = .ok (.aload_n 0, 1) := by decide +kernel
theorem dX2_lookupLength_6 : decode cX2_lookupLength 6 = .ok (.iload_n 2, 1) := by decide +kernel
theorem dX2_lookupLength_7 : decode cX2_lookupLength 7 = .ok (.iconst 4, 1) := by decide +kernel
theorem dX2_lookupLength_8 : decode cX2_lookupLength 8 = .ok (.iadd, 1) := by decide +kernel
theorem dX2_lookupLength_9 : decode cX2_lookupLength 9 = .ok (.invokevirtual 163, 3) := by decide +kernel
theorem dX2_lookupLength_12 : decode cX2_lookupLength 12 = .ok (.istore_n 3, 1) := by decide +kernel
theorem dX2_lookupLength_13 : decode cX2_lookupLength 13 = .ok (.iload_n 2, 1) := by decide +kernel
theorem dX2_lookupLength_14 : decode cX2_lookupLength 14 = .ok (.bipush 8, 2) := by decide +kernel
theorem dX2_lookupLength_16 : decode cX2_lookupLength 16 = .ok (.iadd, 1) := by decide +kernel
theorem dX2_lookupLength_17 : decode cX2_lookupLength 17 = .ok (.aload_n 0, 1) := by decide +kernel
theorem dX2_lookupLength_18 : decode cX2_lookupLength 18 = .ok (.getfield 117, 3) := by decide +kernel
theorem dX2_lookupLength_21 : decode cX2_lookupLength 21 = .ok (.if_icmp .gt 30, 3) := by decide +kernel
theorem dX2_lookupLength_24 : decode cX2_lookupLength 24 = .ok (.iload_n 3, 1) := by decide +kernel
theorem dX2_lookupLength_25 : decode cX2_lookupLength 25 = .ok (.ifCond .lt 26, 3) := by decide +kernel
theorem dX2_lookupLength_28 : decode cX2_lookupLength 28 = .ok (.iload_n 3, 1) := by decide +kernel
theorem dX2_lookupLength_29 : decode cX2_lookupLength 29 = .ok (.sipush 200, 3) := by decide +kernel
theorem dX2_lookupLength_32 : decode cX2_lookupLength 32 = .ok (.if_icmp .gt 19, 3) := by decide +kernel
theorem dX2_lookupLength_35 : decode cX2_lookupLength 35 = .ok (.iload_n 2, 1) := by decide +kernel
theorem dX2_lookupLength_36 : decode cX2_lookupLength 36 = .ok (.bipush 8, 2) := by decide +kernel
theorem dX2_lookupLength_38 : decode cX2_lookupLength 38 = .ok (.iadd, 1) := by decide +kernel
theorem dX2_lookupLength_39 : decode cX2_lookupLength 39 = .ok (.bipush 8, 2) := by decide +kernel
theorem dX2_lookupLength_41 : decode cX2_lookupLength 41 = .ok (.iload_n 3, 1) := by decide +kernel
theorem dX2_lookupLength_42 : decode cX2_lookupLength 42 = .ok (.imul, 1) := by decide +kernel
theorem dX2_lookupLength_43 : decode cX2_lookupLength 43 = .ok (.iadd, 1) := by decide +kernel
theorem dX2_lookupLength_44 : decode cX2_lookupLength 44 = .ok (.aload_n 0, 1) := by decide +kernel
theorem dX2_lookupLength_45 : decode cX2_lookupLength 45 = .ok (.getfield 117, 3) := by decide +kernel
theorem dX2_lookupLength_48 : decode cX2_lookupLength 48 = .ok (.if_icmp .le 5, 3) := by decide +kernel
theorem dX2_lookupLength_51 : decode cX2_lookupLength 51 = .ok (.iconst 0, 1) := by decide +kernel
theorem dX2_lookupLength_52 : decode cX2_lookupLength 52 = .ok (.ireturn, 1) := by decide +kernel
theorem dX2_lookupLength_53 : decode cX2_lookupLength 53 = .ok (.iconst 1, 1) := by decide +kernel
theorem dX2_lookupLength_54 : decode cX2_lookupLength 54 = .ok (.istore 4, 2) := by decide +kernel
theorem dX2_lookupLength_56 : decode cX2_lookupLength 56 = .ok (.iload 4, 2) := by decide +kernel
theorem dX2_lookupLength_58 : decode cX2_lookupLength 58 = .ok (.iload_n 3, 1) := by decide +kernel
theorem dX2_lookupLength_59 : decode cX2_lookupLength 59 = .ok (.if_icmp .ge 39, 3) := by decide +kernel
theorem dX2_lookupLength_62 : decode cX2_lookupLength 62 = .ok (.aload_n 0, 1) := by decide +kernel
theorem dX2_lookupLength_63 : decode cX2_lookupLength 63 = .ok (.iload_n 2, 1) := by decide +kernel
theorem dX2_lookupLength_64 : decode cX2_lookupLength 64 = .ok (.bipush 8, 2) := by decide +kernel
theorem dX2_lookupLength_66 : decode cX2_lookupLength 66 = .ok (.iadd, 1) := by decide +kernel
theorem dX2_lookupLength_67 : decode cX2_lookupLength 67 = .ok (.bipush 8, 2) := by decide +kernel
theorem dX2_lookupLength_69 : decode cX2_lookupLength 69 = .ok (.iload 4, 2) := by decide +kernel
theorem dX2_lookupLength_71 : decode cX2_lookupLength 71 = .ok (.imul, 1) := by decide +kernel
theorem dX2_lookupLength_72 : decode cX2_lookupLength 72 = .ok (.iadd, 1) := by decide +kernel
theorem dX2_lookupLength_73 : decode cX2_lookupLength 73 = .ok (.invokevirtual 163, 3) := by decide +kernel
theorem dX2_lookupLength_76 : decode cX2_lookupLength 76 = .ok (.aload_n 0, 1) := by decide +kernel
theorem dX2_lookupLength_77 : decode cX2_lookupLength 77 = .ok (.iload_n 2, 1) := by decide +kernel
theorem dX2_lookupLength_78 : decode cX2_lookupLength 78 = .ok (.bipush 8, 2) := by decide +kernel
theorem dX2_lookupLength_80 : decode cX2_lookupLength 80 = .ok (.iload 4, 2) := by decide +kernel
theorem dX2_lookupLength_82 : decode cX2_lookupLength 82 = .ok (.imul, 1) := by decide +kernel
theorem dX2_lookupLength_83 : decode cX2_lookupLength 83 = .ok (.iadd, 1) := by decide +kernel
theorem dX2_lookupLength_84 : decode cX2_lookupLength 84 = .ok (.invokevirtual 163, 3) := by decide +kernel
theorem dX2_lookupLength_87 : decode cX2_lookupLength 87 = .ok (.if_icmp .gt 5, 3) := by decide +kernel
theorem dX2_lookupLength_90 : decode cX2_lookupLength 90 = .ok (.iconst 0, 1) := by decide +kernel
theorem dX2_lookupLength_91 : decode cX2_lookupLength 91 = .ok (.ireturn, 1) := by decide +kernel
theorem dX2_lookupLength_92 : decode cX2_lookupLength 92 = .ok (.iinc 4 1, 3) := by decide +kernel
theorem dX2_lookupLength_95 : decode cX2_lookupLength 95 = .ok (.goto (-39), 3) := by decide +kernel
theorem dX2_lookupLength_98 : decode cX2_lookupLength 98 = .ok (.iload_n 2, 1) := by decide +kernel
theorem dX2_lookupLength_99 : decode cX2_lookupLength 99 = .ok (.bipush 8, 2) := by decide +kernel
theorem dX2_lookupLength_101 : decode cX2_lookupLength 101 = .ok (.iadd, 1) := by decide +kernel
theorem dX2_lookupLength_102 : decode cX2_lookupLength 102 = .ok (.bipush 8, 2) := by decide +kernel
theorem dX2_lookupLength_104 : decode cX2_lookupLength 104 = .ok (.iload_n 3, 1) := by decide +kernel
theorem dX2_lookupLength_105 : decode cX2_lookupLength 105 = .ok (.imul, 1) := by decide +kernel
theorem dX2_lookupLength_106 : decode cX2_lookupLength 106 = .ok (.iadd, 1) := by decide +kernel
theorem dX2_lookupLength_107 : decode cX2_lookupLength 107 = .ok (.iload_n 1, 1) := by decide +kernel
theorem dX2_lookupLength_108 : decode cX2_lookupLength 108 = .ok (.isub, 1) := by decide +kernel
theorem dX2_lookupLength_109 : decode cX2_lookupLength 109 = .ok (.ireturn, 1) := by decide +kernel
theorem dX2_memberOf_0 : decode cX2_memberOf 0 = .ok (.aload_n 0, 1) := by decide +kernel
theorem dX2_memberOf_1 : decode cX2_memberOf 1 = .ok (.getfield 12, 3) := by decide +kernel
theorem dX2_memberOf_4 : decode cX2_memberOf 4 = .ok (.iload_n 1, 1) := by decide +kernel
theorem dX2_memberOf_5 : decode cX2_memberOf 5 = .ok (.invokevirtual 231, 3) := by decide +kernel
theorem dX2_memberOf_8 : decode cX2_memberOf 8 = .ok (.iload_n 2, 1) := by decide +kernel
theorem dX2_memberOf_9 : decode cX2_memberOf 9 = .ok (.if_icmp .eq 5, 3) := by decide +kernel
theorem dX2_memberOf_12 : decode cX2_memberOf 12 = .ok (.iconst (-1), 1) := by decide +kernel
theorem dX2_memberOf_13 : decode cX2_memberOf 13 = .ok (.ireturn, 1) := by decide +kernel
theorem dX2_memberOf_14 : decode cX2_memberOf 14 = .ok (.aload_n 0, 1) := by decide +kernel
theorem dX2_memberOf_15 : decode cX2_memberOf 15 = .ok (.getfield 12, 3) := by decide +kernel
theorem dX2_memberOf_18 : decode cX2_memberOf 18 = .ok (.aload_n 0, 1) := by decide +kernel
theorem dX2_memberOf_19 : decode cX2_memberOf 19 = .ok (.getfield 12, 3) := by decide +kernel
theorem dX2_memberOf_22 : decode cX2_memberOf 22 = .ok (.getfield 258, 3) := by decide +kernel
theorem dX2_memberOf_25 : decode cX2_memberOf 25 = .ok (.iconst 2, 1) := by decide +kernel
theorem dX2_memberOf_26 : decode cX2_memberOf 26 = .ok (.iadd, 1) := by decide +kernel
theorem dX2_memberOf_27 : decode cX2_memberOf 27 = .ok (.invokevirtual 90, 3) := by decide +kernel
theorem dX2_memberOf_30 : decode cX2_memberOf 30 = .ok (.istore_n 3, 1) := by decide +kernel
theorem dX2_memberOf_31 : decode cX2_memberOf 31 = .ok (.aload_n 0, 1) := by decide +kernel
theorem dX2_memberOf_32 : decode cX2_memberOf 32 = .ok (.getfield 12, 3) := by decide +kernel
theorem dX2_memberOf_35 : decode cX2_memberOf 35 = .ok (.aload_n 0, 1) := by decide +kernel
theorem dX2_memberOf_36 : decode cX2_memberOf 36 = .ok (.getfield 12, 3) := by decide +kernel
theorem dX2_memberOf_39 : decode cX2_memberOf 39 = .ok (.aload_n 0, 1) := by decide +kernel
theorem dX2_memberOf_40 : decode cX2_memberOf 40 = .ok (.getfield 12, 3) := by decide +kernel
theorem dX2_memberOf_43 : decode cX2_memberOf 43 = .ok (.iload_n 1, 1) := by decide +kernel
theorem dX2_memberOf_44 : decode cX2_memberOf 44 = .ok (.invokevirtual 247, 3) := by decide +kernel
theorem dX2_memberOf_47 : decode cX2_memberOf 47 = .ok (.invokevirtual 247, 3) := by decide +kernel
theorem dX2_memberOf_50 : decode cX2_memberOf 50 = .ok (.aload_n 0, 1) := by decide +kernel
theorem dX2_memberOf_51 : decode cX2_memberOf 51 = .ok (.getfield 12, 3) := by decide +kernel
theorem dX2_memberOf_54 : decode cX2_memberOf 54 = .ok (.iload_n 3, 1) := by decide +kernel
theorem dX2_memberOf_55 : decode cX2_memberOf 55 = .ok (.invokevirtual 247, 3) := by decide +kernel
theorem dX2_memberOf_58 : decode cX2_memberOf 58 = .ok (.invokevirtual 261, 3) := by decide +kernel
theorem dX2_memberOf_61 : decode cX2_memberOf 61 = .ok (.ifCond .ne 5, 3) := by decide +kernel
theorem dX2_memberOf_64 : decode cX2_memberOf 64 = .ok (.iconst (-1), 1) := by decide +kernel
theorem dX2_memberOf_65 : decode cX2_memberOf 65 = .ok (.ireturn, 1) := by decide +kernel
theorem dX2_memberOf_66 : decode cX2_memberOf 66 = .ok (.aload_n 0, 1) := by decide +kernel
theorem dX2_memberOf_67 : decode cX2_memberOf 67 = .ok (.getfield 12, 3) := by decide +kernel
theorem dX2_memberOf_70 : decode cX2_memberOf 70 = .ok (.iload_n 1, 1) := by decide +kernel
theorem dX2_memberOf_71 : decode cX2_memberOf 71 = .ok (.invokevirtual 264, 3) := by decide +kernel
theorem dX2_memberOf_74 : decode cX2_memberOf 74 = .ok (.istore 4, 2) := by decide +kernel
theorem dX2_memberOf_76 : decode cX2_memberOf 76 = .ok (.iload_n 2, 1) := by decide +kernel
theorem dX2_memberOf_77 : decode cX2_memberOf 77 = .ok (.bipush 9, 2) := by decide +kernel
theorem dX2_memberOf_79 : decode cX2_memberOf 79 = .ok (.if_icmp .ne 7, 3) := by decide +kernel
theorem dX2_memberOf_82 : decode cX2_memberOf 82 = .ok (.iconst 0, 1) := by decide +kernel
theorem dX2_memberOf_83 : decode cX2_memberOf 83 = .ok (.goto 10, 3) := by decide +kernel
theorem dX2_memberOf_86 : decode cX2_memberOf 86 = .ok (.aload_n 0, 1) := by decide +kernel
theorem dX2_memberOf_87 : decode cX2_memberOf 87 = .ok (.getfield 12, 3) := by decide +kernel
theorem dX2_memberOf_90 : decode cX2_memberOf 90 = .ok (.getfield 62, 3) := by decide +kernel
theorem dX2_memberOf_93 : decode cX2_memberOf 93 = .ok (.istore 5, 2) := by decide +kernel
theorem dX2_memberOf_95 : decode cX2_memberOf 95 = .ok (.iload_n 2, 1) := by decide +kernel
theorem dX2_memberOf_96 : decode cX2_memberOf 96 = .ok (.bipush 9, 2) := by decide +kernel
theorem dX2_memberOf_98 : decode cX2_memberOf 98 = .ok (.if_icmp .ne 13, 3) := by decide +kernel
theorem dX2_memberOf_101 : decode cX2_memberOf 101 = .ok (.aload_n 0, 1) := by decide +kernel
theorem dX2_memberOf_102 : decode cX2_memberOf 102 = .ok (.getfield 12, 3) := by decide +kernel
theorem dX2_memberOf_105 : decode cX2_memberOf 105 = .ok (.getfield 62, 3) := by decide +kernel
theorem dX2_memberOf_108 : decode cX2_memberOf 108 = .ok (.goto 10, 3) := by decide +kernel
theorem dX2_memberOf_111 : decode cX2_memberOf 111 = .ok (.aload_n 0, 1) := by decide +kernel
theorem dX2_memberOf_112 : decode cX2_memberOf 112 = .ok (.getfield 12, 3) := by decide +kernel
theorem dX2_memberOf_115 : decode cX2_memberOf 115 = .ok (.getfield 59, 3) := by decide +kernel
theorem dX2_memberOf_118 : decode cX2_memberOf 118 = .ok (.istore 6, 2) := by decide +kernel
theorem dX2_memberOf_120 : decode cX2_memberOf 120 = .ok (.iconst 0, 1) := by decide +kernel
theorem dX2_memberOf_121 : decode cX2_memberOf 121 = .ok (.istore 7, 2) := by decide +kernel
theorem dX2_memberOf_123 : decode cX2_memberOf 123 = .ok (.iload 7, 2) := by decide +kernel
theorem dX2_memberOf_125 : decode cX2_memberOf 125 = .ok (.iload 6, 2) := by decide +kernel
theorem dX2_memberOf_127 : decode cX2_memberOf 127 = .ok (.if_icmp .ge 74, 3) := by decide +kernel
theorem dX2_memberOf_130 : decode cX2_memberOf 130 = .ok (.aload_n 0, 1) := by decide +kernel
theorem dX2_memberOf_131 : decode cX2_memberOf 131 = .ok (.getfield 12, 3) := by decide +kernel
theorem dX2_memberOf_134 : decode cX2_memberOf 134 = .ok (.aload_n 0, 1) := by decide +kernel
theorem dX2_memberOf_135 : decode cX2_memberOf 135 = .ok (.getfield 12, 3) := by decide +kernel
theorem dX2_memberOf_138 : decode cX2_memberOf 138 = .ok (.iload 5, 2) := by decide +kernel
theorem dX2_memberOf_140 : decode cX2_memberOf 140 = .ok (.iload 7, 2) := by decide +kernel
theorem dX2_memberOf_142 : decode cX2_memberOf 142 = .ok (.iadd, 1) := by decide +kernel
theorem dX2_memberOf_143 : decode cX2_memberOf 143 = .ok (.invokevirtual 267, 3) := by decide +kernel
theorem dX2_memberOf_146 : decode cX2_memberOf 146 = .ok (.aload_n 0, 1) := by decide +kernel
theorem dX2_memberOf_147 : decode cX2_memberOf 147 = .ok (.getfield 12, 3) := by decide +kernel
theorem dX2_memberOf_150 : decode cX2_memberOf 150 = .ok (.iload 4, 2) := by decide +kernel
theorem dX2_memberOf_152 : decode cX2_memberOf 152 = .ok (.invokevirtual 247, 3) := by decide +kernel
theorem dX2_memberOf_155 : decode cX2_memberOf 155 = .ok (.invokevirtual 261, 3) := by decide +kernel
theorem dX2_memberOf_158 : decode cX2_memberOf 158 = .ok (.ifCond .eq 37, 3) := by decide +kernel
theorem dX2_memberOf_161 : decode cX2_memberOf 161 = .ok (.aload_n 0, 1) := by decide +kernel
theorem dX2_memberOf_162 : decode cX2_memberOf 162 = .ok (.getfield 12, 3) := by decide +kernel
theorem dX2_memberOf_165 : decode cX2_memberOf 165 = .ok (.aload_n 0, 1) := by decide +kernel
theorem dX2_memberOf_166 : decode cX2_memberOf 166 = .ok (.getfield 12, 3) := by decide +kernel
theorem dX2_memberOf_169 : decode cX2_memberOf 169 = .ok (.iload 5, 2) := by decide +kernel
theorem dX2_memberOf_171 : decode cX2_memberOf 171 = .ok (.iload 7, 2) := by decide +kernel
theorem dX2_memberOf_173 : decode cX2_memberOf 173 = .ok (.iadd, 1) := by decide +kernel
theorem dX2_memberOf_174 : decode cX2_memberOf 174 = .ok (.invokevirtual 65, 3) := by decide +kernel
theorem dX2_memberOf_177 : decode cX2_memberOf 177 = .ok (.aload_n 0, 1) := by decide +kernel
theorem dX2_memberOf_178 : decode cX2_memberOf 178 = .ok (.getfield 12, 3) := by decide +kernel
theorem dX2_memberOf_181 : decode cX2_memberOf 181 = .ok (.iload 4, 2) := by decide +kernel
theorem dX2_memberOf_183 : decode cX2_memberOf 183 = .ok (.invokevirtual 264, 3) := by decide +kernel
theorem dX2_memberOf_186 : decode cX2_memberOf 186 = .ok (.invokevirtual 261, 3) := by decide +kernel
theorem dX2_memberOf_189 : decode cX2_memberOf 189 = .ok (.ifCond .eq 6, 3) := by decide +kernel
theorem dX2_memberOf_192 : decode cX2_memberOf 192 = .ok (.iload 7, 2) := by decide +kernel
theorem dX2_memberOf_194 : decode cX2_memberOf 194 = .ok (.ireturn, 1) := by decide +kernel
theorem dX2_memberOf_195 : decode cX2_memberOf 195 = .ok (.iinc 7 1, 3) := by decide +kernel
theorem dX2_memberOf_198 : decode cX2_memberOf 198 = .ok (.goto (-75), 3) := by decide +kernel
theorem dX2_memberOf_201 : decode cX2_memberOf 201 = .ok (.iconst (-1), 1) := by decide +kernel
theorem dX2_memberOf_202 : decode cX2_memberOf 202 = .ok (.ireturn, 1) := by decide +kernel
theorem dX2_numberInstructions_0 : decode cX2_numberInstructions 0 = .ok (.aload_n 0, 1) := by decide +kernel
theorem dX2_numberInstructions_1 : decode cX2_numberInstructions 1 = .ok (.getfield 18, 3) := by decide +kernel
theorem dX2_numberInstructions_4 : decode cX2_numberInstructions 4 = .ok (.iconst (-1), 1) := by decide +kernel
theorem dX2_numberInstructions_5 : decode cX2_numberInstructions 5 = .ok (.invokestatic 210, 3) := by decide +kernel
theorem dX2_numberInstructions_8 : decode cX2_numberInstructions 8 = .ok (.aload_n 0, 1) := by decide +kernel
theorem dX2_numberInstructions_9 : decode cX2_numberInstructions 9 = .ok (.iconst 0, 1) := by decide +kernel
theorem dX2_numberInstructions_10 : decode cX2_numberInstructions 10 = .ok (.putfield 216, 3) := by decide +kernel
theorem dX2_numberInstructions_13 : decode cX2_numberInstructions 13 = .ok (.iconst 0, 1) := by decide +kernel
theorem dX2_numberInstructions_14 : decode cX2_numberInstructions 14 = .ok (.istore_n 1, 1) := by decide +kernel
theorem dX2_numberInstructions_15 : decode cX2_numberInstructions 15 = .ok (.iload_n 1, 1) := by decide +kernel
theorem dX2_numberInstructions_16 : decode cX2_numberInstructions 16 = .ok (.aload_n 0, 1) := by decide +kernel
theorem dX2_numberInstructions_17 : decode cX2_numberInstructions 17 = .ok (.getfield 117, 3) := by decide +kernel
theorem dX2_numberInstructions_20 : decode cX2_numberInstructions 20 = .ok (.if_icmp .ge 47, 3) := by decide +kernel
theorem dX2_numberInstructions_23 : decode cX2_numberInstructions 23 = .ok (.iload_n 1, 1) := by decide +kernel
theorem dX2_numberInstructions_24 : decode cX2_numberInstructions 24 = .ok (.aload_n 0, 1) := by decide +kernel
theorem dX2_numberInstructions_25 : decode cX2_numberInstructions 25 = .ok (.getfield 18, 3) := by decide +kernel
theorem dX2_numberInstructions_28 : decode cX2_numberInstructions 28 = .ok (.arraylength, 1) := by decide +kernel
theorem dX2_numberInstructions_29 : decode cX2_numberInstructions 29 = .ok (.if_icmp .ge 38, 3) := by decide +kernel
theorem dX2_numberInstructions_32 : decode cX2_numberInstructions 32 = .ok (.aload_n 0, 1) := by decide +kernel
theorem dX2_numberInstructions_33 : decode cX2_numberInstructions 33 = .ok (.getfield 18, 3) := by decide +kernel
theorem dX2_numberInstructions_36 : decode cX2_numberInstructions 36 = .ok (.iload_n 1, 1) := by decide +kernel
theorem dX2_numberInstructions_37 : decode cX2_numberInstructions 37 = .ok (.aload_n 0, 1) := by decide +kernel
theorem dX2_numberInstructions_38 : decode cX2_numberInstructions 38 = .ok (.getfield 216, 3) := by decide +kernel
theorem dX2_numberInstructions_41 : decode cX2_numberInstructions 41 = .ok (.iastore, 1) := by decide +kernel
theorem dX2_numberInstructions_42 : decode cX2_numberInstructions 42 = .ok (.aload_n 0, 1) := by decide +kernel
theorem dX2_numberInstructions_43 : decode cX2_numberInstructions 43 = .ok (.dup, 1) := by decide +kernel
theorem dX2_numberInstructions_44 : decode cX2_numberInstructions 44 = .ok (.getfield 216, 3) := by decide +kernel
theorem dX2_numberInstructions_47 : decode cX2_numberInstructions 47 = .ok (.iconst 1, 1) := by decide +kernel
theorem dX2_numberInstructions_48 : decode cX2_numberInstructions 48 = .ok (.iadd, 1) := by decide +kernel
theorem dX2_numberInstructions_49 : decode cX2_numberInstructions 49 = .ok (.putfield 216, 3) := by decide +kernel
theorem dX2_numberInstructions_52 : decode cX2_numberInstructions 52 = .ok (.iload_n 1, 1) := by decide +kernel
theorem dX2_numberInstructions_53 : decode cX2_numberInstructions 53 = .ok (.iconst 1, 1) := by decide +kernel
theorem dX2_numberInstructions_54 : decode cX2_numberInstructions 54 = .ok (.aload_n 0, 1) := by decide +kernel
theorem dX2_numberInstructions_55 : decode cX2_numberInstructions 55 = .ok (.iload_n 1, 1) := by decide +kernel
theorem dX2_numberInstructions_56 : decode cX2_numberInstructions 56 = .ok (.invokevirtual 133, 3) := by decide +kernel
theorem dX2_numberInstructions_59 : decode cX2_numberInstructions 59 = .ok (.invokestatic 204, 3) := by decide +kernel
theorem dX2_numberInstructions_62 : decode cX2_numberInstructions 62 = .ok (.iadd, 1) := by decide +kernel
theorem dX2_numberInstructions_63 : decode cX2_numberInstructions 63 = .ok (.istore_n 1, 1) := by decide +kernel
theorem dX2_numberInstructions_64 : decode cX2_numberInstructions 64 = .ok (.goto (-49), 3) := by decide +kernel
theorem dX2_numberInstructions_67 : decode cX2_numberInstructions 67 = .ok (.aload_n 0, 1) := by decide +kernel
theorem dX2_numberInstructions_68 : decode cX2_numberInstructions 68 = .ok (.getfield 117, 3) := by decide +kernel
theorem dX2_numberInstructions_71 : decode cX2_numberInstructions 71 = .ok (.ifCond .lt 28, 3) := by decide +kernel
theorem dX2_numberInstructions_74 : decode cX2_numberInstructions 74 = .ok (.aload_n 0, 1) := by decide +kernel
theorem dX2_numberInstructions_75 : decode cX2_numberInstructions 75 = .ok (.getfield 117, 3) := by decide +kernel
theorem dX2_numberInstructions_78 : decode cX2_numberInstructions 78 = .ok (.aload_n 0, 1) := by decide +kernel
theorem dX2_numberInstructions_79 : decode cX2_numberInstructions 79 = .ok (.getfield 18, 3) := by decide +kernel
theorem dX2_numberInstructions_82 : decode cX2_numberInstructions 82 = .ok (.arraylength, 1) := by decide +kernel
theorem dX2_numberInstructions_83 : decode cX2_numberInstructions 83 = .ok (.if_icmp .ge 16, 3) := by decide +kernel
theorem dX2_numberInstructions_86 : decode cX2_numberInstructions 86 = .ok (.aload_n 0, 1) := by decide +kernel
theorem dX2_numberInstructions_87 : decode cX2_numberInstructions 87 = .ok (.getfield 18, 3) := by decide +kernel
theorem dX2_numberInstructions_90 : decode cX2_numberInstructions 90 = .ok (.aload_n 0, 1) := by decide +kernel
theorem dX2_numberInstructions_91 : decode cX2_numberInstructions 91 = .ok (.getfield 117, 3) := by decide +kernel
theorem dX2_numberInstructions_94 : decode cX2_numberInstructions 94 = .ok (.aload_n 0, 1) := by decide +kernel
theorem dX2_numberInstructions_95 : decode cX2_numberInstructions 95 = .ok (.getfield 216, 3) := by decide +kernel
theorem dX2_numberInstructions_98 : decode cX2_numberInstructions 98 = .ok (.iastore, 1) := by decide +kernel
theorem dX2_numberInstructions_99 : decode cX2_numberInstructions 99 = .ok (.return_, 1) := by decide +kernel
theorem dX2_numberOf_0 : decode cX2_numberOf 0 = .ok (.lload_n 1, 1) := by decide +kernel
theorem dX2_numberOf_1 : decode cX2_numberOf 1 = .ok (.lconst 0, 1) := by decide +kernel
theorem dX2_numberOf_2 : decode cX2_numberOf 2 = .ok (.lcmp, 1) := by decide +kernel
theorem dX2_numberOf_3 : decode cX2_numberOf 3 = .ok (.ifCond .lt 24, 3) := by decide +kernel
theorem dX2_numberOf_6 : decode cX2_numberOf 6 = .ok (.lload_n 1, 1) := by decide +kernel
theorem dX2_numberOf_7 : decode cX2_numberOf 7 = .ok (.aload_n 0, 1) := by decide +kernel
theorem dX2_numberOf_8 : decode cX2_numberOf 8 = .ok (.getfield 117, 3) := by decide +kernel
theorem dX2_numberOf_11 : decode cX2_numberOf 11 = .ok (.i2l, 1) := by decide +kernel
theorem dX2_numberOf_12 : decode cX2_numberOf 12 = .ok (.lcmp, 1) := by decide +kernel
theorem dX2_numberOf_13 : decode cX2_numberOf 13 = .ok (.ifCond .gt 14, 3) := by decide +kernel
theorem dX2_numberOf_16 : decode cX2_numberOf 16 = .ok (.lload_n 1, 1) := by decide +kernel
theorem dX2_numberOf_17 : decode cX2_numberOf 17 = .ok (.aload_n 0, 1) := by decide +kernel
theorem dX2_numberOf_18 : decode cX2_numberOf 18 = .ok (.getfield 18, 3) := by decide +kernel
theorem dX2_numberOf_21 : decode cX2_numberOf 21 = .ok (.arraylength, 1) := by decide +kernel
theorem dX2_numberOf_22 : decode cX2_numberOf 22 = .ok (.i2l, 1) := by decide +kernel
theorem dX2_numberOf_23 : decode cX2_numberOf 23 = .ok (.lcmp, 1) := by decide +kernel
theorem dX2_numberOf_24 : decode cX2_numberOf 24 = .ok (.ifCond .lt 7, 3) := by decide +kernel
theorem dX2_numberOf_27 : decode cX2_numberOf 27 = .ok (.iconst (-1), 1) := by decide +kernel
theorem dX2_numberOf_28 : decode cX2_numberOf 28 = .ok (.goto 10, 3) := by decide +kernel
theorem dX2_numberOf_31 : decode cX2_numberOf 31 = .ok (.aload_n 0, 1) := by decide +kernel
theorem dX2_numberOf_32 : decode cX2_numberOf 32 = .ok (.getfield 18, 3) := by decide +kernel
theorem dX2_numberOf_35 : decode cX2_numberOf 35 = .ok (.lload_n 1, 1) := by decide +kernel
theorem dX2_numberOf_36 : decode cX2_numberOf 36 = .ok (.l2i, 1) := by decide +kernel
theorem dX2_numberOf_37 : decode cX2_numberOf 37 = .ok (.iaload, 1) := by decide +kernel
theorem dX2_numberOf_38 : decode cX2_numberOf 38 = .ok (.ireturn, 1) := by decide +kernel
theorem dX2_numbersOf_0 : decode cX2_numbersOf 0 = .ok (.iload_n 0, 1) := by decide +kernel
theorem dX2_numbersOf_1 : decode cX2_numbersOf 1 = .ok (.iconst 4, 1) := by decide +kernel
theorem dX2_numbersOf_2 : decode cX2_numbersOf 2 = .ok (.iadd, 1) := by decide +kernel
theorem dX2_numbersOf_3 : decode cX2_numbersOf 3 = .ok (.bipush (-4), 2) := by decide +kernel
theorem dX2_numbersOf_5 : decode cX2_numbersOf 5 = .ok (.iand, 1) := by decide +kernel
theorem dX2_numbersOf_6 : decode cX2_numbersOf 6 = .ok (.ireturn, 1) := by decide +kernel
theorem dX2_pointersHold_0 : decode cX2_pointersHold 0 = .ok (.iconst 0, 1) := by decide +kernel
theorem dX2_pointersHold_1 : decode cX2_pointersHold 1 = .ok (.istore_n 1, 1) := by decide +kernel
theorem dX2_pointersHold_2 : decode cX2_pointersHold 2 = .ok (.iload_n 1, 1) := by decide +kernel
theorem dX2_pointersHold_3 : decode cX2_pointersHold 3 = .ok (.aload_n 0, 1) := by decide +kernel
theorem dX2_pointersHold_4 : decode cX2_pointersHold 4 = .ok (.getfield 12, 3) := by decide +kernel
theorem dX2_pointersHold_7 : decode cX2_pointersHold 7 = .ok (.getfield 59, 3) := by decide +kernel
theorem dX2_pointersHold_10 : decode cX2_pointersHold 10 = .ok (.if_icmp .ge 122, 3) := by decide +kernel
theorem dX2_pointersHold_13 : decode cX2_pointersHold 13 = .ok (.aload_n 0, 1) := by decide +kernel
theorem dX2_pointersHold_14 : decode cX2_pointersHold 14 = .ok (.iload_n 1, 1) := by decide +kernel
theorem dX2_pointersHold_15 : decode cX2_pointersHold 15 = .ok (.invokevirtual 129, 3) := by decide +kernel
theorem dX2_pointersHold_18 : decode cX2_pointersHold 18 = .ok (.aload_n 0, 1) := by decide +kernel
theorem dX2_pointersHold_19 : decode cX2_pointersHold 19 = .ok (.invokevirtual 195, 3) := by decide +kernel
theorem dX2_pointersHold_22 : decode cX2_pointersHold 22 = .ok (.iconst 0, 1) := by decide +kernel
theorem dX2_pointersHold_23 : decode cX2_pointersHold 23 = .ok (.istore_n 2, 1) := by decide +kernel
theorem dX2_pointersHold_24 : decode cX2_pointersHold 24 = .ok (.iload_n 2, 1) := by decide +kernel
theorem dX2_pointersHold_25 : decode cX2_pointersHold 25 = .ok (.aload_n 0, 1) := by decide +kernel
theorem dX2_pointersHold_26 : decode cX2_pointersHold 26 = .ok (.getfield 117, 3) := by decide +kernel
theorem dX2_pointersHold_29 : decode cX2_pointersHold 29 = .ok (.if_icmp .ge 46, 3) := by decide +kernel
theorem dX2_pointersHold_32 : decode cX2_pointersHold 32 = .ok (.aload_n 0, 1) := by decide +kernel
theorem dX2_pointersHold_33 : decode cX2_pointersHold 33 = .ok (.iload_n 2, 1) := by decide +kernel
theorem dX2_pointersHold_34 : decode cX2_pointersHold 34 = .ok (.invokevirtual 198, 3) := by decide +kernel
theorem dX2_pointersHold_37 : decode cX2_pointersHold 37 = .ok (.aload_n 0, 1) := by decide +kernel
theorem dX2_pointersHold_38 : decode cX2_pointersHold 38 = .ok (.invokevirtual 201, 3) := by decide +kernel
theorem dX2_pointersHold_41 : decode cX2_pointersHold 41 = .ok (.ifCond .ne 19, 3) := by decide +kernel
theorem dX2_pointersHold_44 : decode cX2_pointersHold 44 = .ok (.aload_n 0, 1) := by decide +kernel
theorem dX2_pointersHold_45 : decode cX2_pointersHold 45 = .ok (.getfield 12, 3) := by decide +kernel
theorem dX2_pointersHold_48 : decode cX2_pointersHold 48 = .ok (.bipush 16, 2) := by decide +kernel
theorem dX2_pointersHold_50 : decode cX2_pointersHold 50 = .ok (.aload_n 0, 1) := by decide +kernel
theorem dX2_pointersHold_51 : decode cX2_pointersHold 51 = .ok (.getfield 120, 3) := by decide +kernel
theorem dX2_pointersHold_54 : decode cX2_pointersHold 54 = .ok (.iload_n 2, 1) := by decide +kernel
theorem dX2_pointersHold_55 : decode cX2_pointersHold 55 = .ok (.iadd, 1) := by decide +kernel
theorem dX2_pointersHold_56 : decode cX2_pointersHold 56 = .ok (.invokevirtual 86, 3) := by decide +kernel
theorem dX2_pointersHold_59 : decode cX2_pointersHold 59 = .ok (.ireturn, 1) := by decide +kernel
theorem dX2_pointersHold_60 : decode cX2_pointersHold 60 = .ok (.iload_n 2, 1) := by decide +kernel
theorem dX2_pointersHold_61 : decode cX2_pointersHold 61 = .ok (.iconst 1, 1) := by decide +kernel
theorem dX2_pointersHold_62 : decode cX2_pointersHold 62 = .ok (.aload_n 0, 1) := by decide +kernel
theorem dX2_pointersHold_63 : decode cX2_pointersHold 63 = .ok (.iload_n 2, 1) := by decide +kernel
theorem dX2_pointersHold_64 : decode cX2_pointersHold 64 = .ok (.invokevirtual 133, 3) := by decide +kernel
theorem dX2_pointersHold_67 : decode cX2_pointersHold 67 = .ok (.invokestatic 204, 3) := by decide +kernel
theorem dX2_pointersHold_70 : decode cX2_pointersHold 70 = .ok (.iadd, 1) := by decide +kernel
theorem dX2_pointersHold_71 : decode cX2_pointersHold 71 = .ok (.istore_n 2, 1) := by decide +kernel
theorem dX2_pointersHold_72 : decode cX2_pointersHold 72 = .ok (.goto (-48), 3) := by decide +kernel
theorem dX2_pointersHold_75 : decode cX2_pointersHold 75 = .ok (.iconst 0, 1) := by decide +kernel
theorem dX2_pointersHold_76 : decode cX2_pointersHold 76 = .ok (.istore_n 2, 1) := by decide +kernel
theorem dX2_pointersHold_77 : decode cX2_pointersHold 77 = .ok (.iload_n 2, 1) := by decide +kernel
theorem dX2_pointersHold_78 : decode cX2_pointersHold 78 = .ok (.aload_n 0, 1) := by decide +kernel
theorem dX2_pointersHold_79 : decode cX2_pointersHold 79 = .ok (.getfield 126, 3) := by decide +kernel
theorem dX2_pointersHold_82 : decode cX2_pointersHold 82 = .ok (.if_icmp .ge 44, 3) := by decide +kernel
theorem dX2_pointersHold_85 : decode cX2_pointersHold 85 = .ok (.aload_n 0, 1) := by decide +kernel
theorem dX2_pointersHold_86 : decode cX2_pointersHold 86 = .ok (.aload_n 0, 1) := by decide +kernel
theorem dX2_pointersHold_87 : decode cX2_pointersHold 87 = .ok (.getfield 123, 3) := by decide +kernel
theorem dX2_pointersHold_90 : decode cX2_pointersHold 90 = .ok (.bipush 8, 2) := by decide +kernel
theorem dX2_pointersHold_92 : decode cX2_pointersHold 92 = .ok (.iload_n 2, 1) := by decide +kernel
theorem dX2_pointersHold_93 : decode cX2_pointersHold 93 = .ok (.imul, 1) := by decide +kernel
theorem dX2_pointersHold_94 : decode cX2_pointersHold 94 = .ok (.iadd, 1) := by decide +kernel
theorem dX2_pointersHold_95 : decode cX2_pointersHold 95 = .ok (.invokevirtual 207, 3) := by decide +kernel
theorem dX2_pointersHold_98 : decode cX2_pointersHold 98 = .ok (.ifCond .ne 22, 3) := by decide +kernel
theorem dX2_pointersHold_101 : decode cX2_pointersHold 101 = .ok (.aload_n 0, 1) := by decide +kernel
theorem dX2_pointersHold_102 : decode cX2_pointersHold 102 = .ok (.getfield 12, 3) := by decide +kernel
theorem dX2_pointersHold_105 : decode cX2_pointersHold 105 = .ok (.bipush 16, 2) := by decide +kernel
theorem dX2_pointersHold_107 : decode cX2_pointersHold 107 = .ok (.aload_n 0, 1) := by decide +kernel
theorem dX2_pointersHold_108 : decode cX2_pointersHold 108 = .ok (.getfield 123, 3) := by decide +kernel
theorem dX2_pointersHold_111 : decode cX2_pointersHold 111 = .ok (.bipush 8, 2) := by decide +kernel
theorem dX2_pointersHold_113 : decode cX2_pointersHold 113 = .ok (.iload_n 2, 1) := by decide +kernel

theorem dX11_begin_83 : decode cX11_begin 83 = .ok (.getfield 56, 3) := by decide +kernel
theorem dX11_begin_86 : decode cX11_begin 86 = .ok (.getfield 102, 3) := by decide +kernel
theorem dX11_begin_89 : decode cX11_begin 89 = .ok (.invokevirtual 91, 3) := by decide +kernel
theorem dX11_begin_92 : decode cX11_begin 92 = .ok (.invokevirtual 95, 3) := by decide +kernel
theorem dX11_begin_95 : decode cX11_begin 95 = .ok (.istore_n 3, 1) := by decide +kernel
theorem dX11_begin_96 : decode cX11_begin 96 = .ok (.aload_n 0, 1) := by decide +kernel
theorem dX11_begin_97 : decode cX11_begin 97 = .ok (.getfield 18, 3) := by decide +kernel
theorem dX11_begin_100 : decode cX11_begin 100 = .ok (.bipush 33, 2) := by decide +kernel
theorem dX11_begin_102 : decode cX11_begin 102 = .ok (.invokevirtual 105, 3) := by decide +kernel
theorem dX11_begin_105 : decode cX11_begin 105 = .ok (.aload_n 0, 1) := by decide +kernel
theorem dX11_begin_106 : decode cX11_begin 106 = .ok (.getfield 18, 3) := by decide +kernel
theorem dX11_begin_109 : decode cX11_begin 109 = .ok (.aload_n 0, 1) := by decide +kernel
theorem dX11_begin_110 : decode cX11_begin 110 = .ok (.getfield 99, 3) := by decide +kernel
theorem dX11_begin_113 : decode cX11_begin 113 = .ok (.invokevirtual 105, 3) := by decide +kernel
theorem dX11_begin_116 : decode cX11_begin 116 = .ok (.aload_n 0, 1) := by decide +kernel
theorem dX11_begin_117 : decode cX11_begin 117 = .ok (.getfield 18, 3) := by decide +kernel
theorem dX11_begin_120 : decode cX11_begin 120 = .ok (.iload_n 3, 1) := by decide +kernel
theorem dX11_begin_121 : decode cX11_begin 121 = .ok (.invokevirtual 105, 3) := by decide +kernel
theorem dX11_begin_124 : decode cX11_begin 124 = .ok (.aload_n 0, 1) := by decide +kernel
theorem dX11_begin_125 : decode cX11_begin 125 = .ok (.getfield 18, 3) := by decide +kernel
theorem dX11_begin_128 : decode cX11_begin 128 = .ok (.iconst 0, 1) := by decide +kernel
theorem dX11_begin_129 : decode cX11_begin 129 = .ok (.invokevirtual 105, 3) := by decide +kernel
theorem dX11_begin_132 : decode cX11_begin 132 = .ok (.aload_n 0, 1) := by decide +kernel
theorem dX11_begin_133 : decode cX11_begin 133 = .ok (.getfield 56, 3) := by decide +kernel
theorem dX11_begin_136 : decode cX11_begin 136 = .ok (.getfield 109, 3) := by decide +kernel
theorem dX11_begin_139 : decode cX11_begin 139 = .ok (.iload_n 2, 1) := by decide +kernel
theorem dX11_begin_140 : decode cX11_begin 140 = .ok (.iadd, 1) := by decide +kernel
theorem dX11_begin_141 : decode cX11_begin 141 = .ok (.istore 4, 2) := by decide +kernel
theorem dX11_begin_143 : decode cX11_begin 143 = .ok (.aload_n 0, 1) := by decide +kernel
theorem dX11_begin_144 : decode cX11_begin 144 = .ok (.getfield 18, 3) := by decide +kernel
theorem dX11_begin_147 : decode cX11_begin 147 = .ok (.iload 4, 2) := by decide +kernel
theorem dX11_begin_149 : decode cX11_begin 149 = .ok (.invokevirtual 105, 3) := by decide +kernel
theorem dX11_begin_152 : decode cX11_begin 152 = .ok (.iconst 0, 1) := by decide +kernel
theorem dX11_begin_153 : decode cX11_begin 153 = .ok (.istore 5, 2) := by decide +kernel
theorem dX11_begin_155 : decode cX11_begin 155 = .ok (.iload 5, 2) := by decide +kernel
theorem dX11_begin_157 : decode cX11_begin 157 = .ok (.iload 4, 2) := by decide +kernel
theorem dX11_begin_159 : decode cX11_begin 159 = .ok (.if_icmp .ge 134, 3) := by decide +kernel
theorem dX11_begin_162 : decode cX11_begin 162 = .ok (.iload 5, 2) := by decide +kernel
theorem dX11_begin_164 : decode cX11_begin 164 = .ok (.bipush 24, 2) := by decide +kernel
theorem dX11_begin_166 : decode cX11_begin 166 = .ok (.if_icmp .ge 127, 3) := by decide +kernel
theorem dX11_begin_169 : decode cX11_begin 169 = .ok (.iload 5, 2) := by decide +kernel
theorem dX11_begin_171 : decode cX11_begin 171 = .ok (.aload_n 0, 1) := by decide +kernel
theorem dX11_begin_172 : decode cX11_begin 172 = .ok (.getfield 56, 3) := by decide +kernel
theorem dX11_begin_175 : decode cX11_begin 175 = .ok (.getfield 112, 3) := by decide +kernel
theorem dX11_begin_178 : decode cX11_begin 178 = .ok (.arraylength, 1) := by decide +kernel
theorem dX11_begin_179 : decode cX11_begin 179 = .ok (.if_icmp .ge 7, 3) := by decide +kernel
theorem dX11_begin_182 : decode cX11_begin 182 = .ok (.iconst 1, 1) := by decide +kernel
theorem dX11_begin_183 : decode cX11_begin 183 = .ok (.goto 4, 3) := by decide +kernel
theorem dX11_begin_186 : decode cX11_begin 186 = .ok (.iconst 0, 1) := by decide +kernel
theorem dX11_begin_187 : decode cX11_begin 187 = .ok (.istore 6, 2) := by decide +kernel
theorem dX11_begin_189 : decode cX11_begin 189 = .ok (.aload_n 0, 1) := by decide +kernel
theorem dX11_begin_190 : decode cX11_begin 190 = .ok (.getfield 31, 3) := by decide +kernel
theorem dX11_begin_193 : decode cX11_begin 193 = .ok (.iload 5, 2) := by decide +kernel
theorem dX11_begin_195 : decode cX11_begin 195 = .ok (.iload 6, 2) := by decide +kernel
theorem dX11_begin_197 : decode cX11_begin 197 = .ok (.ifCond .eq 20, 3) := by decide +kernel
theorem dX11_begin_200 : decode cX11_begin 200 = .ok (.aload_n 0, 1) := by decide +kernel
theorem dX11_begin_201 : decode cX11_begin 201 = .ok (.aload_n 0, 1) := by decide +kernel
theorem dX11_begin_202 : decode cX11_begin 202 = .ok (.getfield 56, 3) := by decide +kernel
theorem dX11_begin_205 : decode cX11_begin 205 = .ok (.getfield 112, 3) := by decide +kernel
theorem dX11_begin_208 : decode cX11_begin 208 = .ok (.iload 5, 2) := by decide +kernel
theorem dX11_begin_210 : decode cX11_begin 210 = .ok (.iaload, 1) := by decide +kernel
theorem dX11_begin_211 : decode cX11_begin 211 = .ok (.invokevirtual 91, 3) := by decide +kernel
theorem dX11_begin_214 : decode cX11_begin 214 = .ok (.goto 18, 3) := by decide +kernel
theorem dX11_begin_217 : decode cX11_begin 217 = .ok (.aload_n 0, 1) := by decide +kernel
theorem dX11_begin_218 : decode cX11_begin 218 = .ok (.iload 5, 2) := by decide +kernel
theorem dX11_begin_220 : decode cX11_begin 220 = .ok (.aload_n 0, 1) := by decide +kernel
theorem dX11_begin_221 : decode cX11_begin 221 = .ok (.getfield 56, 3) := by decide +kernel
theorem dX11_begin_224 : decode cX11_begin 224 = .ok (.getfield 112, 3) := by decide +kernel
theorem dX11_begin_227 : decode cX11_begin 227 = .ok (.arraylength, 1) := by decide +kernel
theorem dX11_begin_228 : decode cX11_begin 228 = .ok (.isub, 1) := by decide +kernel
theorem dX11_begin_229 : decode cX11_begin 229 = .ok (.invokevirtual 113, 3) := by decide +kernel
theorem dX11_begin_232 : decode cX11_begin 232 = .ok (.iastore, 1) := by decide +kernel
theorem dX11_begin_233 : decode cX11_begin 233 = .ok (.aload_n 0, 1) := by decide +kernel
theorem dX11_begin_234 : decode cX11_begin 234 = .ok (.getfield 34, 3) := by decide +kernel
theorem dX11_begin_237 : decode cX11_begin 237 = .ok (.iload 5, 2) := by decide +kernel
theorem dX11_begin_239 : decode cX11_begin 239 = .ok (.iload 6, 2) := by decide +kernel
theorem dX11_begin_241 : decode cX11_begin 241 = .ok (.ifCond .eq 20, 3) := by decide +kernel
theorem dX11_begin_244 : decode cX11_begin 244 = .ok (.aload_n 0, 1) := by decide +kernel
theorem dX11_begin_245 : decode cX11_begin 245 = .ok (.aload_n 0, 1) := by decide +kernel
theorem dX11_begin_246 : decode cX11_begin 246 = .ok (.getfield 56, 3) := by decide +kernel
theorem dX11_begin_249 : decode cX11_begin 249 = .ok (.getfield 116, 3) := by decide +kernel
theorem dX11_begin_252 : decode cX11_begin 252 = .ok (.iload 5, 2) := by decide +kernel
theorem dX11_begin_254 : decode cX11_begin 254 = .ok (.iaload, 1) := by decide +kernel
theorem dX11_begin_255 : decode cX11_begin 255 = .ok (.invokevirtual 91, 3) := by decide +kernel
theorem dX11_begin_258 : decode cX11_begin 258 = .ok (.goto 9, 3) := by decide +kernel
theorem dX11_begin_261 : decode cX11_begin 261 = .ok (.aload_n 0, 1) := by decide +kernel
theorem dX11_begin_262 : decode cX11_begin 262 = .ok (.ldc 117, 2) := by decide +kernel
theorem dX11_begin_264 : decode cX11_begin 264 = .ok (.invokevirtual 79, 3) := by decide +kernel
theorem dX11_begin_267 : decode cX11_begin 267 = .ok (.iastore, 1) := by decide +kernel
theorem dX11_begin_268 : decode cX11_begin 268 = .ok (.aload_n 0, 1) := by decide +kernel
theorem dX11_begin_269 : decode cX11_begin 269 = .ok (.aload_n 0, 1) := by decide +kernel
theorem dX11_begin_270 : decode cX11_begin 270 = .ok (.getfield 31, 3) := by decide +kernel
theorem dX11_begin_273 : decode cX11_begin 273 = .ok (.iload 5, 2) := by decide +kernel
theorem dX11_begin_275 : decode cX11_begin 275 = .ok (.iaload, 1) := by decide +kernel
theorem dX11_begin_276 : decode cX11_begin 276 = .ok (.aload_n 0, 1) := by decide +kernel
theorem dX11_begin_277 : decode cX11_begin 277 = .ok (.getfield 34, 3) := by decide +kernel
theorem dX11_begin_280 : decode cX11_begin 280 = .ok (.iload 5, 2) := by decide +kernel
theorem dX11_begin_282 : decode cX11_begin 282 = .ok (.iaload, 1) := by decide +kernel
theorem dX11_begin_283 : decode cX11_begin 283 = .ok (.iconst 0, 1) := by decide +kernel
theorem dX11_begin_284 : decode cX11_begin 284 = .ok (.invokevirtual 119, 3) := by decide +kernel
theorem dX11_begin_287 : decode cX11_begin 287 = .ok (.iinc 5 1, 3) := by decide +kernel
theorem dX11_begin_290 : decode cX11_begin 290 = .ok (.goto (-135), 3) := by decide +kernel
theorem dX11_begin_293 : decode cX11_begin 293 = .ok (.aload_n 0, 1) := by decide +kernel
theorem dX11_begin_294 : decode cX11_begin 294 = .ok (.getfield 18, 3) := by decide +kernel
theorem dX11_begin_297 : decode cX11_begin 297 = .ok (.aload_n 0, 1) := by decide +kernel
theorem dX11_begin_298 : decode cX11_begin 298 = .ok (.getfield 56, 3) := by decide +kernel
theorem dX11_begin_301 : decode cX11_begin 301 = .ok (.getfield 123, 3) := by decide +kernel
theorem dX11_begin_304 : decode cX11_begin 304 = .ok (.invokevirtual 105, 3) := by decide +kernel
theorem dX11_begin_307 : decode cX11_begin 307 = .ok (.return_, 1) := by decide +kernel
theorem dX11_classOf_0 : decode cX11_classOf 0 = .ok (.iload_n 1, 1) := by decide +kernel
theorem dX11_classOf_1 : decode cX11_classOf 1 = .ok (.iconst (-1), 1) := by decide +kernel
theorem dX11_classOf_2 : decode cX11_classOf 2 = .ok (.if_icmp .ne 7, 3) := by decide +kernel
theorem dX11_classOf_5 : decode cX11_classOf 5 = .ok (.iconst 0, 1) := by decide +kernel
theorem dX11_classOf_6 : decode cX11_classOf 6 = .ok (.goto 17, 3) := by decide +kernel
theorem dX11_classOf_9 : decode cX11_classOf 9 = .ok (.aload_n 0, 1) := by decide +kernel
theorem dX11_classOf_10 : decode cX11_classOf 10 = .ok (.bipush 7, 2) := by decide +kernel
theorem dX11_classOf_12 : decode cX11_classOf 12 = .ok (.aload_n 0, 1) := by decide +kernel
theorem dX11_classOf_13 : decode cX11_classOf 13 = .ok (.iload_n 1, 1) := by decide +kernel
theorem dX11_classOf_14 : decode cX11_classOf 14 = .ok (.invokestatic 228, 3) := by decide +kernel
theorem dX11_classOf_17 : decode cX11_classOf 17 = .ok (.invokevirtual 79, 3) := by decide +kernel
theorem dX11_classOf_20 : decode cX11_classOf 20 = .ok (.invokevirtual 95, 3) := by decide +kernel
theorem dX11_classOf_23 : decode cX11_classOf 23 = .ok (.ireturn, 1) := by decide +kernel
theorem dX11_counterEntry_0 : decode cX11_counterEntry 0 = .ok (.aload_n 0, 1) := by decide +kernel
theorem dX11_counterEntry_1 : decode cX11_counterEntry 1 = .ok (.iconst 1, 1) := by decide +kernel
theorem dX11_counterEntry_2 : decode cX11_counterEntry 2 = .ok (.invokevirtual 147, 3) := by decide +kernel
theorem dX11_counterEntry_5 : decode cX11_counterEntry 5 = .ok (.aload_n 0, 1) := by decide +kernel
theorem dX11_counterEntry_6 : decode cX11_counterEntry 6 = .ok (.getfield 21, 3) := by decide +kernel
theorem dX11_counterEntry_9 : decode cX11_counterEntry 9 = .ok (.iload_n 1, 1) := by decide +kernel
theorem dX11_counterEntry_10 : decode cX11_counterEntry 10 = .ok (.bipush 10, 2) := by decide +kernel
theorem dX11_counterEntry_12 : decode cX11_counterEntry 12 = .ok (.if_icmp .ge 7, 3) := by decide +kernel
theorem dX11_counterEntry_15 : decode cX11_counterEntry 15 = .ok (.iconst 2, 1) := by decide +kernel
theorem dX11_counterEntry_16 : decode cX11_counterEntry 16 = .ok (.goto 4, 3) := by decide +kernel
theorem dX11_counterEntry_19 : decode cX11_counterEntry 19 = .ok (.iconst 3, 1) := by decide +kernel
theorem dX11_counterEntry_20 : decode cX11_counterEntry 20 = .ok (.invokevirtual 105, 3) := by decide +kernel
theorem dX11_counterEntry_23 : decode cX11_counterEntry 23 = .ok (.aload_n 0, 1) := by decide +kernel
theorem dX11_counterEntry_24 : decode cX11_counterEntry 24 = .ok (.getfield 21, 3) := by decide +kernel
theorem dX11_counterEntry_27 : decode cX11_counterEntry 27 = .ok (.bipush 99, 2) := by decide +kernel
theorem dX11_counterEntry_29 : decode cX11_counterEntry 29 = .ok (.invokevirtual 129, 3) := by decide +kernel
theorem dX11_counterEntry_32 : decode cX11_counterEntry 32 = .ok (.iload_n 1, 1) := by decide +kernel
theorem dX11_counterEntry_33 : decode cX11_counterEntry 33 = .ok (.bipush 10, 2) := by decide +kernel
theorem dX11_counterEntry_35 : decode cX11_counterEntry 35 = .ok (.if_icmp .lt 17, 3) := by decide +kernel
theorem dX11_counterEntry_38 : decode cX11_counterEntry 38 = .ok (.aload_n 0, 1) := by decide +kernel
theorem dX11_counterEntry_39 : decode cX11_counterEntry 39 = .ok (.getfield 21, 3) := by decide +kernel
theorem dX11_counterEntry_42 : decode cX11_counterEntry 42 = .ok (.bipush 48, 2) := by decide +kernel
theorem dX11_counterEntry_44 : decode cX11_counterEntry 44 = .ok (.iload_n 1, 1) := by decide +kernel
theorem dX11_counterEntry_45 : decode cX11_counterEntry 45 = .ok (.bipush 10, 2) := by decide +kernel
theorem dX11_counterEntry_47 : decode cX11_counterEntry 47 = .ok (.idiv, 1) := by decide +kernel
theorem dX11_counterEntry_48 : decode cX11_counterEntry 48 = .ok (.iadd, 1) := by decide +kernel
theorem dX11_counterEntry_49 : decode cX11_counterEntry 49 = .ok (.invokevirtual 129, 3) := by decide +kernel
theorem dX11_counterEntry_52 : decode cX11_counterEntry 52 = .ok (.aload_n 0, 1) := by decide +kernel

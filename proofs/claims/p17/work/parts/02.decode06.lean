theorem dX11_addMethod_295 : decode cX11_addMethod 295 = .ok (.iload 5, 2) := by decide +kernel
theorem dX11_addMethod_297 : decode cX11_addMethod 297 = .ok (.iaload, 1) := by decide +kernel
theorem dX11_addMethod_298 : decode cX11_addMethod 298 = .ok (.invokevirtual 213, 3) := by decide +kernel
theorem dX11_addMethod_301 : decode cX11_addMethod 301 = .ok (.invokevirtual 105, 3) := by decide +kernel
theorem dX11_addMethod_304 : decode cX11_addMethod 304 = .ok (.aload_n 0, 1) := by decide +kernel
theorem dX11_addMethod_305 : decode cX11_addMethod 305 = .ok (.getfield 18, 3) := by decide +kernel
theorem dX11_addMethod_308 : decode cX11_addMethod 308 = .ok (.aload_n 0, 1) := by decide +kernel
theorem dX11_addMethod_309 : decode cX11_addMethod 309 = .ok (.aload_n 0, 1) := by decide +kernel
theorem dX11_addMethod_310 : decode cX11_addMethod 310 = .ok (.getfield 180, 3) := by decide +kernel
theorem dX11_addMethod_313 : decode cX11_addMethod 313 = .ok (.getfield 222, 3) := by decide +kernel
theorem dX11_addMethod_316 : decode cX11_addMethod 316 = .ok (.iload 5, 2) := by decide +kernel
theorem dX11_addMethod_318 : decode cX11_addMethod 318 = .ok (.iaload, 1) := by decide +kernel
theorem dX11_addMethod_319 : decode cX11_addMethod 319 = .ok (.invokevirtual 225, 3) := by decide +kernel
theorem dX11_addMethod_322 : decode cX11_addMethod 322 = .ok (.invokevirtual 105, 3) := by decide +kernel
theorem dX11_addMethod_325 : decode cX11_addMethod 325 = .ok (.iinc 5 1, 3) := by decide +kernel
theorem dX11_addMethod_328 : decode cX11_addMethod 328 = .ok (.goto (-99), 3) := by decide +kernel
theorem dX11_addMethod_331 : decode cX11_addMethod 331 = .ok (.aload_n 0, 1) := by decide +kernel
theorem dX11_addMethod_332 : decode cX11_addMethod 332 = .ok (.getfield 18, 3) := by decide +kernel
theorem dX11_addMethod_335 : decode cX11_addMethod 335 = .ok (.iconst 0, 1) := by decide +kernel
theorem dX11_addMethod_336 : decode cX11_addMethod 336 = .ok (.invokevirtual 105, 3) := by decide +kernel
theorem dX11_addMethod_339 : decode cX11_addMethod 339 = .ok (.return_, 1) := by decide +kernel
theorem dX11_begin_0 : decode cX11_begin 0 = .ok (.aload_n 0, 1) := by decide +kernel
theorem dX11_begin_1 : decode cX11_begin 1 = .ok (.aload_n 1, 1) := by decide +kernel
theorem dX11_begin_2 : decode cX11_begin 2 = .ok (.putfield 56, 3) := by decide +kernel
theorem dX11_begin_5 : decode cX11_begin 5 = .ok (.aload_n 0, 1) := by decide +kernel
theorem dX11_begin_6 : decode cX11_begin 6 = .ok (.getfield 12, 3) := by decide +kernel
theorem dX11_begin_9 : decode cX11_begin 9 = .ok (.iconst 0, 1) := by decide +kernel
theorem dX11_begin_10 : decode cX11_begin 10 = .ok (.putfield 60, 3) := by decide +kernel
theorem dX11_begin_13 : decode cX11_begin 13 = .ok (.aload_n 0, 1) := by decide +kernel
theorem dX11_begin_14 : decode cX11_begin 14 = .ok (.getfield 18, 3) := by decide +kernel
theorem dX11_begin_17 : decode cX11_begin 17 = .ok (.iconst 0, 1) := by decide +kernel
theorem dX11_begin_18 : decode cX11_begin 18 = .ok (.putfield 60, 3) := by decide +kernel
theorem dX11_begin_21 : decode cX11_begin 21 = .ok (.aload_n 0, 1) := by decide +kernel
theorem dX11_begin_22 : decode cX11_begin 22 = .ok (.iconst 1, 1) := by decide +kernel
theorem dX11_begin_23 : decode cX11_begin 23 = .ok (.putfield 64, 3) := by decide +kernel
theorem dX11_begin_26 : decode cX11_begin 26 = .ok (.aload_n 0, 1) := by decide +kernel
theorem dX11_begin_27 : decode cX11_begin 27 = .ok (.iconst 0, 1) := by decide +kernel
theorem dX11_begin_28 : decode cX11_begin 28 = .ok (.putfield 67, 3) := by decide +kernel
theorem dX11_begin_31 : decode cX11_begin 31 = .ok (.aload_n 0, 1) := by decide +kernel
theorem dX11_begin_32 : decode cX11_begin 32 = .ok (.getfield 37, 3) := by decide +kernel
theorem dX11_begin_35 : decode cX11_begin 35 = .ok (.iconst 0, 1) := by decide +kernel
theorem dX11_begin_36 : decode cX11_begin 36 = .ok (.invokestatic 71, 3) := by decide +kernel
theorem dX11_begin_39 : decode cX11_begin 39 = .ok (.aload_n 0, 1) := by decide +kernel
theorem dX11_begin_40 : decode cX11_begin 40 = .ok (.getfield 40, 3) := by decide +kernel
theorem dX11_begin_43 : decode cX11_begin 43 = .ok (.iconst 0, 1) := by decide +kernel
theorem dX11_begin_44 : decode cX11_begin 44 = .ok (.invokestatic 71, 3) := by decide +kernel
theorem dX11_begin_47 : decode cX11_begin 47 = .ok (.aload_n 0, 1) := by decide +kernel
theorem dX11_begin_48 : decode cX11_begin 48 = .ok (.aload_n 0, 1) := by decide +kernel
theorem dX11_begin_49 : decode cX11_begin 49 = .ok (.ldc 77, 2) := by decide +kernel
theorem dX11_begin_51 : decode cX11_begin 51 = .ok (.invokevirtual 79, 3) := by decide +kernel
theorem dX11_begin_54 : decode cX11_begin 54 = .ok (.putfield 83, 3) := by decide +kernel
theorem dX11_begin_57 : decode cX11_begin 57 = .ok (.aload_n 0, 1) := by decide +kernel
theorem dX11_begin_58 : decode cX11_begin 58 = .ok (.aload_n 0, 1) := by decide +kernel
theorem dX11_begin_59 : decode cX11_begin 59 = .ok (.bipush 7, 2) := by decide +kernel
theorem dX11_begin_61 : decode cX11_begin 61 = .ok (.aload_n 0, 1) := by decide +kernel
theorem dX11_begin_62 : decode cX11_begin 62 = .ok (.aload_n 0, 1) := by decide +kernel
theorem dX11_begin_63 : decode cX11_begin 63 = .ok (.getfield 56, 3) := by decide +kernel
theorem dX11_begin_66 : decode cX11_begin 66 = .ok (.getfield 86, 3) := by decide +kernel
theorem dX11_begin_69 : decode cX11_begin 69 = .ok (.invokevirtual 91, 3) := by decide +kernel
theorem dX11_begin_72 : decode cX11_begin 72 = .ok (.invokevirtual 95, 3) := by decide +kernel
theorem dX11_begin_75 : decode cX11_begin 75 = .ok (.putfield 99, 3) := by decide +kernel
theorem dX11_begin_78 : decode cX11_begin 78 = .ok (.aload_n 0, 1) := by decide +kernel
theorem dX11_begin_79 : decode cX11_begin 79 = .ok (.bipush 7, 2) := by decide +kernel
theorem dX11_begin_81 : decode cX11_begin 81 = .ok (.aload_n 0, 1) := by decide +kernel
theorem dX11_begin_82 : decode cX11_begin 82 = .ok (.aload_n 0, 1) := by decide +kernel
theorem dX11_begin_83 : decode cX11_begin 83 = .ok (.getfield 56, 3) := by decide +kernel
theorem dX11_begin_86 : decode cX11_begin 86 = .ok (.getfield 102, 3) := by decide +kernel
theorem dX11_begin_89 : decode cX11_begin 89 = .ok (.invokevirtual 91, 3) := by decide +kernel
theorem dX11_begin_92 : decode cX11_begin 92 = .ok (.invokevirtual 95, 3) := by decide +kernel
theorem dX11_begin_95 : decode cX11_begin 95 = .ok (.istore_n 3, 1) := by decide +kernel
theorem dX11_begin_96 : decode cX11_begin 96 = .ok (.aload_n 0, 1) := by decide +kernel
theorem dX11_begin_97 : decode cX11_begin 97 = .ok (.getfield 18, 3) := by decide +kernel
theorem dX11_begin_100 : decode cX11_begin 100 = .ok (.bipush 33, 2) := by decide +kernel
theorem dX11_begin_102 : decode cX11_begin 102 = .ok (.invokevirtual 105, 3) := by decide +kernel
theorem dX11_begin_105 : decode cX11_begin 105 = .ok (.aload_n 0, 1) := by decide +kernel
theorem dX11_begin_106 : decode cX11_begin 106 = .ok (.getfield 18, 3) := by decide +kernel
theorem dX11_begin_109 : decode cX11_begin 109 = .ok (.aload_n 0, 1) := by decide +kernel
theorem dX11_begin_110 : decode cX11_begin 110 = .ok (.getfield 99, 3) := by decide +kernel
theorem dX11_begin_113 : decode cX11_begin 113 = .ok (.invokevirtual 105, 3) := by decide +kernel
theorem dX11_begin_116 : decode cX11_begin 116 = .ok (.aload_n 0, 1) := by decide +kernel
theorem dX11_begin_117 : decode cX11_begin 117 = .ok (.getfield 18, 3) := by decide +kernel
theorem dX11_begin_120 : decode cX11_begin 120 = .ok (.iload_n 3, 1) := by decide +kernel
theorem dX11_begin_121 : decode cX11_begin 121 = .ok (.invokevirtual 105, 3) := by decide +kernel
theorem dX11_begin_124 : decode cX11_begin 124 = .ok (.aload_n 0, 1) := by decide +kernel
theorem dX11_begin_125 : decode cX11_begin 125 = .ok (.getfield 18, 3) := by decide +kernel
theorem dX11_begin_128 : decode cX11_begin 128 = .ok (.iconst 0, 1) := by decide +kernel
theorem dX11_begin_129 : decode cX11_begin 129 = .ok (.invokevirtual 105, 3) := by decide +kernel
theorem dX11_begin_132 : decode cX11_begin 132 = .ok (.aload_n 0, 1) := by decide +kernel
theorem dX11_begin_133 : decode cX11_begin 133 = .ok (.getfield 56, 3) := by decide +kernel
theorem dX11_begin_136 : decode cX11_begin 136 = .ok (.getfield 109, 3) := by decide +kernel
theorem dX11_begin_139 : decode cX11_begin 139 = .ok (.iload_n 2, 1) := by decide +kernel
theorem dX11_begin_140 : decode cX11_begin 140 = .ok (.iadd, 1) := by decide +kernel
theorem dX11_begin_141 : decode cX11_begin 141 = .ok (.istore 4, 2) := by decide +kernel
theorem dX11_begin_143 : decode cX11_begin 143 = .ok (.aload_n 0, 1) := by decide +kernel
theorem dX11_begin_144 : decode cX11_begin 144 = .ok (.getfield 18, 3) := by decide +kernel
theorem dX11_begin_147 : decode cX11_begin 147 = .ok (.iload 4, 2) := by decide +kernel
theorem dX11_begin_149 : decode cX11_begin 149 = .ok (.invokevirtual 105, 3) := by decide +kernel
theorem dX11_begin_152 : decode cX11_begin 152 = .ok (.iconst 0, 1) := by decide +kernel
theorem dX11_begin_153 : decode cX11_begin 153 = .ok (.istore 5, 2) := by decide +kernel
theorem dX11_begin_155 : decode cX11_begin 155 = .ok (.iload 5, 2) := by decide +kernel
theorem dX11_begin_157 : decode cX11_begin 157 = .ok (.iload 4, 2) := by decide +kernel
theorem dX11_begin_159 : decode cX11_begin 159 = .ok (.if_icmp .ge 134, 3) := by decide +kernel
theorem dX11_begin_162 : decode cX11_begin 162 = .ok (.iload 5, 2) := by decide +kernel
theorem dX11_begin_164 : decode cX11_begin 164 = .ok (.bipush 24, 2) := by decide +kernel
theorem dX11_begin_166 : decode cX11_begin 166 = .ok (.if_icmp .ge 127, 3) := by decide +kernel
theorem dX11_begin_169 : decode cX11_begin 169 = .ok (.iload 5, 2) := by decide +kernel
theorem dX11_begin_171 : decode cX11_begin 171 = .ok (.aload_n 0, 1) := by decide +kernel
theorem dX11_begin_172 : decode cX11_begin 172 = .ok (.getfield 56, 3) := by decide +kernel
theorem dX11_begin_175 : decode cX11_begin 175 = .ok (.getfield 112, 3) := by decide +kernel
theorem dX11_begin_178 : decode cX11_begin 178 = .ok (.arraylength, 1) := by decide +kernel
theorem dX11_begin_179 : decode cX11_begin 179 = .ok (.if_icmp .ge 7, 3) := by decide +kernel
theorem dX11_begin_182 : decode cX11_begin 182 = .ok (.iconst 1, 1) := by decide +kernel
theorem dX11_begin_183 : decode cX11_begin 183 = .ok (.goto 4, 3) := by decide +kernel
theorem dX11_begin_186 : decode cX11_begin 186 = .ok (.iconst 0, 1) := by decide +kernel
theorem dX11_begin_187 : decode cX11_begin 187 = .ok (.istore 6, 2) := by decide +kernel
theorem dX11_begin_189 : decode cX11_begin 189 = .ok (.aload_n 0, 1) := by decide +kernel
theorem dX11_begin_190 : decode cX11_begin 190 = .ok (.getfield 31, 3) := by decide +kernel
theorem dX11_begin_193 : decode cX11_begin 193 = .ok (.iload 5, 2) := by decide +kernel
theorem dX11_begin_195 : decode cX11_begin 195 = .ok (.iload 6, 2) := by decide +kernel
theorem dX11_begin_197 : decode cX11_begin 197 = .ok (.ifCond .eq 20, 3) := by decide +kernel
theorem dX11_begin_200 : decode cX11_begin 200 = .ok (.aload_n 0, 1) := by decide +kernel
theorem dX11_begin_201 : decode cX11_begin 201 = .ok (.aload_n 0, 1) := by decide +kernel
theorem dX11_begin_202 : decode cX11_begin 202 = .ok (.getfield 56, 3) := by decide +kernel
theorem dX11_begin_205 : decode cX11_begin 205 = .ok (.getfield 112, 3) := by decide +kernel
theorem dX11_begin_208 : decode cX11_begin 208 = .ok (.iload 5, 2) := by decide +kernel
theorem dX11_begin_210 : decode cX11_begin 210 = .ok (.iaload, 1) := by decide +kernel
theorem dX11_begin_211 : decode cX11_begin 211 = .ok (.invokevirtual 91, 3) := by decide +kernel
theorem dX11_begin_214 : decode cX11_begin 214 = .ok (.goto 18, 3) := by decide +kernel
theorem dX11_begin_217 : decode cX11_begin 217 = .ok (.aload_n 0, 1) := by decide +kernel
theorem dX11_begin_218 : decode cX11_begin 218 = .ok (.iload 5, 2) := by decide +kernel
theorem dX11_begin_220 : decode cX11_begin 220 = .ok (.aload_n 0, 1) := by decide +kernel
theorem dX11_begin_221 : decode cX11_begin 221 = .ok (.getfield 56, 3) := by decide +kernel
theorem dX11_begin_224 : decode cX11_begin 224 = .ok (.getfield 112, 3) := by decide +kernel
theorem dX11_begin_227 : decode cX11_begin 227 = .ok (.arraylength, 1) := by decide +kernel
theorem dX11_begin_228 : decode cX11_begin 228 = .ok (.isub, 1) := by decide +kernel
theorem dX11_begin_229 : decode cX11_begin 229 = .ok (.invokevirtual 113, 3) := by decide +kernel
theorem dX11_begin_232 : decode cX11_begin 232 = .ok (.iastore, 1) := by decide +kernel
theorem dX11_begin_233 : decode cX11_begin 233 = .ok (.aload_n 0, 1) := by decide +kernel
theorem dX11_begin_234 : decode cX11_begin 234 = .ok (.getfield 34, 3) := by decide +kernel
theorem dX11_begin_237 : decode cX11_begin 237 = .ok (.iload 5, 2) := by decide +kernel
theorem dX11_begin_239 : decode cX11_begin 239 = .ok (.iload 6, 2) := by decide +kernel
theorem dX11_begin_241 : decode cX11_begin 241 = .ok (.ifCond .eq 20, 3) := by decide +kernel
theorem dX11_begin_244 : decode cX11_begin 244 = .ok (.aload_n 0, 1) := by decide +kernel
theorem dX11_begin_245 : decode cX11_begin 245 = .ok (.aload_n 0, 1) := by decide +kernel
theorem dX11_begin_246 : decode cX11_begin 246 = .ok (.getfield 56, 3) := by decide +kernel
theorem dX11_begin_249 : decode cX11_begin 249 = .ok (.getfield 116, 3) := by decide +kernel
theorem dX11_begin_252 : decode cX11_begin 252 = .ok (.iload 5, 2) := by decide +kernel
theorem dX11_begin_254 : decode cX11_begin 254 = .ok (.iaload, 1) := by decide +kernel
theorem dX11_begin_255 : decode cX11_begin 255 = .ok (.invokevirtual 91, 3) := by decide +kernel
theorem dX11_begin_258 : decode cX11_begin 258 = .ok (.goto 9, 3) := by decide +kernel

theorem dX10_takesOfMethod_9 : decode cX10_takesOfMethod 9 = .ok (.arraylength, 1) := by decide +kernel
theorem dX10_takesOfMethod_10 : decode cX10_takesOfMethod 10 = .ok (.if_icmp .lt 7, 3) := by decide +kernel
theorem dX10_takesOfMethod_13 : decode cX10_takesOfMethod 13 = .ok (.iconst 0, 1) := by decide +kernel
theorem dX10_takesOfMethod_14 : decode cX10_takesOfMethod 14 = .ok (.goto 9, 3) := by decide +kernel
theorem dX10_takesOfMethod_17 : decode cX10_takesOfMethod 17 = .ok (.aload_n 0, 1) := by decide +kernel
theorem dX10_takesOfMethod_18 : decode cX10_takesOfMethod 18 = .ok (.getfield 44, 3) := by decide +kernel
theorem dX10_takesOfMethod_21 : decode cX10_takesOfMethod 21 = .ok (.iload_n 1, 1) := by decide +kernel
theorem dX10_takesOfMethod_22 : decode cX10_takesOfMethod 22 = .ok (.iaload, 1) := by decide +kernel
theorem dX10_takesOfMethod_23 : decode cX10_takesOfMethod 23 = .ok (.ireturn, 1) := by decide +kernel
theorem dX11_addMethod_0 : decode cX11_addMethod 0 = .ok (.aload_n 0, 1) := by decide +kernel
theorem dX11_addMethod_1 : decode cX11_addMethod 1 = .ok (.aload_n 1, 1) := by decide +kernel
theorem dX11_addMethod_2 : decode cX11_addMethod 2 = .ok (.putfield 180, 3) := by decide +kernel
theorem dX11_addMethod_5 : decode cX11_addMethod 5 = .ok (.aload_n 0, 1) := by decide +kernel
theorem dX11_addMethod_6 : decode cX11_addMethod 6 = .ok (.getfield 180, 3) := by decide +kernel
theorem dX11_addMethod_9 : decode cX11_addMethod 9 = .ok (.ifnull 31, 3) := by decide +kernel
theorem dX11_addMethod_12 : decode cX11_addMethod 12 = .ok (.aload_n 0, 1) := by decide +kernel
theorem dX11_addMethod_13 : decode cX11_addMethod 13 = .ok (.getfield 180, 3) := by decide +kernel
theorem dX11_addMethod_16 : decode cX11_addMethod 16 = .ok (.getfield 184, 3) := by decide +kernel
theorem dX11_addMethod_19 : decode cX11_addMethod 19 = .ok (.ifCond .lt 21, 3) := by decide +kernel
theorem dX11_addMethod_22 : decode cX11_addMethod 22 = .ok (.aload_n 0, 1) := by decide +kernel
theorem dX11_addMethod_23 : decode cX11_addMethod 23 = .ok (.getfield 180, 3) := by decide +kernel
theorem dX11_addMethod_26 : decode cX11_addMethod 26 = .ok (.getfield 184, 3) := by decide +kernel
theorem dX11_addMethod_29 : decode cX11_addMethod 29 = .ok (.aload_n 0, 1) := by decide +kernel
theorem dX11_addMethod_30 : decode cX11_addMethod 30 = .ok (.getfield 56, 3) := by decide +kernel
theorem dX11_addMethod_33 : decode cX11_addMethod 33 = .ok (.getfield 174, 3) := by decide +kernel
theorem dX11_addMethod_36 : decode cX11_addMethod 36 = .ok (.arraylength, 1) := by decide +kernel
theorem dX11_addMethod_37 : decode cX11_addMethod 37 = .ok (.if_icmp .lt 4, 3) := by decide +kernel
theorem dX11_addMethod_40 : decode cX11_addMethod 40 = .ok (.return_, 1) := by decide +kernel
theorem dX11_addMethod_41 : decode cX11_addMethod 41 = .ok (.aload_n 0, 1) := by decide +kernel
theorem dX11_addMethod_42 : decode cX11_addMethod 42 = .ok (.aload_n 0, 1) := by decide +kernel
theorem dX11_addMethod_43 : decode cX11_addMethod 43 = .ok (.getfield 56, 3) := by decide +kernel
theorem dX11_addMethod_46 : decode cX11_addMethod 46 = .ok (.getfield 174, 3) := by decide +kernel
theorem dX11_addMethod_49 : decode cX11_addMethod 49 = .ok (.aload_n 0, 1) := by decide +kernel
theorem dX11_addMethod_50 : decode cX11_addMethod 50 = .ok (.getfield 180, 3) := by decide +kernel
theorem dX11_addMethod_53 : decode cX11_addMethod 53 = .ok (.getfield 184, 3) := by decide +kernel
theorem dX11_addMethod_56 : decode cX11_addMethod 56 = .ok (.iaload, 1) := by decide +kernel
theorem dX11_addMethod_57 : decode cX11_addMethod 57 = .ok (.invokevirtual 91, 3) := by decide +kernel
theorem dX11_addMethod_60 : decode cX11_addMethod 60 = .ok (.istore_n 2, 1) := by decide +kernel
theorem dX11_addMethod_61 : decode cX11_addMethod 61 = .ok (.aload_n 0, 1) := by decide +kernel
theorem dX11_addMethod_62 : decode cX11_addMethod 62 = .ok (.iload_n 2, 1) := by decide +kernel
theorem dX11_addMethod_63 : decode cX11_addMethod 63 = .ok (.aload_n 0, 1) := by decide +kernel
theorem dX11_addMethod_64 : decode cX11_addMethod 64 = .ok (.aload_n 0, 1) := by decide +kernel
theorem dX11_addMethod_65 : decode cX11_addMethod 65 = .ok (.getfield 56, 3) := by decide +kernel
theorem dX11_addMethod_68 : decode cX11_addMethod 68 = .ok (.getfield 177, 3) := by decide +kernel
theorem dX11_addMethod_71 : decode cX11_addMethod 71 = .ok (.aload_n 0, 1) := by decide +kernel
theorem dX11_addMethod_72 : decode cX11_addMethod 72 = .ok (.getfield 180, 3) := by decide +kernel
theorem dX11_addMethod_75 : decode cX11_addMethod 75 = .ok (.getfield 184, 3) := by decide +kernel
theorem dX11_addMethod_78 : decode cX11_addMethod 78 = .ok (.iaload, 1) := by decide +kernel
theorem dX11_addMethod_79 : decode cX11_addMethod 79 = .ok (.invokevirtual 91, 3) := by decide +kernel
theorem dX11_addMethod_82 : decode cX11_addMethod 82 = .ok (.iconst 1, 1) := by decide +kernel
theorem dX11_addMethod_83 : decode cX11_addMethod 83 = .ok (.invokevirtual 119, 3) := by decide +kernel
theorem dX11_addMethod_86 : decode cX11_addMethod 86 = .ok (.aload_n 0, 1) := by decide +kernel
theorem dX11_addMethod_87 : decode cX11_addMethod 87 = .ok (.invokevirtual 189, 3) := by decide +kernel
theorem dX11_addMethod_90 : decode cX11_addMethod 90 = .ok (.istore_n 3, 1) := by decide +kernel
theorem dX11_addMethod_91 : decode cX11_addMethod 91 = .ok (.aload_n 0, 1) := by decide +kernel
theorem dX11_addMethod_92 : decode cX11_addMethod 92 = .ok (.getfield 46, 3) := by decide +kernel
theorem dX11_addMethod_95 : decode cX11_addMethod 95 = .ok (.aload_n 0, 1) := by decide +kernel
theorem dX11_addMethod_96 : decode cX11_addMethod 96 = .ok (.getfield 56, 3) := by decide +kernel
theorem dX11_addMethod_99 : decode cX11_addMethod 99 = .ok (.aload_n 0, 1) := by decide +kernel
theorem dX11_addMethod_100 : decode cX11_addMethod 100 = .ok (.getfield 180, 3) := by decide +kernel
theorem dX11_addMethod_103 : decode cX11_addMethod 103 = .ok (.bipush 28, 2) := by decide +kernel
theorem dX11_addMethod_105 : decode cX11_addMethod 105 = .ok (.invokevirtual 192, 3) := by decide +kernel
theorem dX11_addMethod_108 : decode cX11_addMethod 108 = .ok (.aload_n 0, 1) := by decide +kernel
theorem dX11_addMethod_109 : decode cX11_addMethod 109 = .ok (.getfield 18, 3) := by decide +kernel
theorem dX11_addMethod_112 : decode cX11_addMethod 112 = .ok (.aload_n 0, 1) := by decide +kernel
theorem dX11_addMethod_113 : decode cX11_addMethod 113 = .ok (.getfield 83, 3) := by decide +kernel
theorem dX11_addMethod_116 : decode cX11_addMethod 116 = .ok (.invokevirtual 105, 3) := by decide +kernel
theorem dX11_addMethod_119 : decode cX11_addMethod 119 = .ok (.aload_n 0, 1) := by decide +kernel
theorem dX11_addMethod_120 : decode cX11_addMethod 120 = .ok (.getfield 18, 3) := by decide +kernel
theorem dX11_addMethod_123 : decode cX11_addMethod 123 = .ok (.bipush 12, 2) := by decide +kernel
theorem dX11_addMethod_125 : decode cX11_addMethod 125 = .ok (.iload_n 3, 1) := by decide +kernel
theorem dX11_addMethod_126 : decode cX11_addMethod 126 = .ok (.iadd, 1) := by decide +kernel
theorem dX11_addMethod_127 : decode cX11_addMethod 127 = .ok (.bipush 8, 2) := by decide +kernel
theorem dX11_addMethod_129 : decode cX11_addMethod 129 = .ok (.aload_n 0, 1) := by decide +kernel
theorem dX11_addMethod_130 : decode cX11_addMethod 130 = .ok (.getfield 180, 3) := by decide +kernel
theorem dX11_addMethod_133 : decode cX11_addMethod 133 = .ok (.getfield 196, 3) := by decide +kernel
theorem dX11_addMethod_136 : decode cX11_addMethod 136 = .ok (.imul, 1) := by decide +kernel
theorem dX11_addMethod_137 : decode cX11_addMethod 137 = .ok (.iadd, 1) := by decide +kernel
theorem dX11_addMethod_138 : decode cX11_addMethod 138 = .ok (.invokevirtual 167, 3) := by decide +kernel
theorem dX11_addMethod_141 : decode cX11_addMethod 141 = .ok (.aload_n 0, 1) := by decide +kernel
theorem dX11_addMethod_142 : decode cX11_addMethod 142 = .ok (.getfield 18, 3) := by decide +kernel
theorem dX11_addMethod_145 : decode cX11_addMethod 145 = .ok (.aload_n 0, 1) := by decide +kernel
theorem dX11_addMethod_146 : decode cX11_addMethod 146 = .ok (.getfield 46, 3) := by decide +kernel
theorem dX11_addMethod_149 : decode cX11_addMethod 149 = .ok (.getfield 199, 3) := by decide +kernel
theorem dX11_addMethod_152 : decode cX11_addMethod 152 = .ok (.invokevirtual 105, 3) := by decide +kernel
theorem dX11_addMethod_155 : decode cX11_addMethod 155 = .ok (.aload_n 0, 1) := by decide +kernel
theorem dX11_addMethod_156 : decode cX11_addMethod 156 = .ok (.getfield 18, 3) := by decide +kernel
theorem dX11_addMethod_159 : decode cX11_addMethod 159 = .ok (.aload_n 0, 1) := by decide +kernel
theorem dX11_addMethod_160 : decode cX11_addMethod 160 = .ok (.invokevirtual 202, 3) := by decide +kernel
theorem dX11_addMethod_163 : decode cX11_addMethod 163 = .ok (.invokevirtual 105, 3) := by decide +kernel
theorem dX11_addMethod_166 : decode cX11_addMethod 166 = .ok (.aload_n 0, 1) := by decide +kernel
theorem dX11_addMethod_167 : decode cX11_addMethod 167 = .ok (.getfield 18, 3) := by decide +kernel
theorem dX11_addMethod_170 : decode cX11_addMethod 170 = .ok (.iload_n 3, 1) := by decide +kernel
theorem dX11_addMethod_171 : decode cX11_addMethod 171 = .ok (.invokevirtual 167, 3) := by decide +kernel
theorem dX11_addMethod_174 : decode cX11_addMethod 174 = .ok (.aload_n 0, 1) := by decide +kernel
theorem dX11_addMethod_175 : decode cX11_addMethod 175 = .ok (.getfield 18, 3) := by decide +kernel
theorem dX11_addMethod_178 : decode cX11_addMethod 178 = .ok (.getfield 60, 3) := by decide +kernel
theorem dX11_addMethod_181 : decode cX11_addMethod 181 = .ok (.istore 4, 2) := by decide +kernel
theorem dX11_addMethod_183 : decode cX11_addMethod 183 = .ok (.iconst 0, 1) := by decide +kernel
theorem dX11_addMethod_184 : decode cX11_addMethod 184 = .ok (.istore 5, 2) := by decide +kernel
theorem dX11_addMethod_186 : decode cX11_addMethod 186 = .ok (.iload 5, 2) := by decide +kernel
theorem dX11_addMethod_188 : decode cX11_addMethod 188 = .ok (.aload_n 0, 1) := by decide +kernel
theorem dX11_addMethod_189 : decode cX11_addMethod 189 = .ok (.getfield 180, 3) := by decide +kernel
theorem dX11_addMethod_192 : decode cX11_addMethod 192 = .ok (.getfield 205, 3) := by decide +kernel
theorem dX11_addMethod_195 : decode cX11_addMethod 195 = .ok (.if_icmp .ge 17, 3) := by decide +kernel
theorem dX11_addMethod_198 : decode cX11_addMethod 198 = .ok (.aload_n 0, 1) := by decide +kernel
theorem dX11_addMethod_199 : decode cX11_addMethod 199 = .ok (.iload 5, 2) := by decide +kernel
theorem dX11_addMethod_201 : decode cX11_addMethod 201 = .ok (.iload 4, 2) := by decide +kernel
theorem dX11_addMethod_203 : decode cX11_addMethod 203 = .ok (.invokevirtual 206, 3) := by decide +kernel
theorem dX11_addMethod_206 : decode cX11_addMethod 206 = .ok (.iinc 5 1, 3) := by decide +kernel
theorem dX11_addMethod_209 : decode cX11_addMethod 209 = .ok (.goto (-23), 3) := by decide +kernel
theorem dX11_addMethod_212 : decode cX11_addMethod 212 = .ok (.aload_n 0, 1) := by decide +kernel
theorem dX11_addMethod_213 : decode cX11_addMethod 213 = .ok (.getfield 18, 3) := by decide +kernel
theorem dX11_addMethod_216 : decode cX11_addMethod 216 = .ok (.aload_n 0, 1) := by decide +kernel
theorem dX11_addMethod_217 : decode cX11_addMethod 217 = .ok (.getfield 180, 3) := by decide +kernel
theorem dX11_addMethod_220 : decode cX11_addMethod 220 = .ok (.getfield 196, 3) := by decide +kernel
theorem dX11_addMethod_223 : decode cX11_addMethod 223 = .ok (.invokevirtual 105, 3) := by decide +kernel
theorem dX11_addMethod_226 : decode cX11_addMethod 226 = .ok (.iconst 0, 1) := by decide +kernel
theorem dX11_addMethod_227 : decode cX11_addMethod 227 = .ok (.istore 5, 2) := by decide +kernel
theorem dX11_addMethod_229 : decode cX11_addMethod 229 = .ok (.iload 5, 2) := by decide +kernel
theorem dX11_addMethod_231 : decode cX11_addMethod 231 = .ok (.aload_n 0, 1) := by decide +kernel
theorem dX11_addMethod_232 : decode cX11_addMethod 232 = .ok (.getfield 180, 3) := by decide +kernel
theorem dX11_addMethod_235 : decode cX11_addMethod 235 = .ok (.getfield 196, 3) := by decide +kernel
theorem dX11_addMethod_238 : decode cX11_addMethod 238 = .ok (.if_icmp .ge 93, 3) := by decide +kernel
theorem dX11_addMethod_241 : decode cX11_addMethod 241 = .ok (.aload_n 0, 1) := by decide +kernel
theorem dX11_addMethod_242 : decode cX11_addMethod 242 = .ok (.getfield 18, 3) := by decide +kernel
theorem dX11_addMethod_245 : decode cX11_addMethod 245 = .ok (.aload_n 0, 1) := by decide +kernel
theorem dX11_addMethod_246 : decode cX11_addMethod 246 = .ok (.aload_n 0, 1) := by decide +kernel
theorem dX11_addMethod_247 : decode cX11_addMethod 247 = .ok (.getfield 180, 3) := by decide +kernel
theorem dX11_addMethod_250 : decode cX11_addMethod 250 = .ok (.getfield 210, 3) := by decide +kernel
theorem dX11_addMethod_253 : decode cX11_addMethod 253 = .ok (.iload 5, 2) := by decide +kernel
theorem dX11_addMethod_255 : decode cX11_addMethod 255 = .ok (.iaload, 1) := by decide +kernel
theorem dX11_addMethod_256 : decode cX11_addMethod 256 = .ok (.invokevirtual 213, 3) := by decide +kernel
theorem dX11_addMethod_259 : decode cX11_addMethod 259 = .ok (.invokevirtual 105, 3) := by decide +kernel
theorem dX11_addMethod_262 : decode cX11_addMethod 262 = .ok (.aload_n 0, 1) := by decide +kernel
theorem dX11_addMethod_263 : decode cX11_addMethod 263 = .ok (.getfield 18, 3) := by decide +kernel
theorem dX11_addMethod_266 : decode cX11_addMethod 266 = .ok (.aload_n 0, 1) := by decide +kernel
theorem dX11_addMethod_267 : decode cX11_addMethod 267 = .ok (.aload_n 0, 1) := by decide +kernel
theorem dX11_addMethod_268 : decode cX11_addMethod 268 = .ok (.getfield 180, 3) := by decide +kernel
theorem dX11_addMethod_271 : decode cX11_addMethod 271 = .ok (.getfield 216, 3) := by decide +kernel
theorem dX11_addMethod_274 : decode cX11_addMethod 274 = .ok (.iload 5, 2) := by decide +kernel
theorem dX11_addMethod_276 : decode cX11_addMethod 276 = .ok (.iaload, 1) := by decide +kernel
theorem dX11_addMethod_277 : decode cX11_addMethod 277 = .ok (.invokevirtual 213, 3) := by decide +kernel
theorem dX11_addMethod_280 : decode cX11_addMethod 280 = .ok (.invokevirtual 105, 3) := by decide +kernel
theorem dX11_addMethod_283 : decode cX11_addMethod 283 = .ok (.aload_n 0, 1) := by decide +kernel
theorem dX11_addMethod_284 : decode cX11_addMethod 284 = .ok (.getfield 18, 3) := by decide +kernel
theorem dX11_addMethod_287 : decode cX11_addMethod 287 = .ok (.aload_n 0, 1) := by decide +kernel
theorem dX11_addMethod_288 : decode cX11_addMethod 288 = .ok (.aload_n 0, 1) := by decide +kernel
theorem dX11_addMethod_289 : decode cX11_addMethod 289 = .ok (.getfield 180, 3) := by decide +kernel
theorem dX11_addMethod_292 : decode cX11_addMethod 292 = .ok (.getfield 219, 3) := by decide +kernel

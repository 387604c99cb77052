theorem dX3_findBlocks_80 : decode cX3_findBlocks 80 = .ok (.iconst 0, 1) := by decide +kernel
theorem dX3_findBlocks_81 : decode cX3_findBlocks 81 = .ok (.istore_n 3, 1) := by decide +kernel
theorem dX3_findBlocks_82 : decode cX3_findBlocks 82 = .ok (.iload_n 3, 1) := by decide +kernel
theorem dX3_findBlocks_83 : decode cX3_findBlocks 83 = .ok (.iload_n 2, 1) := by decide +kernel
theorem dX3_findBlocks_84 : decode cX3_findBlocks 84 = .ok (.if_icmp .ge 22, 3) := by decide +kernel
theorem dX3_findBlocks_87 : decode cX3_findBlocks 87 = .ok (.aload_n 0, 1) := by decide +kernel
theorem dX3_findBlocks_88 : decode cX3_findBlocks 88 = .ok (.aload_n 0, 1) := by decide +kernel
theorem dX3_findBlocks_89 : decode cX3_findBlocks 89 = .ok (.getfield 53, 3) := by decide +kernel
theorem dX3_findBlocks_92 : decode cX3_findBlocks 92 = .ok (.iload_n 1, 1) := by decide +kernel
theorem dX3_findBlocks_93 : decode cX3_findBlocks 93 = .ok (.iload_n 3, 1) := by decide +kernel
theorem dX3_findBlocks_94 : decode cX3_findBlocks 94 = .ok (.invokevirtual 99, 3) := by decide +kernel
theorem dX3_findBlocks_97 : decode cX3_findBlocks 97 = .ok (.invokevirtual 91, 3) := by decide +kernel
theorem dX3_findBlocks_100 : decode cX3_findBlocks 100 = .ok (.iinc 3 1, 3) := by decide +kernel
theorem dX3_findBlocks_103 : decode cX3_findBlocks 103 = .ok (.goto (-21), 3) := by decide +kernel
theorem dX3_findBlocks_106 : decode cX3_findBlocks 106 = .ok (.iload_n 2, 1) := by decide +kernel
theorem dX3_findBlocks_107 : decode cX3_findBlocks 107 = .ok (.ifCond .gt 17, 3) := by decide +kernel
theorem dX3_findBlocks_110 : decode cX3_findBlocks 110 = .ok (.aload_n 0, 1) := by decide +kernel
theorem dX3_findBlocks_111 : decode cX3_findBlocks 111 = .ok (.getfield 53, 3) := by decide +kernel
theorem dX3_findBlocks_114 : decode cX3_findBlocks 114 = .ok (.iload_n 1, 1) := by decide +kernel
theorem dX3_findBlocks_115 : decode cX3_findBlocks 115 = .ok (.invokevirtual 103, 3) := by decide +kernel
theorem dX3_findBlocks_118 : decode cX3_findBlocks 118 = .ok (.invokestatic 106, 3) := by decide +kernel
theorem dX3_findBlocks_121 : decode cX3_findBlocks 121 = .ok (.ifCond .ne 10, 3) := by decide +kernel
theorem dX3_findBlocks_124 : decode cX3_findBlocks 124 = .ok (.aload_n 0, 1) := by decide +kernel
theorem dX3_findBlocks_125 : decode cX3_findBlocks 125 = .ok (.iload_n 1, 1) := by decide +kernel
theorem dX3_findBlocks_126 : decode cX3_findBlocks 126 = .ok (.iconst 1, 1) := by decide +kernel
theorem dX3_findBlocks_127 : decode cX3_findBlocks 127 = .ok (.iadd, 1) := by decide +kernel
theorem dX3_findBlocks_128 : decode cX3_findBlocks 128 = .ok (.invokevirtual 91, 3) := by decide +kernel
theorem dX3_findBlocks_131 : decode cX3_findBlocks 131 = .ok (.iinc 1 1, 3) := by decide +kernel
theorem dX3_findBlocks_134 : decode cX3_findBlocks 134 = .ok (.goto (-74), 3) := by decide +kernel
theorem dX3_findBlocks_137 : decode cX3_findBlocks 137 = .ok (.iconst 0, 1) := by decide +kernel
theorem dX3_findBlocks_138 : decode cX3_findBlocks 138 = .ok (.istore_n 1, 1) := by decide +kernel
theorem dX3_findBlocks_139 : decode cX3_findBlocks 139 = .ok (.iload_n 1, 1) := by decide +kernel
theorem dX3_findBlocks_140 : decode cX3_findBlocks 140 = .ok (.aload_n 0, 1) := by decide +kernel
theorem dX3_findBlocks_141 : decode cX3_findBlocks 141 = .ok (.getfield 53, 3) := by decide +kernel
theorem dX3_findBlocks_144 : decode cX3_findBlocks 144 = .ok (.getfield 112, 3) := by decide +kernel
theorem dX3_findBlocks_147 : decode cX3_findBlocks 147 = .ok (.if_icmp .ge 48, 3) := by decide +kernel
theorem dX3_findBlocks_150 : decode cX3_findBlocks 150 = .ok (.aload_n 0, 1) := by decide +kernel
theorem dX3_findBlocks_151 : decode cX3_findBlocks 151 = .ok (.aload_n 0, 1) := by decide +kernel
theorem dX3_findBlocks_152 : decode cX3_findBlocks 152 = .ok (.getfield 53, 3) := by decide +kernel
theorem dX3_findBlocks_155 : decode cX3_findBlocks 155 = .ok (.getfield 115, 3) := by decide +kernel
theorem dX3_findBlocks_158 : decode cX3_findBlocks 158 = .ok (.iload_n 1, 1) := by decide +kernel
theorem dX3_findBlocks_159 : decode cX3_findBlocks 159 = .ok (.iaload, 1) := by decide +kernel
theorem dX3_findBlocks_160 : decode cX3_findBlocks 160 = .ok (.invokevirtual 91, 3) := by decide +kernel
theorem dX3_findBlocks_163 : decode cX3_findBlocks 163 = .ok (.aload_n 0, 1) := by decide +kernel
theorem dX3_findBlocks_164 : decode cX3_findBlocks 164 = .ok (.aload_n 0, 1) := by decide +kernel
theorem dX3_findBlocks_165 : decode cX3_findBlocks 165 = .ok (.getfield 53, 3) := by decide +kernel
theorem dX3_findBlocks_168 : decode cX3_findBlocks 168 = .ok (.getfield 118, 3) := by decide +kernel
theorem dX3_findBlocks_171 : decode cX3_findBlocks 171 = .ok (.iload_n 1, 1) := by decide +kernel
theorem dX3_findBlocks_172 : decode cX3_findBlocks 172 = .ok (.iaload, 1) := by decide +kernel
theorem dX3_findBlocks_173 : decode cX3_findBlocks 173 = .ok (.invokevirtual 91, 3) := by decide +kernel
theorem dX3_findBlocks_176 : decode cX3_findBlocks 176 = .ok (.aload_n 0, 1) := by decide +kernel
theorem dX3_findBlocks_177 : decode cX3_findBlocks 177 = .ok (.aload_n 0, 1) := by decide +kernel
theorem dX3_findBlocks_178 : decode cX3_findBlocks 178 = .ok (.getfield 53, 3) := by decide +kernel
theorem dX3_findBlocks_181 : decode cX3_findBlocks 181 = .ok (.getfield 121, 3) := by decide +kernel
theorem dX3_findBlocks_184 : decode cX3_findBlocks 184 = .ok (.iload_n 1, 1) := by decide +kernel
theorem dX3_findBlocks_185 : decode cX3_findBlocks 185 = .ok (.iaload, 1) := by decide +kernel
theorem dX3_findBlocks_186 : decode cX3_findBlocks 186 = .ok (.invokevirtual 91, 3) := by decide +kernel
theorem dX3_findBlocks_189 : decode cX3_findBlocks 189 = .ok (.iinc 1 1, 3) := by decide +kernel
theorem dX3_findBlocks_192 : decode cX3_findBlocks 192 = .ok (.goto (-53), 3) := by decide +kernel
theorem dX3_findBlocks_195 : decode cX3_findBlocks 195 = .ok (.aload_n 0, 1) := by decide +kernel
theorem dX3_findBlocks_196 : decode cX3_findBlocks 196 = .ok (.iconst 0, 1) := by decide +kernel
theorem dX3_findBlocks_197 : decode cX3_findBlocks 197 = .ok (.putfield 78, 3) := by decide +kernel
theorem dX3_findBlocks_200 : decode cX3_findBlocks 200 = .ok (.iconst 0, 1) := by decide +kernel
theorem dX3_findBlocks_201 : decode cX3_findBlocks 201 = .ok (.istore_n 1, 1) := by decide +kernel
theorem dX3_findBlocks_202 : decode cX3_findBlocks 202 = .ok (.iload_n 1, 1) := by decide +kernel
theorem dX3_findBlocks_203 : decode cX3_findBlocks 203 = .ok (.aload_n 0, 1) := by decide +kernel
theorem dX3_findBlocks_204 : decode cX3_findBlocks 204 = .ok (.getfield 53, 3) := by decide +kernel
theorem dX3_findBlocks_207 : decode cX3_findBlocks 207 = .ok (.getfield 82, 3) := by decide +kernel
theorem dX3_findBlocks_210 : decode cX3_findBlocks 210 = .ok (.if_icmp .ge 50, 3) := by decide +kernel
theorem dX3_findBlocks_213 : decode cX3_findBlocks 213 = .ok (.aload_n 0, 1) := by decide +kernel
theorem dX3_findBlocks_214 : decode cX3_findBlocks 214 = .ok (.getfield 15, 3) := by decide +kernel
theorem dX3_findBlocks_217 : decode cX3_findBlocks 217 = .ok (.iload_n 1, 1) := by decide +kernel
theorem dX3_findBlocks_218 : decode cX3_findBlocks 218 = .ok (.iaload, 1) := by decide +kernel
theorem dX3_findBlocks_219 : decode cX3_findBlocks 219 = .ok (.ifCond .eq 23, 3) := by decide +kernel
theorem dX3_findBlocks_222 : decode cX3_findBlocks 222 = .ok (.aload_n 0, 1) := by decide +kernel
theorem dX3_findBlocks_223 : decode cX3_findBlocks 223 = .ok (.getfield 9, 3) := by decide +kernel
theorem dX3_findBlocks_226 : decode cX3_findBlocks 226 = .ok (.aload_n 0, 1) := by decide +kernel
theorem dX3_findBlocks_227 : decode cX3_findBlocks 227 = .ok (.getfield 78, 3) := by decide +kernel
theorem dX3_findBlocks_230 : decode cX3_findBlocks 230 = .ok (.iload_n 1, 1) := by decide +kernel
theorem dX3_findBlocks_231 : decode cX3_findBlocks 231 = .ok (.iastore, 1) := by decide +kernel
theorem dX3_findBlocks_232 : decode cX3_findBlocks 232 = .ok (.aload_n 0, 1) := by decide +kernel
theorem dX3_findBlocks_233 : decode cX3_findBlocks 233 = .ok (.dup, 1) := by decide +kernel
theorem dX3_findBlocks_234 : decode cX3_findBlocks 234 = .ok (.getfield 78, 3) := by decide +kernel
theorem dX3_findBlocks_237 : decode cX3_findBlocks 237 = .ok (.iconst 1, 1) := by decide +kernel
theorem dX3_findBlocks_238 : decode cX3_findBlocks 238 = .ok (.iadd, 1) := by decide +kernel
theorem dX3_findBlocks_239 : decode cX3_findBlocks 239 = .ok (.putfield 78, 3) := by decide +kernel
theorem dX3_findBlocks_242 : decode cX3_findBlocks 242 = .ok (.aload_n 0, 1) := by decide +kernel
theorem dX3_findBlocks_243 : decode cX3_findBlocks 243 = .ok (.getfield 15, 3) := by decide +kernel
theorem dX3_findBlocks_246 : decode cX3_findBlocks 246 = .ok (.iload_n 1, 1) := by decide +kernel
theorem dX3_findBlocks_247 : decode cX3_findBlocks 247 = .ok (.aload_n 0, 1) := by decide +kernel
theorem dX3_findBlocks_248 : decode cX3_findBlocks 248 = .ok (.getfield 78, 3) := by decide +kernel
theorem dX3_findBlocks_251 : decode cX3_findBlocks 251 = .ok (.iconst 1, 1) := by decide +kernel
theorem dX3_findBlocks_252 : decode cX3_findBlocks 252 = .ok (.isub, 1) := by decide +kernel
theorem dX3_findBlocks_253 : decode cX3_findBlocks 253 = .ok (.iastore, 1) := by decide +kernel
theorem dX3_findBlocks_254 : decode cX3_findBlocks 254 = .ok (.iinc 1 1, 3) := by decide +kernel
theorem dX3_findBlocks_257 : decode cX3_findBlocks 257 = .ok (.goto (-55), 3) := by decide +kernel
theorem dX3_findBlocks_260 : decode cX3_findBlocks 260 = .ok (.return_, 1) := by decide +kernel
theorem dX3_findDominators_0 : decode cX3_findDominators 0 = .ok (.aload_n 0, 1) := by decide +kernel
theorem dX3_findDominators_1 : decode cX3_findDominators 1 = .ok (.getfield 34, 3) := by decide +kernel
theorem dX3_findDominators_4 : decode cX3_findDominators 4 = .ok (.ldc2_w 148, 3) := by decide +kernel
theorem dX3_findDominators_7 : decode cX3_findDominators 7 = .ok (.invokestatic 150, 3) := by decide +kernel
theorem dX3_findDominators_10 : decode cX3_findDominators 10 = .ok (.iconst 0, 1) := by decide +kernel
theorem dX3_findDominators_11 : decode cX3_findDominators 11 = .ok (.istore_n 1, 1) := by decide +kernel
theorem dX3_findDominators_12 : decode cX3_findDominators 12 = .ok (.iload_n 1, 1) := by decide +kernel
theorem dX3_findDominators_13 : decode cX3_findDominators 13 = .ok (.aload_n 0, 1) := by decide +kernel
theorem dX3_findDominators_14 : decode cX3_findDominators 14 = .ok (.getfield 124, 3) := by decide +kernel
theorem dX3_findDominators_17 : decode cX3_findDominators 17 = .ok (.if_icmp .ge 24, 3) := by decide +kernel
theorem dX3_findDominators_20 : decode cX3_findDominators 20 = .ok (.aload_n 0, 1) := by decide +kernel
theorem dX3_findDominators_21 : decode cX3_findDominators 21 = .ok (.getfield 34, 3) := by decide +kernel
theorem dX3_findDominators_24 : decode cX3_findDominators 24 = .ok (.iload_n 1, 1) := by decide +kernel
theorem dX3_findDominators_25 : decode cX3_findDominators 25 = .ok (.iload_n 1, 1) := by decide +kernel
theorem dX3_findDominators_26 : decode cX3_findDominators 26 = .ok (.ifCond .ne 7, 3) := by decide +kernel
theorem dX3_findDominators_29 : decode cX3_findDominators 29 = .ok (.lconst 1, 1) := by decide +kernel
theorem dX3_findDominators_30 : decode cX3_findDominators 30 = .ok (.goto 4, 3) := by decide +kernel
theorem dX3_findDominators_33 : decode cX3_findDominators 33 = .ok (.lconst 0, 1) := by decide +kernel
theorem dX3_findDominators_34 : decode cX3_findDominators 34 = .ok (.lastore, 1) := by decide +kernel
theorem dX3_findDominators_35 : decode cX3_findDominators 35 = .ok (.iinc 1 1, 3) := by decide +kernel
theorem dX3_findDominators_38 : decode cX3_findDominators 38 = .ok (.goto (-26), 3) := by decide +kernel
theorem dX3_findDominators_41 : decode cX3_findDominators 41 = .ok (.iconst 1, 1) := by decide +kernel
theorem dX3_findDominators_42 : decode cX3_findDominators 42 = .ok (.istore_n 1, 1) := by decide +kernel
theorem dX3_findDominators_43 : decode cX3_findDominators 43 = .ok (.iconst 0, 1) := by decide +kernel
theorem dX3_findDominators_44 : decode cX3_findDominators 44 = .ok (.istore_n 2, 1) := by decide +kernel
theorem dX3_findDominators_45 : decode cX3_findDominators 45 = .ok (.iload_n 1, 1) := by decide +kernel
theorem dX3_findDominators_46 : decode cX3_findDominators 46 = .ok (.ifCond .eq 84, 3) := by decide +kernel
theorem dX3_findDominators_49 : decode cX3_findDominators 49 = .ok (.iload_n 2, 1) := by decide +kernel
theorem dX3_findDominators_50 : decode cX3_findDominators 50 = .ok (.ldc 153, 2) := by decide +kernel
theorem dX3_findDominators_52 : decode cX3_findDominators 52 = .ok (.if_icmp .ge 78, 3) := by decide +kernel
theorem dX3_findDominators_55 : decode cX3_findDominators 55 = .ok (.iconst 0, 1) := by decide +kernel
theorem dX3_findDominators_56 : decode cX3_findDominators 56 = .ok (.istore_n 1, 1) := by decide +kernel
theorem dX3_findDominators_57 : decode cX3_findDominators 57 = .ok (.iconst 0, 1) := by decide +kernel
theorem dX3_findDominators_58 : decode cX3_findDominators 58 = .ok (.istore_n 3, 1) := by decide +kernel
theorem dX3_findDominators_59 : decode cX3_findDominators 59 = .ok (.iload_n 3, 1) := by decide +kernel
theorem dX3_findDominators_60 : decode cX3_findDominators 60 = .ok (.aload_n 0, 1) := by decide +kernel
theorem dX3_findDominators_61 : decode cX3_findDominators 61 = .ok (.getfield 78, 3) := by decide +kernel
theorem dX3_findDominators_64 : decode cX3_findDominators 64 = .ok (.if_icmp .ge 60, 3) := by decide +kernel
theorem dX3_findDominators_67 : decode cX3_findDominators 67 = .ok (.aload_n 0, 1) := by decide +kernel
theorem dX3_findDominators_68 : decode cX3_findDominators 68 = .ok (.getfield 18, 3) := by decide +kernel
theorem dX3_findDominators_71 : decode cX3_findDominators 71 = .ok (.iload_n 3, 1) := by decide +kernel
theorem dX3_findDominators_72 : decode cX3_findDominators 72 = .ok (.iaload, 1) := by decide +kernel
theorem dX3_findDominators_73 : decode cX3_findDominators 73 = .ok (.istore 4, 2) := by decide +kernel
theorem dX3_findDominators_75 : decode cX3_findDominators 75 = .ok (.aload_n 0, 1) := by decide +kernel
theorem dX3_findDominators_76 : decode cX3_findDominators 76 = .ok (.getfield 30, 3) := by decide +kernel
theorem dX3_findDominators_79 : decode cX3_findDominators 79 = .ok (.iload_n 3, 1) := by decide +kernel
theorem dX3_findDominators_80 : decode cX3_findDominators 80 = .ok (.baload, 1) := by decide +kernel
theorem dX3_findDominators_81 : decode cX3_findDominators 81 = .ok (.ifCond .eq 37, 3) := by decide +kernel
theorem dX3_findDominators_84 : decode cX3_findDominators 84 = .ok (.iload 4, 2) := by decide +kernel
theorem dX3_findDominators_86 : decode cX3_findDominators 86 = .ok (.aload_n 0, 1) := by decide +kernel
theorem dX3_findDominators_87 : decode cX3_findDominators 87 = .ok (.getfield 18, 3) := by decide +kernel
theorem dX3_findDominators_90 : decode cX3_findDominators 90 = .ok (.iload_n 3, 1) := by decide +kernel
theorem dX3_findDominators_91 : decode cX3_findDominators 91 = .ok (.iconst 1, 1) := by decide +kernel

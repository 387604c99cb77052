theorem dX5_shuffle_135 : decode cX5_shuffle 135 = .ok (.lload 4, 2) := by decide +kernel
theorem dX5_shuffle_137 : decode cX5_shuffle 137 = .ok (.invokevirtual 137, 3) := by decide +kernel
theorem dX5_shuffle_140 : decode cX5_shuffle 140 = .ok (.goto 3, 3) := by decide +kernel
theorem dX5_shuffle_143 : decode cX5_shuffle 143 = .ok (.return_, 1) := by decide +kernel
theorem dX5_step_0 : decode cX5_step 0 = .ok (.aload_n 0, 1) := by decide +kernel
theorem dX5_step_1 : decode cX5_step 1 = .ok (.getfield 119, 3) := by decide +kernel
theorem dX5_step_4 : decode cX5_step 4 = .ok (.aload_n 0, 1) := by decide +kernel
theorem dX5_step_5 : decode cX5_step 5 = .ok (.getfield 123, 3) := by decide +kernel
theorem dX5_step_8 : decode cX5_step 8 = .ok (.invokevirtual 145, 3) := by decide +kernel
theorem dX5_step_11 : decode cX5_step 11 = .ok (.istore_n 1, 1) := by decide +kernel
theorem dX5_step_12 : decode cX5_step 12 = .ok (.aload_n 0, 1) := by decide +kernel
theorem dX5_step_13 : decode cX5_step 13 = .ok (.getfield 119, 3) := by decide +kernel
theorem dX5_step_16 : decode cX5_step 16 = .ok (.aload_n 0, 1) := by decide +kernel
theorem dX5_step_17 : decode cX5_step 17 = .ok (.getfield 123, 3) := by decide +kernel
theorem dX5_step_20 : decode cX5_step 20 = .ok (.invokevirtual 150, 3) := by decide +kernel
theorem dX5_step_23 : decode cX5_step 23 = .ok (.aload_n 0, 1) := by decide +kernel
theorem dX5_step_24 : decode cX5_step 24 = .ok (.getfield 126, 3) := by decide +kernel
theorem dX5_step_27 : decode cX5_step 27 = .ok (.if_icmp .eq 13, 3) := by decide +kernel
theorem dX5_step_30 : decode cX5_step 30 = .ok (.aload_n 0, 1) := by decide +kernel
theorem dX5_step_31 : decode cX5_step 31 = .ok (.dup, 1) := by decide +kernel
theorem dX5_step_32 : decode cX5_step 32 = .ok (.getfield 76, 3) := by decide +kernel
theorem dX5_step_35 : decode cX5_step 35 = .ok (.iconst 1, 1) := by decide +kernel
theorem dX5_step_36 : decode cX5_step 36 = .ok (.iadd, 1) := by decide +kernel
theorem dX5_step_37 : decode cX5_step 37 = .ok (.putfield 76, 3) := by decide +kernel
theorem dX5_step_40 : decode cX5_step 40 = .ok (.iload_n 1, 1) := by decide +kernel
theorem dX5_step_41 : decode cX5_step 41 = .ok (.invokestatic 153, 3) := by decide +kernel
theorem dX5_step_44 : decode cX5_step 44 = .ok (.ifCond .eq 11, 3) := by decide +kernel
theorem dX5_step_47 : decode cX5_step 47 = .ok (.aload_n 0, 1) := by decide +kernel
theorem dX5_step_48 : decode cX5_step 48 = .ok (.iload_n 1, 1) := by decide +kernel
theorem dX5_step_49 : decode cX5_step 49 = .ok (.invokevirtual 157, 3) := by decide +kernel
theorem dX5_step_52 : decode cX5_step 52 = .ok (.goto 215, 3) := by decide +kernel
theorem dX5_step_55 : decode cX5_step 55 = .ok (.iload_n 1, 1) := by decide +kernel
theorem dX5_step_56 : decode cX5_step 56 = .ok (.invokestatic 160, 3) := by decide +kernel
theorem dX5_step_59 : decode cX5_step 59 = .ok (.ifCond .eq 36, 3) := by decide +kernel
theorem dX5_step_62 : decode cX5_step 62 = .ok (.aload_n 0, 1) := by decide +kernel
theorem dX5_step_63 : decode cX5_step 63 = .ok (.iload_n 1, 1) := by decide +kernel
theorem dX5_step_64 : decode cX5_step 64 = .ok (.invokestatic 163, 3) := by decide +kernel
theorem dX5_step_67 : decode cX5_step 67 = .ok (.iload_n 1, 1) := by decide +kernel
theorem dX5_step_68 : decode cX5_step 68 = .ok (.aload_n 0, 1) := by decide +kernel
theorem dX5_step_69 : decode cX5_step 69 = .ok (.iload_n 1, 1) := by decide +kernel
theorem dX5_step_70 : decode cX5_step 70 = .ok (.invokestatic 166, 3) := by decide +kernel
theorem dX5_step_73 : decode cX5_step 73 = .ok (.invokevirtual 169, 3) := by decide +kernel
theorem dX5_step_76 : decode cX5_step 76 = .ok (.invokestatic 172, 3) := by decide +kernel
theorem dX5_step_79 : decode cX5_step 79 = .ok (.invokevirtual 176, 3) := by decide +kernel
theorem dX5_step_82 : decode cX5_step 82 = .ok (.aload_n 0, 1) := by decide +kernel
theorem dX5_step_83 : decode cX5_step 83 = .ok (.dup, 1) := by decide +kernel
theorem dX5_step_84 : decode cX5_step 84 = .ok (.getfield 123, 3) := by decide +kernel
theorem dX5_step_87 : decode cX5_step 87 = .ok (.iconst 1, 1) := by decide +kernel
theorem dX5_step_88 : decode cX5_step 88 = .ok (.iadd, 1) := by decide +kernel
theorem dX5_step_89 : decode cX5_step 89 = .ok (.putfield 123, 3) := by decide +kernel
theorem dX5_step_92 : decode cX5_step 92 = .ok (.goto 175, 3) := by decide +kernel
theorem dX5_step_95 : decode cX5_step 95 = .ok (.iload_n 1, 1) := by decide +kernel
theorem dX5_step_96 : decode cX5_step 96 = .ok (.invokestatic 178, 3) := by decide +kernel
theorem dX5_step_99 : decode cX5_step 99 = .ok (.ifCond .eq 39, 3) := by decide +kernel
theorem dX5_step_102 : decode cX5_step 102 = .ok (.aload_n 0, 1) := by decide +kernel
theorem dX5_step_103 : decode cX5_step 103 = .ok (.aload_n 0, 1) := by decide +kernel
theorem dX5_step_104 : decode cX5_step 104 = .ok (.iload_n 1, 1) := by decide +kernel
theorem dX5_step_105 : decode cX5_step 105 = .ok (.invokevirtual 181, 3) := by decide +kernel
theorem dX5_step_108 : decode cX5_step 108 = .ok (.ifCond .eq 18, 3) := by decide +kernel
theorem dX5_step_111 : decode cX5_step 111 = .ok (.aload_n 0, 1) := by decide +kernel
theorem dX5_step_112 : decode cX5_step 112 = .ok (.getfield 119, 3) := by decide +kernel
theorem dX5_step_115 : decode cX5_step 115 = .ok (.aload_n 0, 1) := by decide +kernel
theorem dX5_step_116 : decode cX5_step 116 = .ok (.getfield 123, 3) := by decide +kernel
theorem dX5_step_119 : decode cX5_step 119 = .ok (.invokevirtual 184, 3) := by decide +kernel
theorem dX5_step_122 : decode cX5_step 122 = .ok (.l2i, 1) := by decide +kernel
theorem dX5_step_123 : decode cX5_step 123 = .ok (.goto 9, 3) := by decide +kernel
theorem dX5_step_126 : decode cX5_step 126 = .ok (.aload_n 0, 1) := by decide +kernel
theorem dX5_step_127 : decode cX5_step 127 = .ok (.getfield 123, 3) := by decide +kernel
theorem dX5_step_130 : decode cX5_step 130 = .ok (.iconst 1, 1) := by decide +kernel
theorem dX5_step_131 : decode cX5_step 131 = .ok (.iadd, 1) := by decide +kernel
theorem dX5_step_132 : decode cX5_step 132 = .ok (.putfield 123, 3) := by decide +kernel
theorem dX5_step_135 : decode cX5_step 135 = .ok (.goto 132, 3) := by decide +kernel
theorem dX5_step_138 : decode cX5_step 138 = .ok (.iload_n 1, 1) := by decide +kernel
theorem dX5_step_139 : decode cX5_step 139 = .ok (.invokestatic 187, 3) := by decide +kernel
theorem dX5_step_142 : decode cX5_step 142 = .ok (.ifCond .eq 31, 3) := by decide +kernel
theorem dX5_step_145 : decode cX5_step 145 = .ok (.aload_n 0, 1) := by decide +kernel
theorem dX5_step_146 : decode cX5_step 146 = .ok (.aload_n 0, 1) := by decide +kernel
theorem dX5_step_147 : decode cX5_step 147 = .ok (.getfield 119, 3) := by decide +kernel
theorem dX5_step_150 : decode cX5_step 150 = .ok (.aload_n 0, 1) := by decide +kernel
theorem dX5_step_151 : decode cX5_step 151 = .ok (.getfield 123, 3) := by decide +kernel
theorem dX5_step_154 : decode cX5_step 154 = .ok (.aload_n 0, 1) := by decide +kernel
theorem dX5_step_155 : decode cX5_step 155 = .ok (.iload_n 1, 1) := by decide +kernel
theorem dX5_step_156 : decode cX5_step 156 = .ok (.aload_n 0, 1) := by decide +kernel
theorem dX5_step_157 : decode cX5_step 157 = .ok (.invokevirtual 141, 3) := by decide +kernel
theorem dX5_step_160 : decode cX5_step 160 = .ok (.l2i, 1) := by decide +kernel
theorem dX5_step_161 : decode cX5_step 161 = .ok (.invokevirtual 190, 3) := by decide +kernel
theorem dX5_step_164 : decode cX5_step 164 = .ok (.invokevirtual 193, 3) := by decide +kernel
theorem dX5_step_167 : decode cX5_step 167 = .ok (.putfield 123, 3) := by decide +kernel
theorem dX5_step_170 : decode cX5_step 170 = .ok (.goto 97, 3) := by decide +kernel
theorem dX5_step_173 : decode cX5_step 173 = .ok (.iload_n 1, 1) := by decide +kernel
theorem dX5_step_174 : decode cX5_step 174 = .ok (.bipush 87, 2) := by decide +kernel
theorem dX5_step_176 : decode cX5_step 176 = .ok (.if_icmp .lt 27, 3) := by decide +kernel
theorem dX5_step_179 : decode cX5_step 179 = .ok (.iload_n 1, 1) := by decide +kernel
theorem dX5_step_180 : decode cX5_step 180 = .ok (.bipush 95, 2) := by decide +kernel
theorem dX5_step_182 : decode cX5_step 182 = .ok (.if_icmp .gt 21, 3) := by decide +kernel
theorem dX5_step_185 : decode cX5_step 185 = .ok (.aload_n 0, 1) := by decide +kernel
theorem dX5_step_186 : decode cX5_step 186 = .ok (.iload_n 1, 1) := by decide +kernel
theorem dX5_step_187 : decode cX5_step 187 = .ok (.invokevirtual 196, 3) := by decide +kernel
theorem dX5_step_190 : decode cX5_step 190 = .ok (.aload_n 0, 1) := by decide +kernel
theorem dX5_step_191 : decode cX5_step 191 = .ok (.dup, 1) := by decide +kernel
theorem dX5_step_192 : decode cX5_step 192 = .ok (.getfield 123, 3) := by decide +kernel
theorem dX5_step_195 : decode cX5_step 195 = .ok (.iconst 1, 1) := by decide +kernel
theorem dX5_step_196 : decode cX5_step 196 = .ok (.iadd, 1) := by decide +kernel
theorem dX5_step_197 : decode cX5_step 197 = .ok (.putfield 123, 3) := by decide +kernel
theorem dX5_step_200 : decode cX5_step 200 = .ok (.goto 67, 3) := by decide +kernel
theorem dX5_step_203 : decode cX5_step 203 = .ok (.iload_n 1, 1) := by decide +kernel
theorem dX5_step_204 : decode cX5_step 204 = .ok (.sipush 172, 3) := by decide +kernel
theorem dX5_step_207 : decode cX5_step 207 = .ok (.if_icmp .lt 18, 3) := by decide +kernel
theorem dX5_step_210 : decode cX5_step 210 = .ok (.iload_n 1, 1) := by decide +kernel
theorem dX5_step_211 : decode cX5_step 211 = .ok (.sipush 177, 3) := by decide +kernel
theorem dX5_step_214 : decode cX5_step 214 = .ok (.if_icmp .gt 11, 3) := by decide +kernel
theorem dX5_step_217 : decode cX5_step 217 = .ok (.aload_n 0, 1) := by decide +kernel
theorem dX5_step_218 : decode cX5_step 218 = .ok (.iload_n 1, 1) := by decide +kernel
theorem dX5_step_219 : decode cX5_step 219 = .ok (.invokevirtual 199, 3) := by decide +kernel
theorem dX5_step_222 : decode cX5_step 222 = .ok (.goto 45, 3) := by decide +kernel
theorem dX5_step_225 : decode cX5_step 225 = .ok (.iload_n 1, 1) := by decide +kernel
theorem dX5_step_226 : decode cX5_step 226 = .ok (.sipush 178, 3) := by decide +kernel
theorem dX5_step_229 : decode cX5_step 229 = .ok (.if_icmp .ge 15, 3) := by decide +kernel
theorem dX5_step_232 : decode cX5_step 232 = .ok (.iload_n 1, 1) := by decide +kernel
theorem dX5_step_233 : decode cX5_step 233 = .ok (.bipush 46, 2) := by decide +kernel
theorem dX5_step_235 : decode cX5_step 235 = .ok (.if_icmp .eq 9, 3) := by decide +kernel
theorem dX5_step_238 : decode cX5_step 238 = .ok (.iload_n 1, 1) := by decide +kernel
theorem dX5_step_239 : decode cX5_step 239 = .ok (.bipush 79, 2) := by decide +kernel
theorem dX5_step_241 : decode cX5_step 241 = .ok (.if_icmp .ne 11, 3) := by decide +kernel
theorem dX5_step_244 : decode cX5_step 244 = .ok (.aload_n 0, 1) := by decide +kernel
theorem dX5_step_245 : decode cX5_step 245 = .ok (.iload_n 1, 1) := by decide +kernel
theorem dX5_step_246 : decode cX5_step 246 = .ok (.invokevirtual 202, 3) := by decide +kernel
theorem dX5_step_249 : decode cX5_step 249 = .ok (.goto 18, 3) := by decide +kernel
theorem dX5_step_252 : decode cX5_step 252 = .ok (.aload_n 0, 1) := by decide +kernel
theorem dX5_step_253 : decode cX5_step 253 = .ok (.iload_n 1, 1) := by decide +kernel
theorem dX5_step_254 : decode cX5_step 254 = .ok (.invokevirtual 205, 3) := by decide +kernel
theorem dX5_step_257 : decode cX5_step 257 = .ok (.aload_n 0, 1) := by decide +kernel
theorem dX5_step_258 : decode cX5_step 258 = .ok (.dup, 1) := by decide +kernel
theorem dX5_step_259 : decode cX5_step 259 = .ok (.getfield 123, 3) := by decide +kernel
theorem dX5_step_262 : decode cX5_step 262 = .ok (.iconst 1, 1) := by decide +kernel
theorem dX5_step_263 : decode cX5_step 263 = .ok (.iadd, 1) := by decide +kernel
theorem dX5_step_264 : decode cX5_step 264 = .ok (.putfield 123, 3) := by decide +kernel
theorem dX5_step_267 : decode cX5_step 267 = .ok (.return_, 1) := by decide +kernel
theorem dX5_switchChoice_0 : decode cX5_switchChoice 0 = .ok (.aload_n 0, 1) := by decide +kernel
theorem dX5_switchChoice_1 : decode cX5_switchChoice 1 = .ok (.getfield 119, 3) := by decide +kernel
theorem dX5_switchChoice_4 : decode cX5_switchChoice 4 = .ok (.aload_n 0, 1) := by decide +kernel
theorem dX5_switchChoice_5 : decode cX5_switchChoice 5 = .ok (.getfield 123, 3) := by decide +kernel
theorem dX5_switchChoice_8 : decode cX5_switchChoice 8 = .ok (.invokevirtual 184, 3) := by decide +kernel
theorem dX5_switchChoice_11 : decode cX5_switchChoice 11 = .ok (.l2i, 1) := by decide +kernel
theorem dX5_switchChoice_12 : decode cX5_switchChoice 12 = .ok (.istore_n 3, 1) := by decide +kernel
theorem dX5_switchChoice_13 : decode cX5_switchChoice 13 = .ok (.aload_n 0, 1) := by decide +kernel
theorem dX5_switchChoice_14 : decode cX5_switchChoice 14 = .ok (.getfield 119, 3) := by decide +kernel
theorem dX5_switchChoice_17 : decode cX5_switchChoice 17 = .ok (.aload_n 0, 1) := by decide +kernel
theorem dX5_switchChoice_18 : decode cX5_switchChoice 18 = .ok (.getfield 123, 3) := by decide +kernel
theorem dX5_switchChoice_21 : decode cX5_switchChoice 21 = .ok (.invokevirtual 222, 3) := by decide +kernel

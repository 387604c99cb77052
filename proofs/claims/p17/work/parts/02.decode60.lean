theorem dX5_step_123 : decode cX5_step 123 = .ok (.goto 9, 3) := by decide +kernel
theorem dX5_step_126 : decode cX5_step 126 = .ok (.aload_n 0, 1) := by decide +kernel
theorem dX5_step_127 : decode cX5_step 127 = .ok (.getfield 123, 3) := by decide +kernel
theorem dX5_step_130 : decode cX5_step 130 = .ok (.iconst 1, 1) := by decide +kernel
theorem dX5_step_131 : decode cX5_step 131 = .ok (.iadd, 1) := by decide +kernel
theorem dX5_step_132 : decode cX5_step 132 = .ok (.putfield 123, 3) := by decide +kernel
theorem dX5_step_135 : decode cX5_step 135 = .ok (.goto 132, 3) := by decide +kernel
theorem dX5_step_138 : decode cX5_step 138 = .ok (.iload_n 1, 1) := by decide +kernel
theorem dX5_step_139 : decode cX5_step 139 = .ok (.invokestatic 187, 3) := by decide +kernel
theorem dX5_step_142 : decode cX5_step 142 = .ok (.ifCond .eq 31, 3) := by decide +kernel
theorem dX5_step_145 : decode cX5_step 145 = .ok (.aload_n 0, 1) := by decide +kernel
theorem dX5_step_146 : decode cX5_step 146 = .ok (.aload_n 0, 1) := by decide +kernel
theorem dX5_step_147 : decode cX5_step 147 = .ok (.getfield 119, 3) := by decide +kernel
theorem dX5_step_150 : decode cX5_step 150 = .ok (.aload_n 0, 1) := by decide +kernel
theorem dX5_step_151 : decode cX5_step 151 = .ok (.getfield 123, 3) := by decide +kernel
theorem dX5_step_154 : decode cX5_step 154 = .ok (.aload_n 0, 1) := by decide +kernel
theorem dX5_step_155 : decode cX5_step 155 = .ok (.iload_n 1, 1) := by decide +kernel
theorem dX5_step_156 : decode cX5_step 156 = .ok (.aload_n 0, 1) := by decide +kernel
theorem dX5_step_157 : decode cX5_step 157 = .ok (.invokevirtual 141, 3) := by decide +kernel
theorem dX5_step_160 : decode cX5_step 160 = .ok (.l2i, 1) := by decide +kernel
theorem dX5_step_161 : decode cX5_step 161 = .ok (.invokevirtual 190, 3) := by decide +kernel
theorem dX5_step_164 : decode cX5_step 164 = .ok (.invokevirtual 193, 3) := by decide +kernel
theorem dX5_step_167 : decode cX5_step 167 = .ok (.putfield 123, 3) := by decide +kernel
theorem dX5_step_170 : decode cX5_step 170 = .ok (.goto 97, 3) := by decide +kernel
theorem dX5_step_173 : decode cX5_step 173 = .ok (.iload_n 1, 1) := by decide +kernel
theorem dX5_step_174 : decode cX5_step 174 = .ok (.bipush 87, 2) := by decide +kernel
theorem dX5_step_176 : decode cX5_step 176 = .ok (.if_icmp .lt 27, 3) := by decide +kernel
theorem dX5_step_179 : decode cX5_step 179 = .ok (.iload_n 1, 1) := by decide +kernel
theorem dX5_step_180 : decode cX5_step 180 = .ok (.bipush 95, 2) := by decide +kernel
theorem dX5_step_182 : decode cX5_step 182 = .ok (.if_icmp .gt 21, 3) := by decide +kernel
theorem dX5_step_185 : decode cX5_step 185 = .ok (.aload_n 0, 1) := by decide +kernel
theorem dX5_step_186 : decode cX5_step 186 = .ok (.iload_n 1, 1) := by decide +kernel
theorem dX5_step_187 : decode cX5_step 187 = .ok (.invokevirtual 196, 3) := by decide +kernel
theorem dX5_step_190 : decode cX5_step 190 = .ok (.aload_n 0, 1) := by decide +kernel
theorem dX5_step_191 : decode cX5_step 191 = .ok (.dup, 1) := by decide +kernel
theorem dX5_step_192 : decode cX5_step 192 = .ok (.getfield 123, 3) := by decide +kernel
theorem dX5_step_195 : decode cX5_step 195 = .ok (.iconst 1, 1) := by decide +kernel
theorem dX5_step_196 : decode cX5_step 196 = .ok (.iadd, 1) := by decide +kernel
theorem dX5_step_197 : decode cX5_step 197 = .ok (.putfield 123, 3) := by decide +kernel
theorem dX5_step_200 : decode cX5_step 200 = .ok (.goto 67, 3) := by decide +kernel
theorem dX5_step_203 : decode cX5_step 203 = .ok (.iload_n 1, 1) := by decide +kernel
theorem dX5_step_204 : decode cX5_step 204 = .ok (.sipush 172, 3) := by decide +kernel
theorem dX5_step_207 : decode cX5_step 207 = .ok (.if_icmp .lt 18, 3) := by decide +kernel
theorem dX5_step_210 : decode cX5_step 210 = .ok (.iload_n 1, 1) := by decide +kernel
theorem dX5_step_211 : decode cX5_step 211 = .ok (.sipush 177, 3) := by decide +kernel
theorem dX5_step_214 : decode cX5_step 214 = .ok (.if_icmp .gt 11, 3) := by decide +kernel
theorem dX5_step_217 : decode cX5_step 217 = .ok (.aload_n 0, 1) := by decide +kernel
theorem dX5_step_218 : decode cX5_step 218 = .ok (.iload_n 1, 1) := by decide +kernel
theorem dX5_step_219 : decode cX5_step 219 = .ok (.invokevirtual 199, 3) := by decide +kernel
theorem dX5_step_222 : decode cX5_step 222 = .ok (.goto 45, 3) := by decide +kernel
theorem dX5_step_225 : decode cX5_step 225 = .ok (.iload_n 1, 1) := by decide +kernel
theorem dX5_step_226 : decode cX5_step 226 = .ok (.sipush 178, 3) := by decide +kernel
theorem dX5_step_229 : decode cX5_step 229 = .ok (.if_icmp .ge 15, 3) := by decide +kernel
theorem dX5_step_232 : decode cX5_step 232 = .ok (.iload_n 1, 1) := by decide +kernel
theorem dX5_step_233 : decode cX5_step 233 = .ok (.bipush 46, 2) := by decide +kernel
theorem dX5_step_235 : decode cX5_step 235 = .ok (.if_icmp .eq 9, 3) := by decide +kernel
theorem dX5_step_238 : decode cX5_step 238 = .ok (.iload_n 1, 1) := by decide +kernel
theorem dX5_step_239 : decode cX5_step 239 = .ok (.bipush 79, 2) := by decide +kernel
theorem dX5_step_241 : decode cX5_step 241 = .ok (.if_icmp .ne 11, 3) := by decide +kernel
theorem dX5_step_244 : decode cX5_step 244 = .ok (.aload_n 0, 1) := by decide +kernel
theorem dX5_step_245 : decode cX5_step 245 = .ok (.iload_n 1, 1) := by decide +kernel
theorem dX5_step_246 : decode cX5_step 246 = .ok (.invokevirtual 202, 3) := by decide +kernel
theorem dX5_step_249 : decode cX5_step 249 = .ok (.goto 18, 3) := by decide +kernel
theorem dX5_step_252 : decode cX5_step 252 = .ok (.aload_n 0, 1) := by decide +kernel
theorem dX5_step_253 : decode cX5_step 253 = .ok (.iload_n 1, 1) := by decide +kernel
theorem dX5_step_254 : decode cX5_step 254 = .ok (.invokevirtual 205, 3) := by decide +kernel
theorem dX5_step_257 : decode cX5_step 257 = .ok (.aload_n 0, 1) := by decide +kernel
theorem dX5_step_258 : decode cX5_step 258 = .ok (.dup, 1) := by decide +kernel
theorem dX5_step_259 : decode cX5_step 259 = .ok (.getfield 123, 3) := by decide +kernel
theorem dX5_step_262 : decode cX5_step 262 = .ok (.iconst 1, 1) := by decide +kernel
theorem dX5_step_263 : decode cX5_step 263 = .ok (.iadd, 1) := by decide +kernel
theorem dX5_step_264 : decode cX5_step 264 = .ok (.putfield 123, 3) := by decide +kernel
theorem dX5_step_267 : decode cX5_step 267 = .ok (.return_, 1) := by decide +kernel
theorem dX5_switchChoice_0 : decode cX5_switchChoice 0 = .ok (.aload_n 0, 1) := by decide +kernel
theorem dX5_switchChoice_1 : decode cX5_switchChoice 1 = .ok (.getfield 119, 3) := by decide +kernel
theorem dX5_switchChoice_4 : decode cX5_switchChoice 4 = .ok (.aload_n 0, 1) := by decide +kernel
theorem dX5_switchChoice_5 : decode cX5_switchChoice 5 = .ok (.getfield 123, 3) := by decide +kernel
theorem dX5_switchChoice_8 : decode cX5_switchChoice 8 = .ok (.invokevirtual 184, 3) := by decide +kernel
theorem dX5_switchChoice_11 : decode cX5_switchChoice 11 = .ok (.l2i, 1) := by decide +kernel
theorem dX5_switchChoice_12 : decode cX5_switchChoice 12 = .ok (.istore_n 3, 1) := by decide +kernel
theorem dX5_switchChoice_13 : decode cX5_switchChoice 13 = .ok (.aload_n 0, 1) := by decide +kernel
theorem dX5_switchChoice_14 : decode cX5_switchChoice 14 = .ok (.getfield 119, 3) := by decide +kernel
theorem dX5_switchChoice_17 : decode cX5_switchChoice 17 = .ok (.aload_n 0, 1) := by decide +kernel
theorem dX5_switchChoice_18 : decode cX5_switchChoice 18 = .ok (.getfield 123, 3) := by decide +kernel
theorem dX5_switchChoice_21 : decode cX5_switchChoice 21 = .ok (.invokevirtual 222, 3) := by decide +kernel
theorem dX5_switchChoice_24 : decode cX5_switchChoice 24 = .ok (.iconst 1, 1) := by decide +kernel
theorem dX5_switchChoice_25 : decode cX5_switchChoice 25 = .ok (.isub, 1) := by decide +kernel
theorem dX5_switchChoice_26 : decode cX5_switchChoice 26 = .ok (.istore 4, 2) := by decide +kernel
theorem dX5_switchChoice_28 : decode cX5_switchChoice 28 = .ok (.iload_n 1, 1) := by decide +kernel
theorem dX5_switchChoice_29 : decode cX5_switchChoice 29 = .ok (.sipush 170, 3) := by decide +kernel
theorem dX5_switchChoice_32 : decode cX5_switchChoice 32 = .ok (.if_icmp .ne 45, 3) := by decide +kernel
theorem dX5_switchChoice_35 : decode cX5_switchChoice 35 = .ok (.iload_n 2, 1) := by decide +kernel
theorem dX5_switchChoice_36 : decode cX5_switchChoice 36 = .ok (.i2l, 1) := by decide +kernel
theorem dX5_switchChoice_37 : decode cX5_switchChoice 37 = .ok (.aload_n 0, 1) := by decide +kernel
theorem dX5_switchChoice_38 : decode cX5_switchChoice 38 = .ok (.getfield 119, 3) := by decide +kernel
theorem dX5_switchChoice_41 : decode cX5_switchChoice 41 = .ok (.iload_n 3, 1) := by decide +kernel
theorem dX5_switchChoice_42 : decode cX5_switchChoice 42 = .ok (.iconst 1, 1) := by decide +kernel
theorem dX5_switchChoice_43 : decode cX5_switchChoice 43 = .ok (.iadd, 1) := by decide +kernel
theorem dX5_switchChoice_44 : decode cX5_switchChoice 44 = .ok (.invokevirtual 225, 3) := by decide +kernel
theorem dX5_switchChoice_47 : decode cX5_switchChoice 47 = .ok (.i2l, 1) := by decide +kernel
theorem dX5_switchChoice_48 : decode cX5_switchChoice 48 = .ok (.lsub, 1) := by decide +kernel
theorem dX5_switchChoice_49 : decode cX5_switchChoice 49 = .ok (.lstore 5, 2) := by decide +kernel
theorem dX5_switchChoice_51 : decode cX5_switchChoice 51 = .ok (.lload 5, 2) := by decide +kernel
theorem dX5_switchChoice_53 : decode cX5_switchChoice 53 = .ok (.lconst 0, 1) := by decide +kernel
theorem dX5_switchChoice_54 : decode cX5_switchChoice 54 = .ok (.lcmp, 1) := by decide +kernel
theorem dX5_switchChoice_55 : decode cX5_switchChoice 55 = .ok (.ifCond .lt 12, 3) := by decide +kernel
theorem dX5_switchChoice_58 : decode cX5_switchChoice 58 = .ok (.lload 5, 2) := by decide +kernel
theorem dX5_switchChoice_60 : decode cX5_switchChoice 60 = .ok (.iload 4, 2) := by decide +kernel
theorem dX5_switchChoice_62 : decode cX5_switchChoice 62 = .ok (.i2l, 1) := by decide +kernel
theorem dX5_switchChoice_63 : decode cX5_switchChoice 63 = .ok (.lcmp, 1) := by decide +kernel
theorem dX5_switchChoice_64 : decode cX5_switchChoice 64 = .ok (.ifCond .lt 7, 3) := by decide +kernel
theorem dX5_switchChoice_67 : decode cX5_switchChoice 67 = .ok (.iconst 0, 1) := by decide +kernel
theorem dX5_switchChoice_68 : decode cX5_switchChoice 68 = .ok (.goto 8, 3) := by decide +kernel
theorem dX5_switchChoice_71 : decode cX5_switchChoice 71 = .ok (.lload 5, 2) := by decide +kernel
theorem dX5_switchChoice_73 : decode cX5_switchChoice 73 = .ok (.l2i, 1) := by decide +kernel
theorem dX5_switchChoice_74 : decode cX5_switchChoice 74 = .ok (.iconst 1, 1) := by decide +kernel
theorem dX5_switchChoice_75 : decode cX5_switchChoice 75 = .ok (.iadd, 1) := by decide +kernel
theorem dX5_switchChoice_76 : decode cX5_switchChoice 76 = .ok (.ireturn, 1) := by decide +kernel
theorem dX5_switchChoice_77 : decode cX5_switchChoice 77 = .ok (.iconst 1, 1) := by decide +kernel
theorem dX5_switchChoice_78 : decode cX5_switchChoice 78 = .ok (.istore 5, 2) := by decide +kernel
theorem dX5_switchChoice_80 : decode cX5_switchChoice 80 = .ok (.iload 5, 2) := by decide +kernel
theorem dX5_switchChoice_82 : decode cX5_switchChoice 82 = .ok (.iload 4, 2) := by decide +kernel
theorem dX5_switchChoice_84 : decode cX5_switchChoice 84 = .ok (.if_icmp .gt 32, 3) := by decide +kernel
theorem dX5_switchChoice_87 : decode cX5_switchChoice 87 = .ok (.aload_n 0, 1) := by decide +kernel
theorem dX5_switchChoice_88 : decode cX5_switchChoice 88 = .ok (.getfield 119, 3) := by decide +kernel
theorem dX5_switchChoice_91 : decode cX5_switchChoice 91 = .ok (.iload_n 3, 1) := by decide +kernel
theorem dX5_switchChoice_92 : decode cX5_switchChoice 92 = .ok (.iconst 2, 1) := by decide +kernel
theorem dX5_switchChoice_93 : decode cX5_switchChoice 93 = .ok (.iadd, 1) := by decide +kernel
theorem dX5_switchChoice_94 : decode cX5_switchChoice 94 = .ok (.iload 4, 2) := by decide +kernel
theorem dX5_switchChoice_96 : decode cX5_switchChoice 96 = .ok (.iadd, 1) := by decide +kernel
theorem dX5_switchChoice_97 : decode cX5_switchChoice 97 = .ok (.iload 5, 2) := by decide +kernel
theorem dX5_switchChoice_99 : decode cX5_switchChoice 99 = .ok (.iadd, 1) := by decide +kernel
theorem dX5_switchChoice_100 : decode cX5_switchChoice 100 = .ok (.invokevirtual 225, 3) := by decide +kernel
theorem dX5_switchChoice_103 : decode cX5_switchChoice 103 = .ok (.iload_n 2, 1) := by decide +kernel
theorem dX5_switchChoice_104 : decode cX5_switchChoice 104 = .ok (.if_icmp .ne 6, 3) := by decide +kernel
theorem dX5_switchChoice_107 : decode cX5_switchChoice 107 = .ok (.iload 5, 2) := by decide +kernel
theorem dX5_switchChoice_109 : decode cX5_switchChoice 109 = .ok (.ireturn, 1) := by decide +kernel
theorem dX5_switchChoice_110 : decode cX5_switchChoice 110 = .ok (.iinc 5 1, 3) := by decide +kernel
theorem dX5_switchChoice_113 : decode cX5_switchChoice 113 = .ok (.goto (-33), 3) := by decide +kernel
theorem dX5_switchChoice_116 : decode cX5_switchChoice 116 = .ok (.iconst 0, 1) := by decide +kernel
theorem dX5_switchChoice_117 : decode cX5_switchChoice 117 = .ok (.ireturn, 1) := by decide +kernel
theorem dX5_tellLength_0 : decode cX5_tellLength 0 = .ok (.lload_n 1, 1) := by decide +kernel
theorem dX5_tellLength_1 : decode cX5_tellLength 1 = .ok (.lconst 0, 1) := by decide +kernel
theorem dX5_tellLength_2 : decode cX5_tellLength 2 = .ok (.lcmp, 1) := by decide +kernel
theorem dX5_tellLength_3 : decode cX5_tellLength 3 = .ok (.ifCond .ne 9, 3) := by decide +kernel
theorem dX5_tellLength_6 : decode cX5_tellLength 6 = .ok (.aload_n 0, 1) := by decide +kernel
theorem dX5_tellLength_7 : decode cX5_tellLength 7 = .ok (.iconst 1, 1) := by decide +kernel
theorem dX5_tellLength_8 : decode cX5_tellLength 8 = .ok (.invokevirtual 211, 3) := by decide +kernel
theorem dX5_tellLength_11 : decode cX5_tellLength 11 = .ok (.return_, 1) := by decide +kernel
theorem dX5_tellLength_12 : decode cX5_tellLength 12 = .ok (.aload_n 0, 1) := by decide +kernel

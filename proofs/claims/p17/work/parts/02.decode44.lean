theorem dX3_findBacks_157 : decode cX3_findBacks 157 = .ok (.iaload, 1) := by decide +kernel
theorem dX3_findBacks_158 : decode cX3_findBacks 158 = .ok (.istore 4, 2) := by decide +kernel
theorem dX3_findBacks_160 : decode cX3_findBacks 160 = .ok (.aload_n 0, 1) := by decide +kernel
theorem dX3_findBacks_161 : decode cX3_findBacks 161 = .ok (.getfield 27, 3) := by decide +kernel
theorem dX3_findBacks_164 : decode cX3_findBacks 164 = .ok (.iload 4, 2) := by decide +kernel
theorem dX3_findBacks_166 : decode cX3_findBacks 166 = .ok (.iload_n 2, 1) := by decide +kernel
theorem dX3_findBacks_167 : decode cX3_findBacks 167 = .ok (.iastore, 1) := by decide +kernel
theorem dX3_findBacks_168 : decode cX3_findBacks 168 = .ok (.aload_n 0, 1) := by decide +kernel
theorem dX3_findBacks_169 : decode cX3_findBacks 169 = .ok (.getfield 47, 3) := by decide +kernel
theorem dX3_findBacks_172 : decode cX3_findBacks 172 = .ok (.aload_n 0, 1) := by decide +kernel
theorem dX3_findBacks_173 : decode cX3_findBacks 173 = .ok (.getfield 21, 3) := by decide +kernel
theorem dX3_findBacks_176 : decode cX3_findBacks 176 = .ok (.iload_n 3, 1) := by decide +kernel
theorem dX3_findBacks_177 : decode cX3_findBacks 177 = .ok (.iaload, 1) := by decide +kernel
theorem dX3_findBacks_178 : decode cX3_findBacks 178 = .ok (.dup2, 1) := by decide +kernel
theorem dX3_findBacks_179 : decode cX3_findBacks 179 = .ok (.iaload, 1) := by decide +kernel
theorem dX3_findBacks_180 : decode cX3_findBacks 180 = .ok (.iconst 1, 1) := by decide +kernel
theorem dX3_findBacks_181 : decode cX3_findBacks 181 = .ok (.iadd, 1) := by decide +kernel
theorem dX3_findBacks_182 : decode cX3_findBacks 182 = .ok (.iastore, 1) := by decide +kernel
theorem dX3_findBacks_183 : decode cX3_findBacks 183 = .ok (.iinc 3 1, 3) := by decide +kernel
theorem dX3_findBacks_186 : decode cX3_findBacks 186 = .ok (.goto (-51), 3) := by decide +kernel
theorem dX3_findBacks_189 : decode cX3_findBacks 189 = .ok (.iinc 2 1, 3) := by decide +kernel
theorem dX3_findBacks_192 : decode cX3_findBacks 192 = .ok (.goto (-72), 3) := by decide +kernel
theorem dX3_findBacks_195 : decode cX3_findBacks 195 = .ok (.return_, 1) := by decide +kernel
theorem dX3_findBlocks_0 : decode cX3_findBlocks 0 = .ok (.aload_n 0, 1) := by decide +kernel
theorem dX3_findBlocks_1 : decode cX3_findBlocks 1 = .ok (.getfield 15, 3) := by decide +kernel
theorem dX3_findBlocks_4 : decode cX3_findBlocks 4 = .ok (.arraylength, 1) := by decide +kernel
theorem dX3_findBlocks_5 : decode cX3_findBlocks 5 = .ok (.aload_n 0, 1) := by decide +kernel
theorem dX3_findBlocks_6 : decode cX3_findBlocks 6 = .ok (.getfield 53, 3) := by decide +kernel
theorem dX3_findBlocks_9 : decode cX3_findBlocks 9 = .ok (.getfield 82, 3) := by decide +kernel
theorem dX3_findBlocks_12 : decode cX3_findBlocks 12 = .ok (.if_icmp .ge 33, 3) := by decide +kernel
theorem dX3_findBlocks_15 : decode cX3_findBlocks 15 = .ok (.aload_n 0, 1) := by decide +kernel
theorem dX3_findBlocks_16 : decode cX3_findBlocks 16 = .ok (.iconst 2, 1) := by decide +kernel
theorem dX3_findBlocks_17 : decode cX3_findBlocks 17 = .ok (.aload_n 0, 1) := by decide +kernel
theorem dX3_findBlocks_18 : decode cX3_findBlocks 18 = .ok (.getfield 53, 3) := by decide +kernel
theorem dX3_findBlocks_21 : decode cX3_findBlocks 21 = .ok (.getfield 82, 3) := by decide +kernel
theorem dX3_findBlocks_24 : decode cX3_findBlocks 24 = .ok (.imul, 1) := by decide +kernel
theorem dX3_findBlocks_25 : decode cX3_findBlocks 25 = .ok (.newarray .int, 2) := by decide +kernel
theorem dX3_findBlocks_27 : decode cX3_findBlocks 27 = .ok (.putfield 15, 3) := by decide +kernel
theorem dX3_findBlocks_30 : decode cX3_findBlocks 30 = .ok (.aload_n 0, 1) := by decide +kernel
theorem dX3_findBlocks_31 : decode cX3_findBlocks 31 = .ok (.iconst 2, 1) := by decide +kernel
theorem dX3_findBlocks_32 : decode cX3_findBlocks 32 = .ok (.aload_n 0, 1) := by decide +kernel
theorem dX3_findBlocks_33 : decode cX3_findBlocks 33 = .ok (.getfield 53, 3) := by decide +kernel
theorem dX3_findBlocks_36 : decode cX3_findBlocks 36 = .ok (.getfield 82, 3) := by decide +kernel
theorem dX3_findBlocks_39 : decode cX3_findBlocks 39 = .ok (.imul, 1) := by decide +kernel
theorem dX3_findBlocks_40 : decode cX3_findBlocks 40 = .ok (.newarray .int, 2) := by decide +kernel
theorem dX3_findBlocks_42 : decode cX3_findBlocks 42 = .ok (.putfield 9, 3) := by decide +kernel
theorem dX3_findBlocks_45 : decode cX3_findBlocks 45 = .ok (.aload_n 0, 1) := by decide +kernel
theorem dX3_findBlocks_46 : decode cX3_findBlocks 46 = .ok (.getfield 15, 3) := by decide +kernel
theorem dX3_findBlocks_49 : decode cX3_findBlocks 49 = .ok (.iconst 0, 1) := by decide +kernel
theorem dX3_findBlocks_50 : decode cX3_findBlocks 50 = .ok (.invokestatic 85, 3) := by decide +kernel
theorem dX3_findBlocks_53 : decode cX3_findBlocks 53 = .ok (.aload_n 0, 1) := by decide +kernel
theorem dX3_findBlocks_54 : decode cX3_findBlocks 54 = .ok (.iconst 0, 1) := by decide +kernel
theorem dX3_findBlocks_55 : decode cX3_findBlocks 55 = .ok (.invokevirtual 91, 3) := by decide +kernel
theorem dX3_findBlocks_58 : decode cX3_findBlocks 58 = .ok (.iconst 0, 1) := by decide +kernel
theorem dX3_findBlocks_59 : decode cX3_findBlocks 59 = .ok (.istore_n 1, 1) := by decide +kernel
theorem dX3_findBlocks_60 : decode cX3_findBlocks 60 = .ok (.iload_n 1, 1) := by decide +kernel
theorem dX3_findBlocks_61 : decode cX3_findBlocks 61 = .ok (.aload_n 0, 1) := by decide +kernel
theorem dX3_findBlocks_62 : decode cX3_findBlocks 62 = .ok (.getfield 53, 3) := by decide +kernel
theorem dX3_findBlocks_65 : decode cX3_findBlocks 65 = .ok (.getfield 82, 3) := by decide +kernel
theorem dX3_findBlocks_68 : decode cX3_findBlocks 68 = .ok (.if_icmp .ge 69, 3) := by decide +kernel
theorem dX3_findBlocks_71 : decode cX3_findBlocks 71 = .ok (.aload_n 0, 1) := by decide +kernel
theorem dX3_findBlocks_72 : decode cX3_findBlocks 72 = .ok (.getfield 53, 3) := by decide +kernel
theorem dX3_findBlocks_75 : decode cX3_findBlocks 75 = .ok (.iload_n 1, 1) := by decide +kernel
theorem dX3_findBlocks_76 : decode cX3_findBlocks 76 = .ok (.invokevirtual 95, 3) := by decide +kernel
theorem dX3_findBlocks_79 : decode cX3_findBlocks 79 = .ok (.istore_n 2, 1) := by decide +kernel
theorem dX3_findBlocks_80 : decode cX3_findBlocks 80 = .ok (.iconst 0, 1) := by decide +kernel
theorem dX3_findBlocks_81 : decode cX3_findBlocks 81 = .ok (.istore_n 3, 1) := by decide +kernel
theorem dX3_findBlocks_82 : decode cX3_findBlocks 82 = .ok (.iload_n 3, 1) := by decide +kernel
theorem dX3_findBlocks_83 : decode cX3_findBlocks 83 = .ok (.iload_n 2, 1) := by decide +kernel
theorem dX3_findBlocks_84 : decode cX3_findBlocks 84 = .ok (.if_icmp .ge 22, 3) := by decide +kernel
theorem dX3_findBlocks_87 : decode cX3_findBlocks 87 = .ok (.aload_n 0, 1) := by decide +kernel
theorem dX3_findBlocks_88 : decode cX3_findBlocks 88 = .ok (.aload_n 0, 1) := by decide +kernel
theorem dX3_findBlocks_89 : decode cX3_findBlocks 89 = .ok (.getfield 53, 3) := by decide +kernel
theorem dX3_findBlocks_92 : decode cX3_findBlocks 92 = .ok (.iload_n 1, 1) := by decide +kernel
theorem dX3_findBlocks_93 : decode cX3_findBlocks 93 = .ok (.iload_n 3, 1) := by decide +kernel
theorem dX3_findBlocks_94 : decode cX3_findBlocks 94 = .ok (.invokevirtual 99, 3) := by decide +kernel
theorem dX3_findBlocks_97 : decode cX3_findBlocks 97 = .ok (.invokevirtual 91, 3) := by decide +kernel
theorem dX3_findBlocks_100 : decode cX3_findBlocks 100 = .ok (.iinc 3 1, 3) := by decide +kernel
theorem dX3_findBlocks_103 : decode cX3_findBlocks 103 = .ok (.goto (-21), 3) := by decide +kernel
theorem dX3_findBlocks_106 : decode cX3_findBlocks 106 = .ok (.iload_n 2, 1) := by decide +kernel
theorem dX3_findBlocks_107 : decode cX3_findBlocks 107 = .ok (.ifCond .gt 17, 3) := by decide +kernel
theorem dX3_findBlocks_110 : decode cX3_findBlocks 110 = .ok (.aload_n 0, 1) := by decide +kernel
theorem dX3_findBlocks_111 : decode cX3_findBlocks 111 = .ok (.getfield 53, 3) := by decide +kernel
theorem dX3_findBlocks_114 : decode cX3_findBlocks 114 = .ok (.iload_n 1, 1) := by decide +kernel
theorem dX3_findBlocks_115 : decode cX3_findBlocks 115 = .ok (.invokevirtual 103, 3) := by decide +kernel
theorem dX3_findBlocks_118 : decode cX3_findBlocks 118 = .ok (.invokestatic 106, 3) := by decide +kernel
theorem dX3_findBlocks_121 : decode cX3_findBlocks 121 = .ok (.ifCond .ne 10, 3) := by decide +kernel
theorem dX3_findBlocks_124 : decode cX3_findBlocks 124 = .ok (.aload_n 0, 1) := by decide +kernel
theorem dX3_findBlocks_125 : decode cX3_findBlocks 125 = .ok (.iload_n 1, 1) := by decide +kernel
theorem dX3_findBlocks_126 : decode cX3_findBlocks 126 = .ok (.iconst 1, 1) := by decide +kernel
theorem dX3_findBlocks_127 : decode cX3_findBlocks 127 = .ok (.iadd, 1) := by decide +kernel
theorem dX3_findBlocks_128 : decode cX3_findBlocks 128 = .ok (.invokevirtual 91, 3) := by decide +kernel
theorem dX3_findBlocks_131 : decode cX3_findBlocks 131 = .ok (.iinc 1 1, 3) := by decide +kernel
theorem dX3_findBlocks_134 : decode cX3_findBlocks 134 = .ok (.goto (-74), 3) := by decide +kernel
theorem dX3_findBlocks_137 : decode cX3_findBlocks 137 = .ok (.iconst 0, 1) := by decide +kernel
theorem dX3_findBlocks_138 : decode cX3_findBlocks 138 = .ok (.istore_n 1, 1) := by decide +kernel
theorem dX3_findBlocks_139 : decode cX3_findBlocks 139 = .ok (.iload_n 1, 1) := by decide +kernel
theorem dX3_findBlocks_140 : decode cX3_findBlocks 140 = .ok (.aload_n 0, 1) := by decide +kernel
theorem dX3_findBlocks_141 : decode cX3_findBlocks 141 = .ok (.getfield 53, 3) := by decide +kernel
theorem dX3_findBlocks_144 : decode cX3_findBlocks 144 = .ok (.getfield 112, 3) := by decide +kernel
theorem dX3_findBlocks_147 : decode cX3_findBlocks 147 = .ok (.if_icmp .ge 48, 3) := by decide +kernel
theorem dX3_findBlocks_150 : decode cX3_findBlocks 150 = .ok (.aload_n 0, 1) := by decide +kernel
theorem dX3_findBlocks_151 : decode cX3_findBlocks 151 = .ok (.aload_n 0, 1) := by decide +kernel
theorem dX3_findBlocks_152 : decode cX3_findBlocks 152 = .ok (.getfield 53, 3) := by decide +kernel
theorem dX3_findBlocks_155 : decode cX3_findBlocks 155 = .ok (.getfield 115, 3) := by decide +kernel
theorem dX3_findBlocks_158 : decode cX3_findBlocks 158 = .ok (.iload_n 1, 1) := by decide +kernel
theorem dX3_findBlocks_159 : decode cX3_findBlocks 159 = .ok (.iaload, 1) := by decide +kernel
theorem dX3_findBlocks_160 : decode cX3_findBlocks 160 = .ok (.invokevirtual 91, 3) := by decide +kernel
theorem dX3_findBlocks_163 : decode cX3_findBlocks 163 = .ok (.aload_n 0, 1) := by decide +kernel
theorem dX3_findBlocks_164 : decode cX3_findBlocks 164 = .ok (.aload_n 0, 1) := by decide +kernel
theorem dX3_findBlocks_165 : decode cX3_findBlocks 165 = .ok (.getfield 53, 3) := by decide +kernel
theorem dX3_findBlocks_168 : decode cX3_findBlocks 168 = .ok (.getfield 118, 3) := by decide +kernel
theorem dX3_findBlocks_171 : decode cX3_findBlocks 171 = .ok (.iload_n 1, 1) := by decide +kernel
theorem dX3_findBlocks_172 : decode cX3_findBlocks 172 = .ok (.iaload, 1) := by decide +kernel
theorem dX3_findBlocks_173 : decode cX3_findBlocks 173 = .ok (.invokevirtual 91, 3) := by decide +kernel
theorem dX3_findBlocks_176 : decode cX3_findBlocks 176 = .ok (.aload_n 0, 1) := by decide +kernel
theorem dX3_findBlocks_177 : decode cX3_findBlocks 177 = .ok (.aload_n 0, 1) := by decide +kernel
theorem dX3_findBlocks_178 : decode cX3_findBlocks 178 = .ok (.getfield 53, 3) := by decide +kernel
theorem dX3_findBlocks_181 : decode cX3_findBlocks 181 = .ok (.getfield 121, 3) := by decide +kernel
theorem dX3_findBlocks_184 : decode cX3_findBlocks 184 = .ok (.iload_n 1, 1) := by decide +kernel
theorem dX3_findBlocks_185 : decode cX3_findBlocks 185 = .ok (.iaload, 1) := by decide +kernel
theorem dX3_findBlocks_186 : decode cX3_findBlocks 186 = .ok (.invokevirtual 91, 3) := by decide +kernel
theorem dX3_findBlocks_189 : decode cX3_findBlocks 189 = .ok (.iinc 1 1, 3) := by decide +kernel
theorem dX3_findBlocks_192 : decode cX3_findBlocks 192 = .ok (.goto (-53), 3) := by decide +kernel
theorem dX3_findBlocks_195 : decode cX3_findBlocks 195 = .ok (.aload_n 0, 1) := by decide +kernel
theorem dX3_findBlocks_196 : decode cX3_findBlocks 196 = .ok (.iconst 0, 1) := by decide +kernel
theorem dX3_findBlocks_197 : decode cX3_findBlocks 197 = .ok (.putfield 78, 3) := by decide +kernel
theorem dX3_findBlocks_200 : decode cX3_findBlocks 200 = .ok (.iconst 0, 1) := by decide +kernel
theorem dX3_findBlocks_201 : decode cX3_findBlocks 201 = .ok (.istore_n 1, 1) := by decide +kernel
theorem dX3_findBlocks_202 : decode cX3_findBlocks 202 = .ok (.iload_n 1, 1) := by decide +kernel
theorem dX3_findBlocks_203 : decode cX3_findBlocks 203 = .ok (.aload_n 0, 1) := by decide +kernel
theorem dX3_findBlocks_204 : decode cX3_findBlocks 204 = .ok (.getfield 53, 3) := by decide +kernel
theorem dX3_findBlocks_207 : decode cX3_findBlocks 207 = .ok (.getfield 82, 3) := by decide +kernel
theorem dX3_findBlocks_210 : decode cX3_findBlocks 210 = .ok (.if_icmp .ge 50, 3) := by decide +kernel
theorem dX3_findBlocks_213 : decode cX3_findBlocks 213 = .ok (.aload_n 0, 1) := by decide +kernel
theorem dX3_findBlocks_214 : decode cX3_findBlocks 214 = .ok (.getfield 15, 3) := by decide +kernel
theorem dX3_findBlocks_217 : decode cX3_findBlocks 217 = .ok (.iload_n 1, 1) := by decide +kernel
theorem dX3_findBlocks_218 : decode cX3_findBlocks 218 = .ok (.iaload, 1) := by decide +kernel
theorem dX3_findBlocks_219 : decode cX3_findBlocks 219 = .ok (.ifCond .eq 23, 3) := by decide +kernel
theorem dX3_findBlocks_222 : decode cX3_findBlocks 222 = .ok (.aload_n 0, 1) := by decide +kernel
theorem dX3_findBlocks_223 : decode cX3_findBlocks 223 = .ok (.getfield 9, 3) := by decide +kernel
theorem dX3_findBlocks_226 : decode cX3_findBlocks 226 = .ok (.aload_n 0, 1) := by decide +kernel
theorem dX3_findBlocks_227 : decode cX3_findBlocks 227 = .ok (.getfield 78, 3) := by decide +kernel
theorem dX3_findBlocks_230 : decode cX3_findBlocks 230 = .ok (.iload_n 1, 1) := by decide +kernel
theorem dX3_findBlocks_231 : decode cX3_findBlocks 231 = .ok (.iastore, 1) := by decide +kernel
theorem dX3_findBlocks_232 : decode cX3_findBlocks 232 = .ok (.aload_n 0, 1) := by decide +kernel
theorem dX3_findBlocks_233 : decode cX3_findBlocks 233 = .ok (.dup, 1) := by decide +kernel
theorem dX3_findBlocks_234 : decode cX3_findBlocks 234 = .ok (.getfield 78, 3) := by decide +kernel
theorem dX3_findBlocks_237 : decode cX3_findBlocks 237 = .ok (.iconst 1, 1) := by decide +kernel
theorem dX3_findBlocks_238 : decode cX3_findBlocks 238 = .ok (.iadd, 1) := by decide +kernel

theorem dX4_seek_137 : decode cX4_seek 137 = .ok (.iload 7, 2) := by decide +kernel
theorem dX4_seek_139 : decode cX4_seek 139 = .ok (.invokevirtual 55, 3) := by decide +kernel
theorem dX4_seek_142 : decode cX4_seek 142 = .ok (.iinc 7 1, 3) := by decide +kernel
theorem dX4_seek_145 : decode cX4_seek 145 = .ok (.goto (-36), 3) := by decide +kernel
theorem dX4_seek_148 : decode cX4_seek 148 = .ok (.iinc 5 1, 3) := by decide +kernel
theorem dX4_seek_151 : decode cX4_seek 151 = .ok (.goto (-84), 3) := by decide +kernel
theorem dX4_seek_154 : decode cX4_seek 154 = .ok (.iinc 4 1, 3) := by decide +kernel
theorem dX4_seek_157 : decode cX4_seek 157 = .ok (.goto (-112), 3) := by decide +kernel
theorem dX4_seek_160 : decode cX4_seek 160 = .ok (.return_, 1) := by decide +kernel
theorem dX4_spread_0 : decode cX4_spread 0 = .ok (.aload_n 0, 1) := by decide +kernel
theorem dX4_spread_1 : decode cX4_spread 1 = .ok (.getfield 22, 3) := by decide +kernel
theorem dX4_spread_4 : decode cX4_spread 4 = .ok (.aload_n 0, 1) := by decide +kernel
theorem dX4_spread_5 : decode cX4_spread 5 = .ok (.getfield 26, 3) := by decide +kernel
theorem dX4_spread_8 : decode cX4_spread 8 = .ok (.iload_n 1, 1) := by decide +kernel
theorem dX4_spread_9 : decode cX4_spread 9 = .ok (.invokevirtual 64, 3) := by decide +kernel
theorem dX4_spread_12 : decode cX4_spread 12 = .ok (.invokestatic 70, 3) := by decide +kernel
theorem dX4_spread_15 : decode cX4_spread 15 = .ok (.istore_n 3, 1) := by decide +kernel
theorem dX4_spread_16 : decode cX4_spread 16 = .ok (.iload_n 2, 1) := by decide +kernel
theorem dX4_spread_17 : decode cX4_spread 17 = .ok (.iload_n 3, 1) := by decide +kernel
theorem dX4_spread_18 : decode cX4_spread 18 = .ok (.isub, 1) := by decide +kernel
theorem dX4_spread_19 : decode cX4_spread 19 = .ok (.aload_n 0, 1) := by decide +kernel
theorem dX4_spread_20 : decode cX4_spread 20 = .ok (.getfield 22, 3) := by decide +kernel
theorem dX4_spread_23 : decode cX4_spread 23 = .ok (.aload_n 0, 1) := by decide +kernel
theorem dX4_spread_24 : decode cX4_spread 24 = .ok (.getfield 26, 3) := by decide +kernel
theorem dX4_spread_27 : decode cX4_spread 27 = .ok (.iload_n 1, 1) := by decide +kernel
theorem dX4_spread_28 : decode cX4_spread 28 = .ok (.invokevirtual 76, 3) := by decide +kernel
theorem dX4_spread_31 : decode cX4_spread 31 = .ok (.iadd, 1) := by decide +kernel
theorem dX4_spread_32 : decode cX4_spread 32 = .ok (.istore 4, 2) := by decide +kernel
theorem dX4_spread_34 : decode cX4_spread 34 = .ok (.aload_n 0, 1) := by decide +kernel
theorem dX4_spread_35 : decode cX4_spread 35 = .ok (.getfield 26, 3) := by decide +kernel
theorem dX4_spread_38 : decode cX4_spread 38 = .ok (.iload_n 1, 1) := by decide +kernel
theorem dX4_spread_39 : decode cX4_spread 39 = .ok (.invokevirtual 79, 3) := by decide +kernel
theorem dX4_spread_42 : decode cX4_spread 42 = .ok (.istore 5, 2) := by decide +kernel
theorem dX4_spread_44 : decode cX4_spread 44 = .ok (.aload_n 0, 1) := by decide +kernel
theorem dX4_spread_45 : decode cX4_spread 45 = .ok (.getfield 26, 3) := by decide +kernel
theorem dX4_spread_48 : decode cX4_spread 48 = .ok (.iload_n 1, 1) := by decide +kernel
theorem dX4_spread_49 : decode cX4_spread 49 = .ok (.invokevirtual 83, 3) := by decide +kernel
theorem dX4_spread_52 : decode cX4_spread 52 = .ok (.invokestatic 86, 3) := by decide +kernel
theorem dX4_spread_55 : decode cX4_spread 55 = .ok (.istore 6, 2) := by decide +kernel
theorem dX4_spread_57 : decode cX4_spread 57 = .ok (.iload_n 2, 1) := by decide +kernel
theorem dX4_spread_58 : decode cX4_spread 58 = .ok (.iload_n 3, 1) := by decide +kernel
theorem dX4_spread_59 : decode cX4_spread 59 = .ok (.if_icmp .lt 43, 3) := by decide +kernel
theorem dX4_spread_62 : decode cX4_spread 62 = .ok (.iload 4, 2) := by decide +kernel
theorem dX4_spread_64 : decode cX4_spread 64 = .ok (.aload_n 0, 1) := by decide +kernel
theorem dX4_spread_65 : decode cX4_spread 65 = .ok (.getfield 30, 3) := by decide +kernel
theorem dX4_spread_68 : decode cX4_spread 68 = .ok (.if_icmp .gt 34, 3) := by decide +kernel
theorem dX4_spread_71 : decode cX4_spread 71 = .ok (.iload 5, 2) := by decide +kernel
theorem dX4_spread_73 : decode cX4_spread 73 = .ok (.ifCond .eq 11, 3) := by decide +kernel
theorem dX4_spread_76 : decode cX4_spread 76 = .ok (.aload_n 0, 1) := by decide +kernel
theorem dX4_spread_77 : decode cX4_spread 77 = .ok (.getfield 30, 3) := by decide +kernel
theorem dX4_spread_80 : decode cX4_spread 80 = .ok (.iconst 1, 1) := by decide +kernel
theorem dX4_spread_81 : decode cX4_spread 81 = .ok (.if_icmp .lt 21, 3) := by decide +kernel
theorem dX4_spread_84 : decode cX4_spread 84 = .ok (.iload 6, 2) := by decide +kernel
theorem dX4_spread_86 : decode cX4_spread 86 = .ok (.ifCond .eq 24, 3) := by decide +kernel
theorem dX4_spread_89 : decode cX4_spread 89 = .ok (.iload_n 1, 1) := by decide +kernel
theorem dX4_spread_90 : decode cX4_spread 90 = .ok (.iconst 1, 1) := by decide +kernel
theorem dX4_spread_91 : decode cX4_spread 91 = .ok (.iadd, 1) := by decide +kernel
theorem dX4_spread_92 : decode cX4_spread 92 = .ok (.aload_n 0, 1) := by decide +kernel
theorem dX4_spread_93 : decode cX4_spread 93 = .ok (.getfield 26, 3) := by decide +kernel
theorem dX4_spread_96 : decode cX4_spread 96 = .ok (.getfield 37, 3) := by decide +kernel
theorem dX4_spread_99 : decode cX4_spread 99 = .ok (.if_icmp .lt 11, 3) := by decide +kernel
theorem dX4_spread_102 : decode cX4_spread 102 = .ok (.aload_n 0, 1) := by decide +kernel
theorem dX4_spread_103 : decode cX4_spread 103 = .ok (.getfield 18, 3) := by decide +kernel
theorem dX4_spread_106 : decode cX4_spread 106 = .ok (.iload_n 1, 1) := by decide +kernel
theorem dX4_spread_107 : decode cX4_spread 107 = .ok (.iconst 1, 1) := by decide +kernel
theorem dX4_spread_108 : decode cX4_spread 108 = .ok (.bastore, 1) := by decide +kernel
theorem dX4_spread_109 : decode cX4_spread 109 = .ok (.return_, 1) := by decide +kernel
theorem dX4_spread_110 : decode cX4_spread 110 = .ok (.aload_n 0, 1) := by decide +kernel
theorem dX4_spread_111 : decode cX4_spread 111 = .ok (.aload_n 0, 1) := by decide +kernel
theorem dX4_spread_112 : decode cX4_spread 112 = .ok (.getfield 34, 3) := by decide +kernel
theorem dX4_spread_115 : decode cX4_spread 115 = .ok (.iload 4, 2) := by decide +kernel
theorem dX4_spread_117 : decode cX4_spread 117 = .ok (.iload 5, 2) := by decide +kernel
theorem dX4_spread_119 : decode cX4_spread 119 = .ok (.ifCond .eq 7, 3) := by decide +kernel
theorem dX4_spread_122 : decode cX4_spread 122 = .ok (.iconst 1, 1) := by decide +kernel
theorem dX4_spread_123 : decode cX4_spread 123 = .ok (.goto 4, 3) := by decide +kernel
theorem dX4_spread_126 : decode cX4_spread 126 = .ok (.iconst 0, 1) := by decide +kernel
theorem dX4_spread_127 : decode cX4_spread 127 = .ok (.invokestatic 89, 3) := by decide +kernel
theorem dX4_spread_130 : decode cX4_spread 130 = .ok (.invokestatic 89, 3) := by decide +kernel
theorem dX4_spread_133 : decode cX4_spread 133 = .ok (.putfield 34, 3) := by decide +kernel
theorem dX4_spread_136 : decode cX4_spread 136 = .ok (.iload 6, 2) := by decide +kernel
theorem dX4_spread_138 : decode cX4_spread 138 = .ok (.ifCond .eq 12, 3) := by decide +kernel
theorem dX4_spread_141 : decode cX4_spread 141 = .ok (.aload_n 0, 1) := by decide +kernel
theorem dX4_spread_142 : decode cX4_spread 142 = .ok (.iload_n 1, 1) := by decide +kernel
theorem dX4_spread_143 : decode cX4_spread 143 = .ok (.iconst 1, 1) := by decide +kernel
theorem dX4_spread_144 : decode cX4_spread 144 = .ok (.iadd, 1) := by decide +kernel
theorem dX4_spread_145 : decode cX4_spread 145 = .ok (.iload 4, 2) := by decide +kernel
theorem dX4_spread_147 : decode cX4_spread 147 = .ok (.invokevirtual 46, 3) := by decide +kernel
theorem dX4_spread_150 : decode cX4_spread 150 = .ok (.aload_n 0, 1) := by decide +kernel
theorem dX4_spread_151 : decode cX4_spread 151 = .ok (.getfield 26, 3) := by decide +kernel
theorem dX4_spread_154 : decode cX4_spread 154 = .ok (.iload_n 1, 1) := by decide +kernel
theorem dX4_spread_155 : decode cX4_spread 155 = .ok (.invokevirtual 95, 3) := by decide +kernel
theorem dX4_spread_158 : decode cX4_spread 158 = .ok (.istore 7, 2) := by decide +kernel
theorem dX4_spread_160 : decode cX4_spread 160 = .ok (.iconst 0, 1) := by decide +kernel
theorem dX4_spread_161 : decode cX4_spread 161 = .ok (.istore 8, 2) := by decide +kernel
theorem dX4_spread_163 : decode cX4_spread 163 = .ok (.iload 8, 2) := by decide +kernel
theorem dX4_spread_165 : decode cX4_spread 165 = .ok (.iload 7, 2) := by decide +kernel
theorem dX4_spread_167 : decode cX4_spread 167 = .ok (.if_icmp .ge 25, 3) := by decide +kernel
theorem dX4_spread_170 : decode cX4_spread 170 = .ok (.aload_n 0, 1) := by decide +kernel
theorem dX4_spread_171 : decode cX4_spread 171 = .ok (.aload_n 0, 1) := by decide +kernel
theorem dX4_spread_172 : decode cX4_spread 172 = .ok (.getfield 26, 3) := by decide +kernel
theorem dX4_spread_175 : decode cX4_spread 175 = .ok (.iload_n 1, 1) := by decide +kernel
theorem dX4_spread_176 : decode cX4_spread 176 = .ok (.iload 8, 2) := by decide +kernel
theorem dX4_spread_178 : decode cX4_spread 178 = .ok (.invokevirtual 98, 3) := by decide +kernel
theorem dX4_spread_181 : decode cX4_spread 181 = .ok (.iload 4, 2) := by decide +kernel
theorem dX4_spread_183 : decode cX4_spread 183 = .ok (.invokevirtual 46, 3) := by decide +kernel
theorem dX4_spread_186 : decode cX4_spread 186 = .ok (.iinc 8 1, 3) := by decide +kernel
theorem dX4_spread_189 : decode cX4_spread 189 = .ok (.goto (-26), 3) := by decide +kernel
theorem dX4_spread_192 : decode cX4_spread 192 = .ok (.iconst 0, 1) := by decide +kernel
theorem dX4_spread_193 : decode cX4_spread 193 = .ok (.istore 8, 2) := by decide +kernel
theorem dX4_spread_195 : decode cX4_spread 195 = .ok (.iload 5, 2) := by decide +kernel
theorem dX4_spread_197 : decode cX4_spread 197 = .ok (.ifCond .eq 49, 3) := by decide +kernel
theorem dX4_spread_200 : decode cX4_spread 200 = .ok (.iload 8, 2) := by decide +kernel
theorem dX4_spread_202 : decode cX4_spread 202 = .ok (.aload_n 0, 1) := by decide +kernel
theorem dX4_spread_203 : decode cX4_spread 203 = .ok (.getfield 26, 3) := by decide +kernel
theorem dX4_spread_206 : decode cX4_spread 206 = .ok (.getfield 101, 3) := by decide +kernel
theorem dX4_spread_209 : decode cX4_spread 209 = .ok (.if_icmp .ge 37, 3) := by decide +kernel
theorem dX4_spread_212 : decode cX4_spread 212 = .ok (.aload_n 0, 1) := by decide +kernel
theorem dX4_spread_213 : decode cX4_spread 213 = .ok (.getfield 26, 3) := by decide +kernel
theorem dX4_spread_216 : decode cX4_spread 216 = .ok (.iload 8, 2) := by decide +kernel
theorem dX4_spread_218 : decode cX4_spread 218 = .ok (.iload_n 1, 1) := by decide +kernel
theorem dX4_spread_219 : decode cX4_spread 219 = .ok (.invokevirtual 104, 3) := by decide +kernel
theorem dX4_spread_222 : decode cX4_spread 222 = .ok (.ifCond .eq 18, 3) := by decide +kernel
theorem dX4_spread_225 : decode cX4_spread 225 = .ok (.aload_n 0, 1) := by decide +kernel
theorem dX4_spread_226 : decode cX4_spread 226 = .ok (.aload_n 0, 1) := by decide +kernel
theorem dX4_spread_227 : decode cX4_spread 227 = .ok (.getfield 26, 3) := by decide +kernel
theorem dX4_spread_230 : decode cX4_spread 230 = .ok (.getfield 108, 3) := by decide +kernel
theorem dX4_spread_233 : decode cX4_spread 233 = .ok (.iload 8, 2) := by decide +kernel
theorem dX4_spread_235 : decode cX4_spread 235 = .ok (.iaload, 1) := by decide +kernel
theorem dX4_spread_236 : decode cX4_spread 236 = .ok (.iconst 1, 1) := by decide +kernel
theorem dX4_spread_237 : decode cX4_spread 237 = .ok (.invokevirtual 46, 3) := by decide +kernel
theorem dX4_spread_240 : decode cX4_spread 240 = .ok (.iinc 8 1, 3) := by decide +kernel
theorem dX4_spread_243 : decode cX4_spread 243 = .ok (.goto (-48), 3) := by decide +kernel
theorem dX4_spread_246 : decode cX4_spread 246 = .ok (.return_, 1) := by decide +kernel
theorem dX5_addArgument_0 : decode cX5_addArgument 0 = .ok (.aload_n 0, 1) := by decide +kernel
theorem dX5_addArgument_1 : decode cX5_addArgument 1 = .ok (.getfield 54, 3) := by decide +kernel
theorem dX5_addArgument_4 : decode cX5_addArgument 4 = .ok (.bipush 8, 2) := by decide +kernel
theorem dX5_addArgument_6 : decode cX5_addArgument 6 = .ok (.if_icmp .lt 5, 3) := by decide +kernel
theorem dX5_addArgument_9 : decode cX5_addArgument 9 = .ok (.iconst (-1), 1) := by decide +kernel
theorem dX5_addArgument_10 : decode cX5_addArgument 10 = .ok (.ireturn, 1) := by decide +kernel
theorem dX5_addArgument_11 : decode cX5_addArgument 11 = .ok (.aload_n 0, 1) := by decide +kernel
theorem dX5_addArgument_12 : decode cX5_addArgument 12 = .ok (.getfield 22, 3) := by decide +kernel
theorem dX5_addArgument_15 : decode cX5_addArgument 15 = .ok (.aload_n 0, 1) := by decide +kernel
theorem dX5_addArgument_16 : decode cX5_addArgument 16 = .ok (.getfield 54, 3) := by decide +kernel
theorem dX5_addArgument_19 : decode cX5_addArgument 19 = .ok (.lload_n 1, 1) := by decide +kernel
theorem dX5_addArgument_20 : decode cX5_addArgument 20 = .ok (.lastore, 1) := by decide +kernel
theorem dX5_addArgument_21 : decode cX5_addArgument 21 = .ok (.aload_n 0, 1) := by decide +kernel
theorem dX5_addArgument_22 : decode cX5_addArgument 22 = .ok (.dup, 1) := by decide +kernel
theorem dX5_addArgument_23 : decode cX5_addArgument 23 = .ok (.getfield 54, 3) := by decide +kernel
theorem dX5_addArgument_26 : decode cX5_addArgument 26 = .ok (.iconst 1, 1) := by decide +kernel
theorem dX5_addArgument_27 : decode cX5_addArgument 27 = .ok (.iadd, 1) := by decide +kernel

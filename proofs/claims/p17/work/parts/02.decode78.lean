theorem dX8_remove_35 : decode cX8_remove 35 = .ok (.iload_n 3, 1) := by decide +kernel
theorem dX8_remove_36 : decode cX8_remove 36 = .ok (.aload_n 0, 1) := by decide +kernel
theorem dX8_remove_37 : decode cX8_remove 37 = .ok (.getfield 9, 3) := by decide +kernel
theorem dX8_remove_40 : decode cX8_remove 40 = .ok (.iload_n 3, 1) := by decide +kernel
theorem dX8_remove_41 : decode cX8_remove 41 = .ok (.iload_n 2, 1) := by decide +kernel
theorem dX8_remove_42 : decode cX8_remove 42 = .ok (.iadd, 1) := by decide +kernel
theorem dX8_remove_43 : decode cX8_remove 43 = .ok (.iaload, 1) := by decide +kernel
theorem dX8_remove_44 : decode cX8_remove 44 = .ok (.iastore, 1) := by decide +kernel
theorem dX8_remove_45 : decode cX8_remove 45 = .ok (.aload_n 0, 1) := by decide +kernel
theorem dX8_remove_46 : decode cX8_remove 46 = .ok (.getfield 15, 3) := by decide +kernel
theorem dX8_remove_49 : decode cX8_remove 49 = .ok (.iload_n 3, 1) := by decide +kernel
theorem dX8_remove_50 : decode cX8_remove 50 = .ok (.aload_n 0, 1) := by decide +kernel
theorem dX8_remove_51 : decode cX8_remove 51 = .ok (.getfield 15, 3) := by decide +kernel
theorem dX8_remove_54 : decode cX8_remove 54 = .ok (.iload_n 3, 1) := by decide +kernel
theorem dX8_remove_55 : decode cX8_remove 55 = .ok (.iload_n 2, 1) := by decide +kernel
theorem dX8_remove_56 : decode cX8_remove 56 = .ok (.iadd, 1) := by decide +kernel
theorem dX8_remove_57 : decode cX8_remove 57 = .ok (.laload, 1) := by decide +kernel
theorem dX8_remove_58 : decode cX8_remove 58 = .ok (.lastore, 1) := by decide +kernel
theorem dX8_remove_59 : decode cX8_remove 59 = .ok (.iinc 3 1, 3) := by decide +kernel
theorem dX8_remove_62 : decode cX8_remove 62 = .ok (.goto (-41), 3) := by decide +kernel
theorem dX8_remove_65 : decode cX8_remove 65 = .ok (.aload_n 0, 1) := by decide +kernel
theorem dX8_remove_66 : decode cX8_remove 66 = .ok (.dup, 1) := by decide +kernel
theorem dX8_remove_67 : decode cX8_remove 67 = .ok (.getfield 34, 3) := by decide +kernel
theorem dX8_remove_70 : decode cX8_remove 70 = .ok (.iload_n 2, 1) := by decide +kernel
theorem dX8_remove_71 : decode cX8_remove 71 = .ok (.isub, 1) := by decide +kernel
theorem dX8_remove_72 : decode cX8_remove 72 = .ok (.putfield 34, 3) := by decide +kernel
theorem dX8_remove_75 : decode cX8_remove 75 = .ok (.iconst 0, 1) := by decide +kernel
theorem dX8_remove_76 : decode cX8_remove 76 = .ok (.istore_n 3, 1) := by decide +kernel
theorem dX8_remove_77 : decode cX8_remove 77 = .ok (.iload_n 3, 1) := by decide +kernel
theorem dX8_remove_78 : decode cX8_remove 78 = .ok (.aload_n 0, 1) := by decide +kernel
theorem dX8_remove_79 : decode cX8_remove 79 = .ok (.getfield 34, 3) := by decide +kernel
theorem dX8_remove_82 : decode cX8_remove 82 = .ok (.if_icmp .ge 51, 3) := by decide +kernel
theorem dX8_remove_85 : decode cX8_remove 85 = .ok (.aload_n 0, 1) := by decide +kernel
theorem dX8_remove_86 : decode cX8_remove 86 = .ok (.iload_n 3, 1) := by decide +kernel
theorem dX8_remove_87 : decode cX8_remove 87 = .ok (.invokevirtual 97, 3) := by decide +kernel
theorem dX8_remove_90 : decode cX8_remove 90 = .ok (.istore 4, 2) := by decide +kernel
theorem dX8_remove_92 : decode cX8_remove 92 = .ok (.iconst 0, 1) := by decide +kernel
theorem dX8_remove_93 : decode cX8_remove 93 = .ok (.istore 5, 2) := by decide +kernel
theorem dX8_remove_95 : decode cX8_remove 95 = .ok (.iload 5, 2) := by decide +kernel
theorem dX8_remove_97 : decode cX8_remove 97 = .ok (.iload 4, 2) := by decide +kernel
theorem dX8_remove_99 : decode cX8_remove 99 = .ok (.if_icmp .ge 28, 3) := by decide +kernel
theorem dX8_remove_102 : decode cX8_remove 102 = .ok (.aload_n 0, 1) := by decide +kernel
theorem dX8_remove_103 : decode cX8_remove 103 = .ok (.iload_n 3, 1) := by decide +kernel
theorem dX8_remove_104 : decode cX8_remove 104 = .ok (.iload 5, 2) := by decide +kernel
theorem dX8_remove_106 : decode cX8_remove 106 = .ok (.aload_n 0, 1) := by decide +kernel
theorem dX8_remove_107 : decode cX8_remove 107 = .ok (.iload_n 3, 1) := by decide +kernel
theorem dX8_remove_108 : decode cX8_remove 108 = .ok (.iload 5, 2) := by decide +kernel
theorem dX8_remove_110 : decode cX8_remove 110 = .ok (.invokevirtual 100, 3) := by decide +kernel
theorem dX8_remove_113 : decode cX8_remove 113 = .ok (.iload_n 1, 1) := by decide +kernel
theorem dX8_remove_114 : decode cX8_remove 114 = .ok (.iload_n 2, 1) := by decide +kernel
theorem dX8_remove_115 : decode cX8_remove 115 = .ok (.invokestatic 104, 3) := by decide +kernel
theorem dX8_remove_118 : decode cX8_remove 118 = .ok (.invokevirtual 108, 3) := by decide +kernel
theorem dX8_remove_121 : decode cX8_remove 121 = .ok (.iinc 5 1, 3) := by decide +kernel
theorem dX8_remove_124 : decode cX8_remove 124 = .ok (.goto (-29), 3) := by decide +kernel
theorem dX8_remove_127 : decode cX8_remove 127 = .ok (.iinc 3 1, 3) := by decide +kernel
theorem dX8_remove_130 : decode cX8_remove 130 = .ok (.goto (-53), 3) := by decide +kernel
theorem dX8_remove_133 : decode cX8_remove 133 = .ok (.iconst 0, 1) := by decide +kernel
theorem dX8_remove_134 : decode cX8_remove 134 = .ok (.istore_n 3, 1) := by decide +kernel
theorem dX8_remove_135 : decode cX8_remove 135 = .ok (.iconst 0, 1) := by decide +kernel
theorem dX8_remove_136 : decode cX8_remove 136 = .ok (.istore 4, 2) := by decide +kernel
theorem dX8_remove_138 : decode cX8_remove 138 = .ok (.iload 4, 2) := by decide +kernel
theorem dX8_remove_140 : decode cX8_remove 140 = .ok (.aload_n 0, 1) := by decide +kernel
theorem dX8_remove_141 : decode cX8_remove 141 = .ok (.getfield 49, 3) := by decide +kernel
theorem dX8_remove_144 : decode cX8_remove 144 = .ok (.if_icmp .ge 94, 3) := by decide +kernel
theorem dX8_remove_147 : decode cX8_remove 147 = .ok (.aload_n 0, 1) := by decide +kernel
theorem dX8_remove_148 : decode cX8_remove 148 = .ok (.getfield 22, 3) := by decide +kernel
theorem dX8_remove_151 : decode cX8_remove 151 = .ok (.iload 4, 2) := by decide +kernel
theorem dX8_remove_153 : decode cX8_remove 153 = .ok (.iaload, 1) := by decide +kernel
theorem dX8_remove_154 : decode cX8_remove 154 = .ok (.iload_n 1, 1) := by decide +kernel
theorem dX8_remove_155 : decode cX8_remove 155 = .ok (.iload_n 2, 1) := by decide +kernel
theorem dX8_remove_156 : decode cX8_remove 156 = .ok (.invokestatic 104, 3) := by decide +kernel
theorem dX8_remove_159 : decode cX8_remove 159 = .ok (.istore 5, 2) := by decide +kernel
theorem dX8_remove_161 : decode cX8_remove 161 = .ok (.aload_n 0, 1) := by decide +kernel
theorem dX8_remove_162 : decode cX8_remove 162 = .ok (.getfield 25, 3) := by decide +kernel
theorem dX8_remove_165 : decode cX8_remove 165 = .ok (.iload 4, 2) := by decide +kernel
theorem dX8_remove_167 : decode cX8_remove 167 = .ok (.iaload, 1) := by decide +kernel
theorem dX8_remove_168 : decode cX8_remove 168 = .ok (.iload_n 1, 1) := by decide +kernel
theorem dX8_remove_169 : decode cX8_remove 169 = .ok (.iload_n 2, 1) := by decide +kernel
theorem dX8_remove_170 : decode cX8_remove 170 = .ok (.invokestatic 104, 3) := by decide +kernel
theorem dX8_remove_173 : decode cX8_remove 173 = .ok (.istore 6, 2) := by decide +kernel
theorem dX8_remove_175 : decode cX8_remove 175 = .ok (.iload 5, 2) := by decide +kernel
theorem dX8_remove_177 : decode cX8_remove 177 = .ok (.iload 6, 2) := by decide +kernel
theorem dX8_remove_179 : decode cX8_remove 179 = .ok (.if_icmp .ge 53, 3) := by decide +kernel
theorem dX8_remove_182 : decode cX8_remove 182 = .ok (.aload_n 0, 1) := by decide +kernel
theorem dX8_remove_183 : decode cX8_remove 183 = .ok (.getfield 22, 3) := by decide +kernel
theorem dX8_remove_186 : decode cX8_remove 186 = .ok (.iload_n 3, 1) := by decide +kernel
theorem dX8_remove_187 : decode cX8_remove 187 = .ok (.iload 5, 2) := by decide +kernel
theorem dX8_remove_189 : decode cX8_remove 189 = .ok (.iastore, 1) := by decide +kernel
theorem dX8_remove_190 : decode cX8_remove 190 = .ok (.aload_n 0, 1) := by decide +kernel
theorem dX8_remove_191 : decode cX8_remove 191 = .ok (.getfield 25, 3) := by decide +kernel
theorem dX8_remove_194 : decode cX8_remove 194 = .ok (.iload_n 3, 1) := by decide +kernel
theorem dX8_remove_195 : decode cX8_remove 195 = .ok (.iload 6, 2) := by decide +kernel
theorem dX8_remove_197 : decode cX8_remove 197 = .ok (.iastore, 1) := by decide +kernel
theorem dX8_remove_198 : decode cX8_remove 198 = .ok (.aload_n 0, 1) := by decide +kernel
theorem dX8_remove_199 : decode cX8_remove 199 = .ok (.getfield 28, 3) := by decide +kernel
theorem dX8_remove_202 : decode cX8_remove 202 = .ok (.iload_n 3, 1) := by decide +kernel
theorem dX8_remove_203 : decode cX8_remove 203 = .ok (.aload_n 0, 1) := by decide +kernel
theorem dX8_remove_204 : decode cX8_remove 204 = .ok (.getfield 28, 3) := by decide +kernel
theorem dX8_remove_207 : decode cX8_remove 207 = .ok (.iload 4, 2) := by decide +kernel
theorem dX8_remove_209 : decode cX8_remove 209 = .ok (.iaload, 1) := by decide +kernel
theorem dX8_remove_210 : decode cX8_remove 210 = .ok (.iload_n 1, 1) := by decide +kernel
theorem dX8_remove_211 : decode cX8_remove 211 = .ok (.iload_n 2, 1) := by decide +kernel
theorem dX8_remove_212 : decode cX8_remove 212 = .ok (.invokestatic 104, 3) := by decide +kernel
theorem dX8_remove_215 : decode cX8_remove 215 = .ok (.iastore, 1) := by decide +kernel
theorem dX8_remove_216 : decode cX8_remove 216 = .ok (.aload_n 0, 1) := by decide +kernel
theorem dX8_remove_217 : decode cX8_remove 217 = .ok (.getfield 31, 3) := by decide +kernel
theorem dX8_remove_220 : decode cX8_remove 220 = .ok (.iload_n 3, 1) := by decide +kernel
theorem dX8_remove_221 : decode cX8_remove 221 = .ok (.aload_n 0, 1) := by decide +kernel
theorem dX8_remove_222 : decode cX8_remove 222 = .ok (.getfield 31, 3) := by decide +kernel
theorem dX8_remove_225 : decode cX8_remove 225 = .ok (.iload 4, 2) := by decide +kernel
theorem dX8_remove_227 : decode cX8_remove 227 = .ok (.iaload, 1) := by decide +kernel
theorem dX8_remove_228 : decode cX8_remove 228 = .ok (.iastore, 1) := by decide +kernel
theorem dX8_remove_229 : decode cX8_remove 229 = .ok (.iinc 3 1, 3) := by decide +kernel
theorem dX8_remove_232 : decode cX8_remove 232 = .ok (.iinc 4 1, 3) := by decide +kernel
theorem dX8_remove_235 : decode cX8_remove 235 = .ok (.goto (-97), 3) := by decide +kernel
theorem dX8_remove_238 : decode cX8_remove 238 = .ok (.aload_n 0, 1) := by decide +kernel
theorem dX8_remove_239 : decode cX8_remove 239 = .ok (.iload_n 3, 1) := by decide +kernel
theorem dX8_remove_240 : decode cX8_remove 240 = .ok (.putfield 49, 3) := by decide +kernel
theorem dX8_remove_243 : decode cX8_remove 243 = .ok (.return_, 1) := by decide +kernel
theorem dX8_set_0 : decode cX8_set 0 = .ok (.iload_n 1, 1) := by decide +kernel
theorem dX8_set_1 : decode cX8_set 1 = .ok (.ifCond .lt 26, 3) := by decide +kernel
theorem dX8_set_4 : decode cX8_set 4 = .ok (.iload_n 1, 1) := by decide +kernel
theorem dX8_set_5 : decode cX8_set 5 = .ok (.aload_n 0, 1) := by decide +kernel
theorem dX8_set_6 : decode cX8_set 6 = .ok (.getfield 9, 3) := by decide +kernel
theorem dX8_set_9 : decode cX8_set 9 = .ok (.arraylength, 1) := by decide +kernel
theorem dX8_set_10 : decode cX8_set 10 = .ok (.if_icmp .ge 17, 3) := by decide +kernel
theorem dX8_set_13 : decode cX8_set 13 = .ok (.aload_n 0, 1) := by decide +kernel
theorem dX8_set_14 : decode cX8_set 14 = .ok (.getfield 9, 3) := by decide +kernel
theorem dX8_set_17 : decode cX8_set 17 = .ok (.iload_n 1, 1) := by decide +kernel
theorem dX8_set_18 : decode cX8_set 18 = .ok (.iload_n 2, 1) := by decide +kernel
theorem dX8_set_19 : decode cX8_set 19 = .ok (.iastore, 1) := by decide +kernel
theorem dX8_set_20 : decode cX8_set 20 = .ok (.aload_n 0, 1) := by decide +kernel
theorem dX8_set_21 : decode cX8_set 21 = .ok (.getfield 15, 3) := by decide +kernel
theorem dX8_set_24 : decode cX8_set 24 = .ok (.iload_n 1, 1) := by decide +kernel
theorem dX8_set_25 : decode cX8_set 25 = .ok (.lload_n 3, 1) := by decide +kernel
theorem dX8_set_26 : decode cX8_set 26 = .ok (.lastore, 1) := by decide +kernel
theorem dX8_set_27 : decode cX8_set 27 = .ok (.return_, 1) := by decide +kernel
theorem dX8_setTarget_0 : decode cX8_setTarget 0 = .ok (.aload_n 0, 1) := by decide +kernel
theorem dX8_setTarget_1 : decode cX8_setTarget 1 = .ok (.iload_n 1, 1) := by decide +kernel
theorem dX8_setTarget_2 : decode cX8_setTarget 2 = .ok (.invokevirtual 52, 3) := by decide +kernel
theorem dX8_setTarget_5 : decode cX8_setTarget 5 = .ok (.invokestatic 56, 3) := by decide +kernel
theorem dX8_setTarget_8 : decode cX8_setTarget 8 = .ok (.ifCond .eq 16, 3) := by decide +kernel
theorem dX8_setTarget_11 : decode cX8_setTarget 11 = .ok (.aload_n 0, 1) := by decide +kernel
theorem dX8_setTarget_12 : decode cX8_setTarget 12 = .ok (.iload_n 1, 1) := by decide +kernel
theorem dX8_setTarget_13 : decode cX8_setTarget 13 = .ok (.aload_n 0, 1) := by decide +kernel
theorem dX8_setTarget_14 : decode cX8_setTarget 14 = .ok (.iload_n 1, 1) := by decide +kernel
theorem dX8_setTarget_15 : decode cX8_setTarget 15 = .ok (.invokevirtual 52, 3) := by decide +kernel
theorem dX8_setTarget_18 : decode cX8_setTarget 18 = .ok (.iload_n 3, 1) := by decide +kernel
theorem dX8_setTarget_19 : decode cX8_setTarget 19 = .ok (.i2l, 1) := by decide +kernel
theorem dX8_setTarget_20 : decode cX8_setTarget 20 = .ok (.invokevirtual 45, 3) := by decide +kernel

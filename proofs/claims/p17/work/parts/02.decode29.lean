theorem dX2_addTo_133 : decode cX2_addTo 133 = .ok (.getfield 172, 3) := by decide +kernel
theorem dX2_addTo_136 : decode cX2_addTo 136 = .ok (.l2i, 1) := by decide +kernel
theorem dX2_addTo_137 : decode cX2_addTo 137 = .ok (.invokevirtual 288, 3) := by decide +kernel
theorem dX2_addTo_140 : decode cX2_addTo 140 = .ok (.iconst 1, 1) := by decide +kernel
theorem dX2_addTo_141 : decode cX2_addTo 141 = .ok (.iadd, 1) := by decide +kernel
theorem dX2_addTo_142 : decode cX2_addTo 142 = .ok (.invokevirtual 102, 3) := by decide +kernel
theorem dX2_addTo_145 : decode cX2_addTo 145 = .ok (.i2l, 1) := by decide +kernel
theorem dX2_addTo_146 : decode cX2_addTo 146 = .ok (.invokevirtual 346, 3) := by decide +kernel
theorem dX2_addTo_149 : decode cX2_addTo 149 = .ok (.goto 88, 3) := by decide +kernel
theorem dX2_addTo_152 : decode cX2_addTo 152 = .ok (.aload_n 1, 1) := by decide +kernel
theorem dX2_addTo_153 : decode cX2_addTo 153 = .ok (.bipush 20, 2) := by decide +kernel
theorem dX2_addTo_155 : decode cX2_addTo 155 = .ok (.aload_n 0, 1) := by decide +kernel
theorem dX2_addTo_156 : decode cX2_addTo 156 = .ok (.aload_n 0, 1) := by decide +kernel
theorem dX2_addTo_157 : decode cX2_addTo 157 = .ok (.getfield 12, 3) := by decide +kernel
theorem dX2_addTo_160 : decode cX2_addTo 160 = .ok (.aload_n 0, 1) := by decide +kernel
theorem dX2_addTo_161 : decode cX2_addTo 161 = .ok (.getfield 172, 3) := by decide +kernel
theorem dX2_addTo_164 : decode cX2_addTo 164 = .ok (.l2i, 1) := by decide +kernel
theorem dX2_addTo_165 : decode cX2_addTo 165 = .ok (.invokevirtual 288, 3) := by decide +kernel
theorem dX2_addTo_168 : decode cX2_addTo 168 = .ok (.iconst 1, 1) := by decide +kernel
theorem dX2_addTo_169 : decode cX2_addTo 169 = .ok (.iadd, 1) := by decide +kernel
theorem dX2_addTo_170 : decode cX2_addTo 170 = .ok (.invokevirtual 352, 3) := by decide +kernel
theorem dX2_addTo_173 : decode cX2_addTo 173 = .ok (.invokevirtual 346, 3) := by decide +kernel
theorem dX2_addTo_176 : decode cX2_addTo 176 = .ok (.goto 61, 3) := by decide +kernel
theorem dX2_addTo_179 : decode cX2_addTo 179 = .ok (.aload_n 1, 1) := by decide +kernel
theorem dX2_addTo_180 : decode cX2_addTo 180 = .ok (.aload_n 0, 1) := by decide +kernel
theorem dX2_addTo_181 : decode cX2_addTo 181 = .ok (.getfield 169, 3) := by decide +kernel
theorem dX2_addTo_184 : decode cX2_addTo 184 = .ok (.aload_n 0, 1) := by decide +kernel
theorem dX2_addTo_185 : decode cX2_addTo 185 = .ok (.aload_n 0, 1) := by decide +kernel
theorem dX2_addTo_186 : decode cX2_addTo 186 = .ok (.getfield 172, 3) := by decide +kernel
theorem dX2_addTo_189 : decode cX2_addTo 189 = .ok (.l2i, 1) := by decide +kernel
theorem dX2_addTo_190 : decode cX2_addTo 190 = .ok (.bipush 9, 2) := by decide +kernel
theorem dX2_addTo_192 : decode cX2_addTo 192 = .ok (.invokevirtual 234, 3) := by decide +kernel
theorem dX2_addTo_195 : decode cX2_addTo 195 = .ok (.i2l, 1) := by decide +kernel
theorem dX2_addTo_196 : decode cX2_addTo 196 = .ok (.invokevirtual 346, 3) := by decide +kernel
theorem dX2_addTo_199 : decode cX2_addTo 199 = .ok (.goto 38, 3) := by decide +kernel
theorem dX2_addTo_202 : decode cX2_addTo 202 = .ok (.aload_n 1, 1) := by decide +kernel
theorem dX2_addTo_203 : decode cX2_addTo 203 = .ok (.aload_n 0, 1) := by decide +kernel
theorem dX2_addTo_204 : decode cX2_addTo 204 = .ok (.getfield 169, 3) := by decide +kernel
theorem dX2_addTo_207 : decode cX2_addTo 207 = .ok (.aload_n 0, 1) := by decide +kernel
theorem dX2_addTo_208 : decode cX2_addTo 208 = .ok (.aload_n 0, 1) := by decide +kernel
theorem dX2_addTo_209 : decode cX2_addTo 209 = .ok (.getfield 172, 3) := by decide +kernel
theorem dX2_addTo_212 : decode cX2_addTo 212 = .ok (.l2i, 1) := by decide +kernel
theorem dX2_addTo_213 : decode cX2_addTo 213 = .ok (.bipush 10, 2) := by decide +kernel
theorem dX2_addTo_215 : decode cX2_addTo 215 = .ok (.invokevirtual 234, 3) := by decide +kernel
theorem dX2_addTo_218 : decode cX2_addTo 218 = .ok (.i2l, 1) := by decide +kernel
theorem dX2_addTo_219 : decode cX2_addTo 219 = .ok (.invokevirtual 346, 3) := by decide +kernel
theorem dX2_addTo_222 : decode cX2_addTo 222 = .ok (.goto 15, 3) := by decide +kernel
theorem dX2_addTo_225 : decode cX2_addTo 225 = .ok (.aload_n 1, 1) := by decide +kernel
theorem dX2_addTo_226 : decode cX2_addTo 226 = .ok (.aload_n 0, 1) := by decide +kernel
theorem dX2_addTo_227 : decode cX2_addTo 227 = .ok (.getfield 169, 3) := by decide +kernel
theorem dX2_addTo_230 : decode cX2_addTo 230 = .ok (.aload_n 0, 1) := by decide +kernel
theorem dX2_addTo_231 : decode cX2_addTo 231 = .ok (.getfield 172, 3) := by decide +kernel
theorem dX2_addTo_234 : decode cX2_addTo 234 = .ok (.invokevirtual 346, 3) := by decide +kernel
theorem dX2_addTo_237 : decode cX2_addTo 237 = .ok (.return_, 1) := by decide +kernel
theorem dX2_build_0 : decode cX2_build 0 = .ok (.new 41, 3) := by decide +kernel
theorem dX2_build_3 : decode cX2_build 3 = .ok (.dup, 1) := by decide +kernel
theorem dX2_build_4 : decode cX2_build 4 = .ok (.aload_n 0, 1) := by decide +kernel
theorem dX2_build_5 : decode cX2_build 5 = .ok (.getfield 12, 3) := by decide +kernel
theorem dX2_build_8 : decode cX2_build 8 = .ok (.getfield 270, 3) := by decide +kernel
theorem dX2_build_11 : decode cX2_build 11 = .ok (.aload_n 0, 1) := by decide +kernel
theorem dX2_build_12 : decode cX2_build 12 = .ok (.getfield 12, 3) := by decide +kernel
theorem dX2_build_15 : decode cX2_build 15 = .ok (.getfield 274, 3) := by decide +kernel
theorem dX2_build_18 : decode cX2_build 18 = .ok (.invokestatic 277, 3) := by decide +kernel
theorem dX2_build_21 : decode cX2_build 21 = .ok (.aload_n 0, 1) := by decide +kernel
theorem dX2_build_22 : decode cX2_build 22 = .ok (.getfield 12, 3) := by decide +kernel
theorem dX2_build_25 : decode cX2_build 25 = .ok (.getfield 62, 3) := by decide +kernel
theorem dX2_build_28 : decode cX2_build 28 = .ok (.aload_n 0, 1) := by decide +kernel
theorem dX2_build_29 : decode cX2_build 29 = .ok (.getfield 12, 3) := by decide +kernel
theorem dX2_build_32 : decode cX2_build 32 = .ok (.getfield 59, 3) := by decide +kernel
theorem dX2_build_35 : decode cX2_build 35 = .ok (.invokespecial 281, 3) := by decide +kernel
theorem dX2_build_38 : decode cX2_build 38 = .ok (.astore_n 1, 1) := by decide +kernel
theorem dX2_build_39 : decode cX2_build 39 = .ok (.aload_n 1, 1) := by decide +kernel
theorem dX2_build_40 : decode cX2_build 40 = .ok (.aload_n 0, 1) := by decide +kernel
theorem dX2_build_41 : decode cX2_build 41 = .ok (.getfield 12, 3) := by decide +kernel
theorem dX2_build_44 : decode cX2_build 44 = .ok (.getfield 284, 3) := by decide +kernel
theorem dX2_build_47 : decode cX2_build 47 = .ok (.putfield 287, 3) := by decide +kernel
theorem dX2_build_50 : decode cX2_build 50 = .ok (.aload_n 1, 1) := by decide +kernel
theorem dX2_build_51 : decode cX2_build 51 = .ok (.aload_n 0, 1) := by decide +kernel
theorem dX2_build_52 : decode cX2_build 52 = .ok (.getfield 12, 3) := by decide +kernel
theorem dX2_build_55 : decode cX2_build 55 = .ok (.aload_n 0, 1) := by decide +kernel
theorem dX2_build_56 : decode cX2_build 56 = .ok (.getfield 12, 3) := by decide +kernel
theorem dX2_build_59 : decode cX2_build 59 = .ok (.aload_n 0, 1) := by decide +kernel
theorem dX2_build_60 : decode cX2_build 60 = .ok (.getfield 12, 3) := by decide +kernel
theorem dX2_build_63 : decode cX2_build 63 = .ok (.aload_n 0, 1) := by decide +kernel
theorem dX2_build_64 : decode cX2_build 64 = .ok (.getfield 12, 3) := by decide +kernel
theorem dX2_build_67 : decode cX2_build 67 = .ok (.getfield 258, 3) := by decide +kernel
theorem dX2_build_70 : decode cX2_build 70 = .ok (.iconst 2, 1) := by decide +kernel
theorem dX2_build_71 : decode cX2_build 71 = .ok (.iadd, 1) := by decide +kernel
theorem dX2_build_72 : decode cX2_build 72 = .ok (.invokevirtual 90, 3) := by decide +kernel
theorem dX2_build_75 : decode cX2_build 75 = .ok (.invokevirtual 247, 3) := by decide +kernel
theorem dX2_build_78 : decode cX2_build 78 = .ok (.invokevirtual 288, 3) := by decide +kernel
theorem dX2_build_81 : decode cX2_build 81 = .ok (.putfield 291, 3) := by decide +kernel
theorem dX2_build_84 : decode cX2_build 84 = .ok (.aload_n 1, 1) := by decide +kernel
theorem dX2_build_85 : decode cX2_build 85 = .ok (.aload_n 0, 1) := by decide +kernel
theorem dX2_build_86 : decode cX2_build 86 = .ok (.getfield 12, 3) := by decide +kernel
theorem dX2_build_89 : decode cX2_build 89 = .ok (.aload_n 0, 1) := by decide +kernel
theorem dX2_build_90 : decode cX2_build 90 = .ok (.getfield 12, 3) := by decide +kernel
theorem dX2_build_93 : decode cX2_build 93 = .ok (.aload_n 0, 1) := by decide +kernel
theorem dX2_build_94 : decode cX2_build 94 = .ok (.getfield 12, 3) := by decide +kernel
theorem dX2_build_97 : decode cX2_build 97 = .ok (.aload_n 0, 1) := by decide +kernel
theorem dX2_build_98 : decode cX2_build 98 = .ok (.getfield 12, 3) := by decide +kernel
theorem dX2_build_101 : decode cX2_build 101 = .ok (.getfield 258, 3) := by decide +kernel
theorem dX2_build_104 : decode cX2_build 104 = .ok (.iconst 4, 1) := by decide +kernel
theorem dX2_build_105 : decode cX2_build 105 = .ok (.iadd, 1) := by decide +kernel
theorem dX2_build_106 : decode cX2_build 106 = .ok (.invokevirtual 90, 3) := by decide +kernel
theorem dX2_build_109 : decode cX2_build 109 = .ok (.invokevirtual 247, 3) := by decide +kernel
theorem dX2_build_112 : decode cX2_build 112 = .ok (.invokevirtual 288, 3) := by decide +kernel
theorem dX2_build_115 : decode cX2_build 115 = .ok (.putfield 294, 3) := by decide +kernel
theorem dX2_build_118 : decode cX2_build 118 = .ok (.iconst 0, 1) := by decide +kernel
theorem dX2_build_119 : decode cX2_build 119 = .ok (.istore_n 2, 1) := by decide +kernel
theorem dX2_build_120 : decode cX2_build 120 = .ok (.iload_n 2, 1) := by decide +kernel
theorem dX2_build_121 : decode cX2_build 121 = .ok (.aload_n 1, 1) := by decide +kernel
theorem dX2_build_122 : decode cX2_build 122 = .ok (.getfield 297, 3) := by decide +kernel
theorem dX2_build_125 : decode cX2_build 125 = .ok (.arraylength, 1) := by decide +kernel
theorem dX2_build_126 : decode cX2_build 126 = .ok (.if_icmp .ge 72, 3) := by decide +kernel
theorem dX2_build_129 : decode cX2_build 129 = .ok (.aload_n 1, 1) := by decide +kernel
theorem dX2_build_130 : decode cX2_build 130 = .ok (.getfield 297, 3) := by decide +kernel
theorem dX2_build_133 : decode cX2_build 133 = .ok (.iload_n 2, 1) := by decide +kernel
theorem dX2_build_134 : decode cX2_build 134 = .ok (.aload_n 0, 1) := by decide +kernel
theorem dX2_build_135 : decode cX2_build 135 = .ok (.getfield 12, 3) := by decide +kernel
theorem dX2_build_138 : decode cX2_build 138 = .ok (.aload_n 0, 1) := by decide +kernel
theorem dX2_build_139 : decode cX2_build 139 = .ok (.getfield 12, 3) := by decide +kernel
theorem dX2_build_142 : decode cX2_build 142 = .ok (.iload_n 2, 1) := by decide +kernel
theorem dX2_build_143 : decode cX2_build 143 = .ok (.invokevirtual 267, 3) := by decide +kernel
theorem dX2_build_146 : decode cX2_build 146 = .ok (.invokevirtual 288, 3) := by decide +kernel
theorem dX2_build_149 : decode cX2_build 149 = .ok (.iastore, 1) := by decide +kernel
theorem dX2_build_150 : decode cX2_build 150 = .ok (.aload_n 1, 1) := by decide +kernel
theorem dX2_build_151 : decode cX2_build 151 = .ok (.getfield 300, 3) := by decide +kernel
theorem dX2_build_154 : decode cX2_build 154 = .ok (.iload_n 2, 1) := by decide +kernel
theorem dX2_build_155 : decode cX2_build 155 = .ok (.aload_n 0, 1) := by decide +kernel
theorem dX2_build_156 : decode cX2_build 156 = .ok (.getfield 12, 3) := by decide +kernel
theorem dX2_build_159 : decode cX2_build 159 = .ok (.aload_n 0, 1) := by decide +kernel
theorem dX2_build_160 : decode cX2_build 160 = .ok (.getfield 12, 3) := by decide +kernel
theorem dX2_build_163 : decode cX2_build 163 = .ok (.iload_n 2, 1) := by decide +kernel
theorem dX2_build_164 : decode cX2_build 164 = .ok (.invokevirtual 65, 3) := by decide +kernel
theorem dX2_build_167 : decode cX2_build 167 = .ok (.invokevirtual 288, 3) := by decide +kernel
theorem dX2_build_170 : decode cX2_build 170 = .ok (.iastore, 1) := by decide +kernel
theorem dX2_build_171 : decode cX2_build 171 = .ok (.aload_n 1, 1) := by decide +kernel
theorem dX2_build_172 : decode cX2_build 172 = .ok (.getfield 303, 3) := by decide +kernel
theorem dX2_build_175 : decode cX2_build 175 = .ok (.iload_n 2, 1) := by decide +kernel
theorem dX2_build_176 : decode cX2_build 176 = .ok (.aload_n 0, 1) := by decide +kernel
theorem dX2_build_177 : decode cX2_build 177 = .ok (.getfield 12, 3) := by decide +kernel
theorem dX2_build_180 : decode cX2_build 180 = .ok (.aload_n 0, 1) := by decide +kernel
theorem dX2_build_181 : decode cX2_build 181 = .ok (.getfield 12, 3) := by decide +kernel
theorem dX2_build_184 : decode cX2_build 184 = .ok (.iload_n 2, 1) := by decide +kernel
theorem dX2_build_185 : decode cX2_build 185 = .ok (.invokevirtual 65, 3) := by decide +kernel
theorem dX2_build_188 : decode cX2_build 188 = .ok (.invokevirtual 306, 3) := by decide +kernel
theorem dX2_build_191 : decode cX2_build 191 = .ok (.iastore, 1) := by decide +kernel
theorem dX2_build_192 : decode cX2_build 192 = .ok (.iinc 2 1, 3) := by decide +kernel
theorem dX2_build_195 : decode cX2_build 195 = .ok (.goto (-75), 3) := by decide +kernel

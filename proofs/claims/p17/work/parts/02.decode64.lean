theorem dX6_lengthOf_1 : decode cX6_lengthOf 1 = .ok (.ifCond .lt 11, 3) := by decide +kernel
theorem dX6_lengthOf_4 : decode cX6_lengthOf 4 = .ok (.iload_n 0, 1) := by decide +kernel
theorem dX6_lengthOf_5 : decode cX6_lengthOf 5 = .ok (.getstatic 18, 3) := by decide +kernel
theorem dX6_lengthOf_8 : decode cX6_lengthOf 8 = .ok (.arraylength, 1) := by decide +kernel
theorem dX6_lengthOf_9 : decode cX6_lengthOf 9 = .ok (.if_icmp .lt 7, 3) := by decide +kernel
theorem dX6_lengthOf_12 : decode cX6_lengthOf 12 = .ok (.iconst 0, 1) := by decide +kernel
theorem dX6_lengthOf_13 : decode cX6_lengthOf 13 = .ok (.goto 8, 3) := by decide +kernel
theorem dX6_lengthOf_16 : decode cX6_lengthOf 16 = .ok (.getstatic 18, 3) := by decide +kernel
theorem dX6_lengthOf_19 : decode cX6_lengthOf 19 = .ok (.iload_n 0, 1) := by decide +kernel
theorem dX6_lengthOf_20 : decode cX6_lengthOf 20 = .ok (.iaload, 1) := by decide +kernel
theorem dX6_lengthOf_21 : decode cX6_lengthOf 21 = .ok (.ireturn, 1) := by decide +kernel
theorem dX6_localWidth_0 : decode cX6_localWidth 0 = .ok (.iload_n 0, 1) := by decide +kernel
theorem dX6_localWidth_1 : decode cX6_localWidth 1 = .ok (.bipush 22, 2) := by decide +kernel
theorem dX6_localWidth_3 : decode cX6_localWidth 3 = .ok (.if_icmp .eq 9, 3) := by decide +kernel
theorem dX6_localWidth_6 : decode cX6_localWidth 6 = .ok (.iload_n 0, 1) := by decide +kernel
theorem dX6_localWidth_7 : decode cX6_localWidth 7 = .ok (.bipush 55, 2) := by decide +kernel
theorem dX6_localWidth_9 : decode cX6_localWidth 9 = .ok (.if_icmp .ne 7, 3) := by decide +kernel
theorem dX6_localWidth_12 : decode cX6_localWidth 12 = .ok (.iconst 2, 1) := by decide +kernel
theorem dX6_localWidth_13 : decode cX6_localWidth 13 = .ok (.goto 4, 3) := by decide +kernel
theorem dX6_localWidth_16 : decode cX6_localWidth 16 = .ok (.iconst 1, 1) := by decide +kernel
theorem dX6_localWidth_17 : decode cX6_localWidth 17 = .ok (.ireturn, 1) := by decide +kernel
theorem dX6_ofInts_0 : decode cX6_ofInts 0 = .ok (.iload_n 0, 1) := by decide +kernel
theorem dX6_ofInts_1 : decode cX6_ofInts 1 = .ok (.tableswitch 203 96 128 #[147, 203, 203, 203, 151, 203, 203, 203, 155, 203, 203, 203, 159, 203, 203, 203, 171, 203, 203, 203, 203, 203, 203, 203, 183, 203, 187, 203, 191, 203, 195, 203, 199], 147) := by decide +kernel
theorem dX6_ofInts_148 : decode cX6_ofInts 148 = .ok (.iload_n 1, 1) := by decide +kernel
theorem dX6_ofInts_149 : decode cX6_ofInts 149 = .ok (.iload_n 2, 1) := by decide +kernel
theorem dX6_ofInts_150 : decode cX6_ofInts 150 = .ok (.iadd, 1) := by decide +kernel
theorem dX6_ofInts_151 : decode cX6_ofInts 151 = .ok (.ireturn, 1) := by decide +kernel
theorem dX6_ofInts_152 : decode cX6_ofInts 152 = .ok (.iload_n 1, 1) := by decide +kernel
theorem dX6_ofInts_153 : decode cX6_ofInts 153 = .ok (.iload_n 2, 1) := by decide +kernel
theorem dX6_ofInts_154 : decode cX6_ofInts 154 = .ok (.isub, 1) := by decide +kernel
theorem dX6_ofInts_155 : decode cX6_ofInts 155 = .ok (.ireturn, 1) := by decide +kernel
theorem dX6_ofInts_156 : decode cX6_ofInts 156 = .ok (.iload_n 1, 1) := by decide +kernel
theorem dX6_ofInts_157 : decode cX6_ofInts 157 = .ok (.iload_n 2, 1) := by decide +kernel
theorem dX6_ofInts_158 : decode cX6_ofInts 158 = .ok (.imul, 1) := by decide +kernel
theorem dX6_ofInts_159 : decode cX6_ofInts 159 = .ok (.ireturn, 1) := by decide +kernel
theorem dX6_ofInts_160 : decode cX6_ofInts 160 = .ok (.iload_n 2, 1) := by decide +kernel
theorem dX6_ofInts_161 : decode cX6_ofInts 161 = .ok (.ifCond .ne 7, 3) := by decide +kernel
theorem dX6_ofInts_164 : decode cX6_ofInts 164 = .ok (.iconst 0, 1) := by decide +kernel
theorem dX6_ofInts_165 : decode cX6_ofInts 165 = .ok (.goto 6, 3) := by decide +kernel
theorem dX6_ofInts_168 : decode cX6_ofInts 168 = .ok (.iload_n 1, 1) := by decide +kernel
theorem dX6_ofInts_169 : decode cX6_ofInts 169 = .ok (.iload_n 2, 1) := by decide +kernel
theorem dX6_ofInts_170 : decode cX6_ofInts 170 = .ok (.idiv, 1) := by decide +kernel
theorem dX6_ofInts_171 : decode cX6_ofInts 171 = .ok (.ireturn, 1) := by decide +kernel
theorem dX6_ofInts_172 : decode cX6_ofInts 172 = .ok (.iload_n 2, 1) := by decide +kernel
theorem dX6_ofInts_173 : decode cX6_ofInts 173 = .ok (.ifCond .ne 7, 3) := by decide +kernel
theorem dX6_ofInts_176 : decode cX6_ofInts 176 = .ok (.iconst 0, 1) := by decide +kernel
theorem dX6_ofInts_177 : decode cX6_ofInts 177 = .ok (.goto 6, 3) := by decide +kernel
theorem dX6_ofInts_180 : decode cX6_ofInts 180 = .ok (.iload_n 1, 1) := by decide +kernel
theorem dX6_ofInts_181 : decode cX6_ofInts 181 = .ok (.iload_n 2, 1) := by decide +kernel
theorem dX6_ofInts_182 : decode cX6_ofInts 182 = .ok (.irem, 1) := by decide +kernel
theorem dX6_ofInts_183 : decode cX6_ofInts 183 = .ok (.ireturn, 1) := by decide +kernel
theorem dX6_ofInts_184 : decode cX6_ofInts 184 = .ok (.iload_n 1, 1) := by decide +kernel
theorem dX6_ofInts_185 : decode cX6_ofInts 185 = .ok (.iload_n 2, 1) := by decide +kernel
theorem dX6_ofInts_186 : decode cX6_ofInts 186 = .ok (.ishl, 1) := by decide +kernel
theorem dX6_ofInts_187 : decode cX6_ofInts 187 = .ok (.ireturn, 1) := by decide +kernel
theorem dX6_ofInts_188 : decode cX6_ofInts 188 = .ok (.iload_n 1, 1) := by decide +kernel
theorem dX6_ofInts_189 : decode cX6_ofInts 189 = .ok (.iload_n 2, 1) := by decide +kernel
theorem dX6_ofInts_190 : decode cX6_ofInts 190 = .ok (.ishr, 1) := by decide +kernel
theorem dX6_ofInts_191 : decode cX6_ofInts 191 = .ok (.ireturn, 1) := by decide +kernel
theorem dX6_ofInts_192 : decode cX6_ofInts 192 = .ok (.iload_n 1, 1) := by decide +kernel
theorem dX6_ofInts_193 : decode cX6_ofInts 193 = .ok (.iload_n 2, 1) := by decide +kernel
theorem dX6_ofInts_194 : decode cX6_ofInts 194 = .ok (.iushr, 1) := by decide +kernel
theorem dX6_ofInts_195 : decode cX6_ofInts 195 = .ok (.ireturn, 1) := by decide +kernel
theorem dX6_ofInts_196 : decode cX6_ofInts 196 = .ok (.iload_n 1, 1) := by decide +kernel
theorem dX6_ofInts_197 : decode cX6_ofInts 197 = .ok (.iload_n 2, 1) := by decide +kernel
theorem dX6_ofInts_198 : decode cX6_ofInts 198 = .ok (.iand, 1) := by decide +kernel
theorem dX6_ofInts_199 : decode cX6_ofInts 199 = .ok (.ireturn, 1) := by decide +kernel
theorem dX6_ofInts_200 : decode cX6_ofInts 200 = .ok (.iload_n 1, 1) := by decide +kernel
theorem dX6_ofInts_201 : decode cX6_ofInts 201 = .ok (.iload_n 2, 1) := by decide +kernel
theorem dX6_ofInts_202 : decode cX6_ofInts 202 = .ok (.ior, 1) := by decide +kernel
theorem dX6_ofInts_203 : decode cX6_ofInts 203 = .ok (.ireturn, 1) := by decide +kernel
theorem dX6_ofInts_204 : decode cX6_ofInts 204 = .ok (.iload_n 1, 1) := by decide +kernel
theorem dX6_ofInts_205 : decode cX6_ofInts 205 = .ok (.iload_n 2, 1) := by decide +kernel
theorem dX6_ofInts_206 : decode cX6_ofInts 206 = .ok (.ixor, 1) := by decide +kernel
theorem dX6_ofInts_207 : decode cX6_ofInts 207 = .ok (.ireturn, 1) := by decide +kernel
theorem dX6_ofLongs_0 : decode cX6_ofLongs 0 = .ok (.iload_n 0, 1) := by decide +kernel
theorem dX6_ofLongs_1 : decode cX6_ofLongs 1 = .ok (.tableswitch 210 97 129 #[147, 210, 210, 210, 151, 210, 210, 210, 155, 210, 210, 210, 159, 210, 210, 210, 173, 210, 210, 210, 210, 210, 210, 210, 187, 210, 192, 210, 197, 210, 202, 210, 206], 147) := by decide +kernel
theorem dX6_ofLongs_148 : decode cX6_ofLongs 148 = .ok (.lload_n 1, 1) := by decide +kernel
theorem dX6_ofLongs_149 : decode cX6_ofLongs 149 = .ok (.lload_n 3, 1) := by decide +kernel
theorem dX6_ofLongs_150 : decode cX6_ofLongs 150 = .ok (.ladd, 1) := by decide +kernel
theorem dX6_ofLongs_151 : decode cX6_ofLongs 151 = .ok (.lreturn, 1) := by decide +kernel
theorem dX6_ofLongs_152 : decode cX6_ofLongs 152 = .ok (.lload_n 1, 1) := by decide +kernel
theorem dX6_ofLongs_153 : decode cX6_ofLongs 153 = .ok (.lload_n 3, 1) := by decide +kernel
theorem dX6_ofLongs_154 : decode cX6_ofLongs 154 = .ok (.lsub, 1) := by decide +kernel
theorem dX6_ofLongs_155 : decode cX6_ofLongs 155 = .ok (.lreturn, 1) := by decide +kernel
theorem dX6_ofLongs_156 : decode cX6_ofLongs 156 = .ok (.lload_n 1, 1) := by decide +kernel
theorem dX6_ofLongs_157 : decode cX6_ofLongs 157 = .ok (.lload_n 3, 1) := by decide +kernel
theorem dX6_ofLongs_158 : decode cX6_ofLongs 158 = .ok (.lmul, 1) := by decide +kernel
theorem dX6_ofLongs_159 : decode cX6_ofLongs 159 = .ok (.lreturn, 1) := by decide +kernel
theorem dX6_ofLongs_160 : decode cX6_ofLongs 160 = .ok (.lload_n 3, 1) := by decide +kernel
theorem dX6_ofLongs_161 : decode cX6_ofLongs 161 = .ok (.lconst 0, 1) := by decide +kernel
theorem dX6_ofLongs_162 : decode cX6_ofLongs 162 = .ok (.lcmp, 1) := by decide +kernel
theorem dX6_ofLongs_163 : decode cX6_ofLongs 163 = .ok (.ifCond .ne 7, 3) := by decide +kernel
theorem dX6_ofLongs_166 : decode cX6_ofLongs 166 = .ok (.lconst 0, 1) := by decide +kernel
theorem dX6_ofLongs_167 : decode cX6_ofLongs 167 = .ok (.goto 6, 3) := by decide +kernel
theorem dX6_ofLongs_170 : decode cX6_ofLongs 170 = .ok (.lload_n 1, 1) := by decide +kernel
theorem dX6_ofLongs_171 : decode cX6_ofLongs 171 = .ok (.lload_n 3, 1) := by decide +kernel
theorem dX6_ofLongs_172 : decode cX6_ofLongs 172 = .ok (.ldiv, 1) := by decide +kernel
theorem dX6_ofLongs_173 : decode cX6_ofLongs 173 = .ok (.lreturn, 1) := by decide +kernel
theorem dX6_ofLongs_174 : decode cX6_ofLongs 174 = .ok (.lload_n 3, 1) := by decide +kernel
theorem dX6_ofLongs_175 : decode cX6_ofLongs 175 = .ok (.lconst 0, 1) := by decide +kernel
theorem dX6_ofLongs_176 : decode cX6_ofLongs 176 = .ok (.lcmp, 1) := by decide +kernel
theorem dX6_ofLongs_177 : decode cX6_ofLongs 177 = .ok (.ifCond .ne 7, 3) := by decide +kernel
theorem dX6_ofLongs_180 : decode cX6_ofLongs 180 = .ok (.lconst 0, 1) := by decide +kernel
theorem dX6_ofLongs_181 : decode cX6_ofLongs 181 = .ok (.goto 6, 3) := by decide +kernel
theorem dX6_ofLongs_184 : decode cX6_ofLongs 184 = .ok (.lload_n 1, 1) := by decide +kernel
theorem dX6_ofLongs_185 : decode cX6_ofLongs 185 = .ok (.lload_n 3, 1) := by decide +kernel
theorem dX6_ofLongs_186 : decode cX6_ofLongs 186 = .ok (.lrem, 1) := by decide +kernel
theorem dX6_ofLongs_187 : decode cX6_ofLongs 187 = .ok (.lreturn, 1) := by decide +kernel
theorem dX6_ofLongs_188 : decode cX6_ofLongs 188 = .ok (.lload_n 1, 1) := by decide +kernel
theorem dX6_ofLongs_189 : decode cX6_ofLongs 189 = .ok (.lload_n 3, 1) := by decide +kernel
theorem dX6_ofLongs_190 : decode cX6_ofLongs 190 = .ok (.l2i, 1) := by decide +kernel
theorem dX6_ofLongs_191 : decode cX6_ofLongs 191 = .ok (.lshl, 1) := by decide +kernel
theorem dX6_ofLongs_192 : decode cX6_ofLongs 192 = .ok (.lreturn, 1) := by decide +kernel
theorem dX6_ofLongs_193 : decode cX6_ofLongs 193 = .ok (.lload_n 1, 1) := by decide +kernel
theorem dX6_ofLongs_194 : decode cX6_ofLongs 194 = .ok (.lload_n 3, 1) := by decide +kernel
theorem dX6_ofLongs_195 : decode cX6_ofLongs 195 = .ok (.l2i, 1) := by decide +kernel
theorem dX6_ofLongs_196 : decode cX6_ofLongs 196 = .ok (.lshr, 1) := by decide +kernel
theorem dX6_ofLongs_197 : decode cX6_ofLongs 197 = .ok (.lreturn, 1) := by decide +kernel
theorem dX6_ofLongs_198 : decode cX6_ofLongs 198 = .ok (.lload_n 1, 1) := by decide +kernel
theorem dX6_ofLongs_199 : decode cX6_ofLongs 199 = .ok (.lload_n 3, 1) := by decide +kernel
theorem dX6_ofLongs_200 : decode cX6_ofLongs 200 = .ok (.l2i, 1) := by decide +kernel
theorem dX6_ofLongs_201 : decode cX6_ofLongs 201 = .ok (.lushr, 1) := by decide +kernel
theorem dX6_ofLongs_202 : decode cX6_ofLongs 202 = .ok (.lreturn, 1) := by decide +kernel
theorem dX6_ofLongs_203 : decode cX6_ofLongs 203 = .ok (.lload_n 1, 1) := by decide +kernel
theorem dX6_ofLongs_204 : decode cX6_ofLongs 204 = .ok (.lload_n 3, 1) := by decide +kernel
theorem dX6_ofLongs_205 : decode cX6_ofLongs 205 = .ok (.land, 1) := by decide +kernel
theorem dX6_ofLongs_206 : decode cX6_ofLongs 206 = .ok (.lreturn, 1) := by decide +kernel
theorem dX6_ofLongs_207 : decode cX6_ofLongs 207 = .ok (.lload_n 1, 1) := by decide +kernel
theorem dX6_ofLongs_208 : decode cX6_ofLongs 208 = .ok (.lload_n 3, 1) := by decide +kernel
theorem dX6_ofLongs_209 : decode cX6_ofLongs 209 = .ok (.lor, 1) := by decide +kernel
theorem dX6_ofLongs_210 : decode cX6_ofLongs 210 = .ok (.lreturn, 1) := by decide +kernel
theorem dX6_ofLongs_211 : decode cX6_ofLongs 211 = .ok (.lload_n 1, 1) := by decide +kernel
theorem dX6_ofLongs_212 : decode cX6_ofLongs 212 = .ok (.lload_n 3, 1) := by decide +kernel
theorem dX6_ofLongs_213 : decode cX6_ofLongs 213 = .ok (.lxor, 1) := by decide +kernel
theorem dX6_ofLongs_214 : decode cX6_ofLongs 214 = .ok (.lreturn, 1) := by decide +kernel
theorem dX6_placesOf_0 : decode cX6_placesOf 0 = .ok (.iconst 0, 1) := by decide +kernel
theorem dX6_placesOf_1 : decode cX6_placesOf 1 = .ok (.istore_n 1, 1) := by decide +kernel
theorem dX6_placesOf_2 : decode cX6_placesOf 2 = .ok (.iload_n 0, 1) := by decide +kernel
theorem dX6_placesOf_3 : decode cX6_placesOf 3 = .ok (.istore_n 2, 1) := by decide +kernel
theorem dX6_placesOf_4 : decode cX6_placesOf 4 = .ok (.iload_n 2, 1) := by decide +kernel
theorem dX6_placesOf_5 : decode cX6_placesOf 5 = .ok (.ifCond .le 26, 3) := by decide +kernel
theorem dX6_placesOf_8 : decode cX6_placesOf 8 = .ok (.iload_n 1, 1) := by decide +kernel
theorem dX6_placesOf_9 : decode cX6_placesOf 9 = .ok (.iload_n 2, 1) := by decide +kernel
theorem dX6_placesOf_10 : decode cX6_placesOf 10 = .ok (.bipush 15, 2) := by decide +kernel
theorem dX6_placesOf_12 : decode cX6_placesOf 12 = .ok (.iand, 1) := by decide +kernel
theorem dX6_placesOf_13 : decode cX6_placesOf 13 = .ok (.iconst 2, 1) := by decide +kernel
theorem dX6_placesOf_14 : decode cX6_placesOf 14 = .ok (.if_icmp .ne 7, 3) := by decide +kernel
theorem dX6_placesOf_17 : decode cX6_placesOf 17 = .ok (.iconst 2, 1) := by decide +kernel
theorem dX6_placesOf_18 : decode cX6_placesOf 18 = .ok (.goto 4, 3) := by decide +kernel

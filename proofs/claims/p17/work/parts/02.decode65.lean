theorem dX6_ofLongs_156 : decode cX6_ofLongs 156 = .ok (.lload_n 1, 1) := by decide +kernel
theorem dX6_ofLongs_157 : decode cX6_ofLongs 157 = .ok (.lload_n 3, 1) := by decide +kernel
theorem dX6_ofLongs_158 : decode cX6_ofLongs 158 = .ok (.lmul, 1) := by decide +kernel
theorem dX6_ofLongs_159 : decode cX6_ofLongs 159 = .ok (.lreturn, 1) := by decide +kernel
theorem dX6_ofLongs_160 : decode cX6_ofLongs 160 = .ok (.lload_n 3, 1) := by decide +kernel
theorem dX6_ofLongs_161 : decode cX6_ofLongs 161 = .ok (.lconst 0, 1) := by decide +kernel
theorem dX6_ofLongs_162 : decode cX6_ofLongs 162 = .ok (.lcmp, 1) := by decide +kernel
theorem dX6_ofLongs_163 : decode cX6_ofLongs 163 = .ok (.ifCond .ne 7, 3) := by decide +kernel
theorem dX6_ofLongs_166 : decode cX6_ofLongs 166 = .ok (.lconst 0, 1) := by decide +kernel
theorem dX6_ofLongs_167 : decode cX6_ofLongs 167 = .ok (.goto 6, 3) := by decide +kernel
theorem dX6_ofLongs_170 : decode cX6_ofLongs 170 = .ok (.lload_n 1, 1) := by decide +kernel
theorem dX6_ofLongs_171 : decode cX6_ofLongs 171 = .ok (.lload_n 3, 1) := by decide +kernel
theorem dX6_ofLongs_172 : decode cX6_ofLongs 172 = .ok (.ldiv, 1) := by decide +kernel
theorem dX6_ofLongs_173 : decode cX6_ofLongs 173 = .ok (.lreturn, 1) := by decide +kernel
theorem dX6_ofLongs_174 : decode cX6_ofLongs 174 = .ok (.lload_n 3, 1) := by decide +kernel
theorem dX6_ofLongs_175 : decode cX6_ofLongs 175 = .ok (.lconst 0, 1) := by decide +kernel
theorem dX6_ofLongs_176 : decode cX6_ofLongs 176 = .ok (.lcmp, 1) := by decide +kernel
theorem dX6_ofLongs_177 : decode cX6_ofLongs 177 = .ok (.ifCond .ne 7, 3) := by decide +kernel
theorem dX6_ofLongs_180 : decode cX6_ofLongs 180 = .ok (.lconst 0, 1) := by decide +kernel
theorem dX6_ofLongs_181 : decode cX6_ofLongs 181 = .ok (.goto 6, 3) := by decide +kernel
theorem dX6_ofLongs_184 : decode cX6_ofLongs 184 = .ok (.lload_n 1, 1) := by decide +kernel
theorem dX6_ofLongs_185 : decode cX6_ofLongs 185 = .ok (.lload_n 3, 1) := by decide +kernel
theorem dX6_ofLongs_186 : decode cX6_ofLongs 186 = .ok (.lrem, 1) := by decide +kernel
theorem dX6_ofLongs_187 : decode cX6_ofLongs 187 = .ok (.lreturn, 1) := by decide +kernel
theorem dX6_ofLongs_188 : decode cX6_ofLongs 188 = .ok (.lload_n 1, 1) := by decide +kernel
theorem dX6_ofLongs_189 : decode cX6_ofLongs 189 = .ok (.lload_n 3, 1) := by decide +kernel
theorem dX6_ofLongs_190 : decode cX6_ofLongs 190 = .ok (.l2i, 1) := by decide +kernel
theorem dX6_ofLongs_191 : decode cX6_ofLongs 191 = .ok (.lshl, 1) := by decide +kernel
theorem dX6_ofLongs_192 : decode cX6_ofLongs 192 = .ok (.lreturn, 1) := by decide +kernel
theorem dX6_ofLongs_193 : decode cX6_ofLongs 193 = .ok (.lload_n 1, 1) := by decide +kernel
theorem dX6_ofLongs_194 : decode cX6_ofLongs 194 = .ok (.lload_n 3, 1) := by decide +kernel
theorem dX6_ofLongs_195 : decode cX6_ofLongs 195 = .ok (.l2i, 1) := by decide +kernel
theorem dX6_ofLongs_196 : decode cX6_ofLongs 196 = .ok (.lshr, 1) := by decide +kernel
theorem dX6_ofLongs_197 : decode cX6_ofLongs 197 = .ok (.lreturn, 1) := by decide +kernel
theorem dX6_ofLongs_198 : decode cX6_ofLongs 198 = .ok (.lload_n 1, 1) := by decide +kernel
theorem dX6_ofLongs_199 : decode cX6_ofLongs 199 = .ok (.lload_n 3, 1) := by decide +kernel
theorem dX6_ofLongs_200 : decode cX6_ofLongs 200 = .ok (.l2i, 1) := by decide +kernel
theorem dX6_ofLongs_201 : decode cX6_ofLongs 201 = .ok (.lushr, 1) := by decide +kernel
theorem dX6_ofLongs_202 : decode cX6_ofLongs 202 = .ok (.lreturn, 1) := by decide +kernel
theorem dX6_ofLongs_203 : decode cX6_ofLongs 203 = .ok (.lload_n 1, 1) := by decide +kernel
theorem dX6_ofLongs_204 : decode cX6_ofLongs 204 = .ok (.lload_n 3, 1) := by decide +kernel
theorem dX6_ofLongs_205 : decode cX6_ofLongs 205 = .ok (.land, 1) := by decide +kernel
theorem dX6_ofLongs_206 : decode cX6_ofLongs 206 = .ok (.lreturn, 1) := by decide +kernel
theorem dX6_ofLongs_207 : decode cX6_ofLongs 207 = .ok (.lload_n 1, 1) := by decide +kernel
theorem dX6_ofLongs_208 : decode cX6_ofLongs 208 = .ok (.lload_n 3, 1) := by decide +kernel
theorem dX6_ofLongs_209 : decode cX6_ofLongs 209 = .ok (.lor, 1) := by decide +kernel
theorem dX6_ofLongs_210 : decode cX6_ofLongs 210 = .ok (.lreturn, 1) := by decide +kernel
theorem dX6_ofLongs_211 : decode cX6_ofLongs 211 = .ok (.lload_n 1, 1) := by decide +kernel
theorem dX6_ofLongs_212 : decode cX6_ofLongs 212 = .ok (.lload_n 3, 1) := by decide +kernel
theorem dX6_ofLongs_213 : decode cX6_ofLongs 213 = .ok (.lxor, 1) := by decide +kernel
theorem dX6_ofLongs_214 : decode cX6_ofLongs 214 = .ok (.lreturn, 1) := by decide +kernel
theorem dX6_placesOf_0 : decode cX6_placesOf 0 = .ok (.iconst 0, 1) := by decide +kernel
theorem dX6_placesOf_1 : decode cX6_placesOf 1 = .ok (.istore_n 1, 1) := by decide +kernel
theorem dX6_placesOf_2 : decode cX6_placesOf 2 = .ok (.iload_n 0, 1) := by decide +kernel
theorem dX6_placesOf_3 : decode cX6_placesOf 3 = .ok (.istore_n 2, 1) := by decide +kernel
theorem dX6_placesOf_4 : decode cX6_placesOf 4 = .ok (.iload_n 2, 1) := by decide +kernel
theorem dX6_placesOf_5 : decode cX6_placesOf 5 = .ok (.ifCond .le 26, 3) := by decide +kernel
theorem dX6_placesOf_8 : decode cX6_placesOf 8 = .ok (.iload_n 1, 1) := by decide +kernel
theorem dX6_placesOf_9 : decode cX6_placesOf 9 = .ok (.iload_n 2, 1) := by decide +kernel
theorem dX6_placesOf_10 : decode cX6_placesOf 10 = .ok (.bipush 15, 2) := by decide +kernel
theorem dX6_placesOf_12 : decode cX6_placesOf 12 = .ok (.iand, 1) := by decide +kernel
theorem dX6_placesOf_13 : decode cX6_placesOf 13 = .ok (.iconst 2, 1) := by decide +kernel
theorem dX6_placesOf_14 : decode cX6_placesOf 14 = .ok (.if_icmp .ne 7, 3) := by decide +kernel
theorem dX6_placesOf_17 : decode cX6_placesOf 17 = .ok (.iconst 2, 1) := by decide +kernel
theorem dX6_placesOf_18 : decode cX6_placesOf 18 = .ok (.goto 4, 3) := by decide +kernel
theorem dX6_placesOf_21 : decode cX6_placesOf 21 = .ok (.iconst 1, 1) := by decide +kernel
theorem dX6_placesOf_22 : decode cX6_placesOf 22 = .ok (.iadd, 1) := by decide +kernel
theorem dX6_placesOf_23 : decode cX6_placesOf 23 = .ok (.istore_n 1, 1) := by decide +kernel
theorem dX6_placesOf_24 : decode cX6_placesOf 24 = .ok (.iload_n 2, 1) := by decide +kernel
theorem dX6_placesOf_25 : decode cX6_placesOf 25 = .ok (.iconst 4, 1) := by decide +kernel
theorem dX6_placesOf_26 : decode cX6_placesOf 26 = .ok (.ishr, 1) := by decide +kernel
theorem dX6_placesOf_27 : decode cX6_placesOf 27 = .ok (.istore_n 2, 1) := by decide +kernel
theorem dX6_placesOf_28 : decode cX6_placesOf 28 = .ok (.goto (-24), 3) := by decide +kernel
theorem dX6_placesOf_31 : decode cX6_placesOf 31 = .ok (.iload_n 1, 1) := by decide +kernel
theorem dX6_placesOf_32 : decode cX6_placesOf 32 = .ok (.ireturn, 1) := by decide +kernel
theorem dX6_takes_0 : decode cX6_takes 0 = .ok (.iload_n 0, 1) := by decide +kernel
theorem dX6_takes_1 : decode cX6_takes 1 = .ok (.ifCond .lt 11, 3) := by decide +kernel
theorem dX6_takes_4 : decode cX6_takes 4 = .ok (.iload_n 0, 1) := by decide +kernel
theorem dX6_takes_5 : decode cX6_takes 5 = .ok (.getstatic 22, 3) := by decide +kernel
theorem dX6_takes_8 : decode cX6_takes 8 = .ok (.arraylength, 1) := by decide +kernel
theorem dX6_takes_9 : decode cX6_takes 9 = .ok (.if_icmp .lt 7, 3) := by decide +kernel
theorem dX6_takes_12 : decode cX6_takes 12 = .ok (.iconst 0, 1) := by decide +kernel
theorem dX6_takes_13 : decode cX6_takes 13 = .ok (.goto 8, 3) := by decide +kernel
theorem dX6_takes_16 : decode cX6_takes 16 = .ok (.getstatic 22, 3) := by decide +kernel
theorem dX6_takes_19 : decode cX6_takes 19 = .ok (.iload_n 0, 1) := by decide +kernel
theorem dX6_takes_20 : decode cX6_takes 20 = .ok (.iaload, 1) := by decide +kernel
theorem dX6_takes_21 : decode cX6_takes 21 = .ok (.ireturn, 1) := by decide +kernel
theorem dX6_unary_0 : decode cX6_unary 0 = .ok (.iload_n 0, 1) := by decide +kernel
theorem dX6_unary_1 : decode cX6_unary 1 = .ok (.lookupswitch 86 #[(116, 59), (117, 64), (136, 67), (145, 71), (146, 76), (147, 81)], 59) := by decide +kernel
theorem dX6_unary_60 : decode cX6_unary 60 = .ok (.lload_n 1, 1) := by decide +kernel
theorem dX6_unary_61 : decode cX6_unary 61 = .ok (.l2i, 1) := by decide +kernel
theorem dX6_unary_62 : decode cX6_unary 62 = .ok (.ineg, 1) := by decide +kernel
theorem dX6_unary_63 : decode cX6_unary 63 = .ok (.i2l, 1) := by decide +kernel
theorem dX6_unary_64 : decode cX6_unary 64 = .ok (.lreturn, 1) := by decide +kernel
theorem dX6_unary_65 : decode cX6_unary 65 = .ok (.lload_n 1, 1) := by decide +kernel
theorem dX6_unary_66 : decode cX6_unary 66 = .ok (.lneg, 1) := by decide +kernel
theorem dX6_unary_67 : decode cX6_unary 67 = .ok (.lreturn, 1) := by decide +kernel
theorem dX6_unary_68 : decode cX6_unary 68 = .ok (.lload_n 1, 1) := by decide +kernel
theorem dX6_unary_69 : decode cX6_unary 69 = .ok (.l2i, 1) := by decide +kernel
theorem dX6_unary_70 : decode cX6_unary 70 = .ok (.i2l, 1) := by decide +kernel
theorem dX6_unary_71 : decode cX6_unary 71 = .ok (.lreturn, 1) := by decide +kernel
theorem dX6_unary_72 : decode cX6_unary 72 = .ok (.lload_n 1, 1) := by decide +kernel
theorem dX6_unary_73 : decode cX6_unary 73 = .ok (.l2i, 1) := by decide +kernel
theorem dX6_unary_74 : decode cX6_unary 74 = .ok (.i2b, 1) := by decide +kernel
theorem dX6_unary_75 : decode cX6_unary 75 = .ok (.i2l, 1) := by decide +kernel
theorem dX6_unary_76 : decode cX6_unary 76 = .ok (.lreturn, 1) := by decide +kernel
theorem dX6_unary_77 : decode cX6_unary 77 = .ok (.lload_n 1, 1) := by decide +kernel
theorem dX6_unary_78 : decode cX6_unary 78 = .ok (.l2i, 1) := by decide +kernel
theorem dX6_unary_79 : decode cX6_unary 79 = .ok (.i2c, 1) := by decide +kernel
theorem dX6_unary_80 : decode cX6_unary 80 = .ok (.i2l, 1) := by decide +kernel
theorem dX6_unary_81 : decode cX6_unary 81 = .ok (.lreturn, 1) := by decide +kernel
theorem dX6_unary_82 : decode cX6_unary 82 = .ok (.lload_n 1, 1) := by decide +kernel
theorem dX6_unary_83 : decode cX6_unary 83 = .ok (.l2i, 1) := by decide +kernel
theorem dX6_unary_84 : decode cX6_unary 84 = .ok (.i2s, 1) := by decide +kernel
theorem dX6_unary_85 : decode cX6_unary 85 = .ok (.i2l, 1) := by decide +kernel
theorem dX6_unary_86 : decode cX6_unary 86 = .ok (.lreturn, 1) := by decide +kernel
theorem dX6_unary_87 : decode cX6_unary 87 = .ok (.lload_n 1, 1) := by decide +kernel
theorem dX6_unary_88 : decode cX6_unary 88 = .ok (.lreturn, 1) := by decide +kernel
theorem dX6_usesLocal_0 : decode cX6_usesLocal 0 = .ok (.iload_n 0, 1) := by decide +kernel
theorem dX6_usesLocal_1 : decode cX6_usesLocal 1 = .ok (.invokestatic 9, 3) := by decide +kernel
theorem dX6_usesLocal_4 : decode cX6_usesLocal 4 = .ok (.ifCond .ne 17, 3) := by decide +kernel
theorem dX6_usesLocal_7 : decode cX6_usesLocal 7 = .ok (.iload_n 0, 1) := by decide +kernel
theorem dX6_usesLocal_8 : decode cX6_usesLocal 8 = .ok (.invokestatic 15, 3) := by decide +kernel
theorem dX6_usesLocal_11 : decode cX6_usesLocal 11 = .ok (.ifCond .ne 10, 3) := by decide +kernel
theorem dX6_usesLocal_14 : decode cX6_usesLocal 14 = .ok (.iload_n 0, 1) := by decide +kernel
theorem dX6_usesLocal_15 : decode cX6_usesLocal 15 = .ok (.sipush 132, 3) := by decide +kernel
theorem dX6_usesLocal_18 : decode cX6_usesLocal 18 = .ok (.if_icmp .ne 7, 3) := by decide +kernel
theorem dX6_usesLocal_21 : decode cX6_usesLocal 21 = .ok (.iconst 1, 1) := by decide +kernel
theorem dX6_usesLocal_22 : decode cX6_usesLocal 22 = .ok (.goto 4, 3) := by decide +kernel
theorem dX6_usesLocal_25 : decode cX6_usesLocal 25 = .ok (.iconst 0, 1) := by decide +kernel
theorem dX6_usesLocal_26 : decode cX6_usesLocal 26 = .ok (.ireturn, 1) := by decide +kernel
theorem dX7_attributeNamesHold_0 : decode cX7_attributeNamesHold 0 = .ok (.aload_n 0, 1) := by decide +kernel
theorem dX7_attributeNamesHold_1 : decode cX7_attributeNamesHold 1 = .ok (.iload_n 1, 1) := by decide +kernel
theorem dX7_attributeNamesHold_2 : decode cX7_attributeNamesHold 2 = .ok (.invokevirtual 107, 3) := by decide +kernel
theorem dX7_attributeNamesHold_5 : decode cX7_attributeNamesHold 5 = .ok (.istore_n 2, 1) := by decide +kernel
theorem dX7_attributeNamesHold_6 : decode cX7_attributeNamesHold 6 = .ok (.iload_n 1, 1) := by decide +kernel
theorem dX7_attributeNamesHold_7 : decode cX7_attributeNamesHold 7 = .ok (.iconst 2, 1) := by decide +kernel
theorem dX7_attributeNamesHold_8 : decode cX7_attributeNamesHold 8 = .ok (.iadd, 1) := by decide +kernel
theorem dX7_attributeNamesHold_9 : decode cX7_attributeNamesHold 9 = .ok (.istore_n 3, 1) := by decide +kernel
theorem dX7_attributeNamesHold_10 : decode cX7_attributeNamesHold 10 = .ok (.iconst 0, 1) := by decide +kernel
theorem dX7_attributeNamesHold_11 : decode cX7_attributeNamesHold 11 = .ok (.istore 4, 2) := by decide +kernel
theorem dX7_attributeNamesHold_13 : decode cX7_attributeNamesHold 13 = .ok (.iload 4, 2) := by decide +kernel
theorem dX7_attributeNamesHold_15 : decode cX7_attributeNamesHold 15 = .ok (.iload_n 2, 1) := by decide +kernel
theorem dX7_attributeNamesHold_16 : decode cX7_attributeNamesHold 16 = .ok (.if_icmp .ge 32, 3) := by decide +kernel
theorem dX7_attributeNamesHold_19 : decode cX7_attributeNamesHold 19 = .ok (.aload_n 0, 1) := by decide +kernel
theorem dX7_attributeNamesHold_20 : decode cX7_attributeNamesHold 20 = .ok (.iload_n 3, 1) := by decide +kernel
theorem dX7_attributeNamesHold_21 : decode cX7_attributeNamesHold 21 = .ok (.invokevirtual 168, 3) := by decide +kernel
theorem dX7_attributeNamesHold_24 : decode cX7_attributeNamesHold 24 = .ok (.ifCond .ne 5, 3) := by decide +kernel
theorem dX7_attributeNamesHold_27 : decode cX7_attributeNamesHold 27 = .ok (.iconst 0, 1) := by decide +kernel
theorem dX7_attributeNamesHold_28 : decode cX7_attributeNamesHold 28 = .ok (.ireturn, 1) := by decide +kernel

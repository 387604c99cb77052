theorem dX11_putMember_17 : decode cX11_putMember 17 = .ok (.aload_n 0, 1) := by decide +kernel
theorem dX11_putMember_18 : decode cX11_putMember 18 = .ok (.getfield 18, 3) := by decide +kernel
theorem dX11_putMember_21 : decode cX11_putMember 21 = .ok (.iload_n 2, 1) := by decide +kernel
theorem dX11_putMember_22 : decode cX11_putMember 22 = .ok (.invokevirtual 105, 3) := by decide +kernel
theorem dX11_putMember_25 : decode cX11_putMember 25 = .ok (.aload_n 0, 1) := by decide +kernel
theorem dX11_putMember_26 : decode cX11_putMember 26 = .ok (.getfield 18, 3) := by decide +kernel
theorem dX11_putMember_29 : decode cX11_putMember 29 = .ok (.iload_n 3, 1) := by decide +kernel
theorem dX11_putMember_30 : decode cX11_putMember 30 = .ok (.invokevirtual 105, 3) := by decide +kernel
theorem dX11_putMember_33 : decode cX11_putMember 33 = .ok (.return_, 1) := by decide +kernel
theorem dX11_putSwitch_0 : decode cX11_putSwitch 0 = .ok (.aload_n 0, 1) := by decide +kernel
theorem dX11_putSwitch_1 : decode cX11_putSwitch 1 = .ok (.getfield 180, 3) := by decide +kernel
theorem dX11_putSwitch_4 : decode cX11_putSwitch 4 = .ok (.iload_n 1, 1) := by decide +kernel
theorem dX11_putSwitch_5 : decode cX11_putSwitch 5 = .ok (.invokevirtual 263, 3) := by decide +kernel
theorem dX11_putSwitch_8 : decode cX11_putSwitch 8 = .ok (.l2i, 1) := by decide +kernel
theorem dX11_putSwitch_9 : decode cX11_putSwitch 9 = .ok (.istore_n 3, 1) := by decide +kernel
theorem dX11_putSwitch_10 : decode cX11_putSwitch 10 = .ok (.aload_n 0, 1) := by decide +kernel
theorem dX11_putSwitch_11 : decode cX11_putSwitch 11 = .ok (.getfield 180, 3) := by decide +kernel
theorem dX11_putSwitch_14 : decode cX11_putSwitch 14 = .ok (.iload_n 1, 1) := by decide +kernel
theorem dX11_putSwitch_15 : decode cX11_putSwitch 15 = .ok (.invokevirtual 302, 3) := by decide +kernel
theorem dX11_putSwitch_18 : decode cX11_putSwitch 18 = .ok (.iconst 1, 1) := by decide +kernel
theorem dX11_putSwitch_19 : decode cX11_putSwitch 19 = .ok (.isub, 1) := by decide +kernel
theorem dX11_putSwitch_20 : decode cX11_putSwitch 20 = .ok (.istore 4, 2) := by decide +kernel
theorem dX11_putSwitch_22 : decode cX11_putSwitch 22 = .ok (.aload_n 0, 1) := by decide +kernel
theorem dX11_putSwitch_23 : decode cX11_putSwitch 23 = .ok (.getfield 180, 3) := by decide +kernel
theorem dX11_putSwitch_26 : decode cX11_putSwitch 26 = .ok (.iload_n 1, 1) := by decide +kernel
theorem dX11_putSwitch_27 : decode cX11_putSwitch 27 = .ok (.invokevirtual 240, 3) := by decide +kernel
theorem dX11_putSwitch_30 : decode cX11_putSwitch 30 = .ok (.sipush 170, 3) := by decide +kernel
theorem dX11_putSwitch_33 : decode cX11_putSwitch 33 = .ok (.if_icmp .ne 7, 3) := by decide +kernel
theorem dX11_putSwitch_36 : decode cX11_putSwitch 36 = .ok (.iconst 1, 1) := by decide +kernel
theorem dX11_putSwitch_37 : decode cX11_putSwitch 37 = .ok (.goto 4, 3) := by decide +kernel
theorem dX11_putSwitch_40 : decode cX11_putSwitch 40 = .ok (.iconst 0, 1) := by decide +kernel
theorem dX11_putSwitch_41 : decode cX11_putSwitch 41 = .ok (.istore 5, 2) := by decide +kernel
theorem dX11_putSwitch_43 : decode cX11_putSwitch 43 = .ok (.aload_n 0, 1) := by decide +kernel
theorem dX11_putSwitch_44 : decode cX11_putSwitch 44 = .ok (.getfield 18, 3) := by decide +kernel
theorem dX11_putSwitch_47 : decode cX11_putSwitch 47 = .ok (.aload_n 0, 1) := by decide +kernel
theorem dX11_putSwitch_48 : decode cX11_putSwitch 48 = .ok (.getfield 180, 3) := by decide +kernel
theorem dX11_putSwitch_51 : decode cX11_putSwitch 51 = .ok (.iload_n 1, 1) := by decide +kernel
theorem dX11_putSwitch_52 : decode cX11_putSwitch 52 = .ok (.invokevirtual 240, 3) := by decide +kernel
theorem dX11_putSwitch_55 : decode cX11_putSwitch 55 = .ok (.invokevirtual 129, 3) := by decide +kernel
theorem dX11_putSwitch_58 : decode cX11_putSwitch 58 = .ok (.iconst 0, 1) := by decide +kernel
theorem dX11_putSwitch_59 : decode cX11_putSwitch 59 = .ok (.istore 6, 2) := by decide +kernel
theorem dX11_putSwitch_61 : decode cX11_putSwitch 61 = .ok (.iload 6, 2) := by decide +kernel
theorem dX11_putSwitch_63 : decode cX11_putSwitch 63 = .ok (.iconst 3, 1) := by decide +kernel
theorem dX11_putSwitch_64 : decode cX11_putSwitch 64 = .ok (.if_icmp .ge 31, 3) := by decide +kernel
theorem dX11_putSwitch_67 : decode cX11_putSwitch 67 = .ok (.aload_n 0, 1) := by decide +kernel
theorem dX11_putSwitch_68 : decode cX11_putSwitch 68 = .ok (.getfield 18, 3) := by decide +kernel
theorem dX11_putSwitch_71 : decode cX11_putSwitch 71 = .ok (.getfield 60, 3) := by decide +kernel
theorem dX11_putSwitch_74 : decode cX11_putSwitch 74 = .ok (.iload_n 2, 1) := by decide +kernel
theorem dX11_putSwitch_75 : decode cX11_putSwitch 75 = .ok (.isub, 1) := by decide +kernel
theorem dX11_putSwitch_76 : decode cX11_putSwitch 76 = .ok (.iconst 3, 1) := by decide +kernel
theorem dX11_putSwitch_77 : decode cX11_putSwitch 77 = .ok (.iand, 1) := by decide +kernel
theorem dX11_putSwitch_78 : decode cX11_putSwitch 78 = .ok (.ifCond .eq 17, 3) := by decide +kernel
theorem dX11_putSwitch_81 : decode cX11_putSwitch 81 = .ok (.aload_n 0, 1) := by decide +kernel
theorem dX11_putSwitch_82 : decode cX11_putSwitch 82 = .ok (.getfield 18, 3) := by decide +kernel
theorem dX11_putSwitch_85 : decode cX11_putSwitch 85 = .ok (.iconst 0, 1) := by decide +kernel
theorem dX11_putSwitch_86 : decode cX11_putSwitch 86 = .ok (.invokevirtual 129, 3) := by decide +kernel
theorem dX11_putSwitch_89 : decode cX11_putSwitch 89 = .ok (.iinc 6 1, 3) := by decide +kernel
theorem dX11_putSwitch_92 : decode cX11_putSwitch 92 = .ok (.goto (-31), 3) := by decide +kernel
theorem dX11_putSwitch_95 : decode cX11_putSwitch 95 = .ok (.aload_n 0, 1) := by decide +kernel
theorem dX11_putSwitch_96 : decode cX11_putSwitch 96 = .ok (.getfield 18, 3) := by decide +kernel
theorem dX11_putSwitch_99 : decode cX11_putSwitch 99 = .ok (.aload_n 0, 1) := by decide +kernel
theorem dX11_putSwitch_100 : decode cX11_putSwitch 100 = .ok (.aload_n 0, 1) := by decide +kernel
theorem dX11_putSwitch_101 : decode cX11_putSwitch 101 = .ok (.getfield 180, 3) := by decide +kernel
theorem dX11_putSwitch_104 : decode cX11_putSwitch 104 = .ok (.iload_n 1, 1) := by decide +kernel
theorem dX11_putSwitch_105 : decode cX11_putSwitch 105 = .ok (.iconst 0, 1) := by decide +kernel
theorem dX11_putSwitch_106 : decode cX11_putSwitch 106 = .ok (.invokevirtual 328, 3) := by decide +kernel
theorem dX11_putSwitch_109 : decode cX11_putSwitch 109 = .ok (.invokevirtual 213, 3) := by decide +kernel
theorem dX11_putSwitch_112 : decode cX11_putSwitch 112 = .ok (.aload_n 0, 1) := by decide +kernel
theorem dX11_putSwitch_113 : decode cX11_putSwitch 113 = .ok (.iload_n 1, 1) := by decide +kernel
theorem dX11_putSwitch_114 : decode cX11_putSwitch 114 = .ok (.invokevirtual 213, 3) := by decide +kernel
theorem dX11_putSwitch_117 : decode cX11_putSwitch 117 = .ok (.isub, 1) := by decide +kernel
theorem dX11_putSwitch_118 : decode cX11_putSwitch 118 = .ok (.invokevirtual 167, 3) := by decide +kernel
theorem dX11_putSwitch_121 : decode cX11_putSwitch 121 = .ok (.iload 5, 2) := by decide +kernel
theorem dX11_putSwitch_123 : decode cX11_putSwitch 123 = .ok (.ifCond .eq 45, 3) := by decide +kernel
theorem dX11_putSwitch_126 : decode cX11_putSwitch 126 = .ok (.aload_n 0, 1) := by decide +kernel
theorem dX11_putSwitch_127 : decode cX11_putSwitch 127 = .ok (.getfield 18, 3) := by decide +kernel
theorem dX11_putSwitch_130 : decode cX11_putSwitch 130 = .ok (.aload_n 0, 1) := by decide +kernel
theorem dX11_putSwitch_131 : decode cX11_putSwitch 131 = .ok (.getfield 180, 3) := by decide +kernel
theorem dX11_putSwitch_134 : decode cX11_putSwitch 134 = .ok (.iload_n 3, 1) := by decide +kernel
theorem dX11_putSwitch_135 : decode cX11_putSwitch 135 = .ok (.iconst 1, 1) := by decide +kernel
theorem dX11_putSwitch_136 : decode cX11_putSwitch 136 = .ok (.iadd, 1) := by decide +kernel
theorem dX11_putSwitch_137 : decode cX11_putSwitch 137 = .ok (.invokevirtual 331, 3) := by decide +kernel
theorem dX11_putSwitch_140 : decode cX11_putSwitch 140 = .ok (.invokevirtual 167, 3) := by decide +kernel
theorem dX11_putSwitch_143 : decode cX11_putSwitch 143 = .ok (.aload_n 0, 1) := by decide +kernel
theorem dX11_putSwitch_144 : decode cX11_putSwitch 144 = .ok (.getfield 18, 3) := by decide +kernel
theorem dX11_putSwitch_147 : decode cX11_putSwitch 147 = .ok (.aload_n 0, 1) := by decide +kernel
theorem dX11_putSwitch_148 : decode cX11_putSwitch 148 = .ok (.getfield 180, 3) := by decide +kernel
theorem dX11_putSwitch_151 : decode cX11_putSwitch 151 = .ok (.iload_n 3, 1) := by decide +kernel
theorem dX11_putSwitch_152 : decode cX11_putSwitch 152 = .ok (.iconst 1, 1) := by decide +kernel
theorem dX11_putSwitch_153 : decode cX11_putSwitch 153 = .ok (.iadd, 1) := by decide +kernel
theorem dX11_putSwitch_154 : decode cX11_putSwitch 154 = .ok (.invokevirtual 331, 3) := by decide +kernel
theorem dX11_putSwitch_157 : decode cX11_putSwitch 157 = .ok (.iload 4, 2) := by decide +kernel
theorem dX11_putSwitch_159 : decode cX11_putSwitch 159 = .ok (.iadd, 1) := by decide +kernel
theorem dX11_putSwitch_160 : decode cX11_putSwitch 160 = .ok (.iconst 1, 1) := by decide +kernel
theorem dX11_putSwitch_161 : decode cX11_putSwitch 161 = .ok (.isub, 1) := by decide +kernel
theorem dX11_putSwitch_162 : decode cX11_putSwitch 162 = .ok (.invokevirtual 167, 3) := by decide +kernel
theorem dX11_putSwitch_165 : decode cX11_putSwitch 165 = .ok (.goto 12, 3) := by decide +kernel
theorem dX11_putSwitch_168 : decode cX11_putSwitch 168 = .ok (.aload_n 0, 1) := by decide +kernel
theorem dX11_putSwitch_169 : decode cX11_putSwitch 169 = .ok (.getfield 18, 3) := by decide +kernel
theorem dX11_putSwitch_172 : decode cX11_putSwitch 172 = .ok (.iload 4, 2) := by decide +kernel
theorem dX11_putSwitch_174 : decode cX11_putSwitch 174 = .ok (.invokevirtual 167, 3) := by decide +kernel
theorem dX11_putSwitch_177 : decode cX11_putSwitch 177 = .ok (.iconst 1, 1) := by decide +kernel
theorem dX11_putSwitch_178 : decode cX11_putSwitch 178 = .ok (.istore 6, 2) := by decide +kernel
theorem dX11_putSwitch_180 : decode cX11_putSwitch 180 = .ok (.iload 6, 2) := by decide +kernel
theorem dX11_putSwitch_182 : decode cX11_putSwitch 182 = .ok (.iload 4, 2) := by decide +kernel
theorem dX11_putSwitch_184 : decode cX11_putSwitch 184 = .ok (.if_icmp .gt 64, 3) := by decide +kernel
theorem dX11_putSwitch_187 : decode cX11_putSwitch 187 = .ok (.iload 5, 2) := by decide +kernel
theorem dX11_putSwitch_189 : decode cX11_putSwitch 189 = .ok (.ifCond .ne 26, 3) := by decide +kernel
theorem dX11_putSwitch_192 : decode cX11_putSwitch 192 = .ok (.aload_n 0, 1) := by decide +kernel
theorem dX11_putSwitch_193 : decode cX11_putSwitch 193 = .ok (.getfield 18, 3) := by decide +kernel
theorem dX11_putSwitch_196 : decode cX11_putSwitch 196 = .ok (.aload_n 0, 1) := by decide +kernel
theorem dX11_putSwitch_197 : decode cX11_putSwitch 197 = .ok (.getfield 180, 3) := by decide +kernel
theorem dX11_putSwitch_200 : decode cX11_putSwitch 200 = .ok (.iload_n 3, 1) := by decide +kernel
theorem dX11_putSwitch_201 : decode cX11_putSwitch 201 = .ok (.iconst 2, 1) := by decide +kernel
theorem dX11_putSwitch_202 : decode cX11_putSwitch 202 = .ok (.iadd, 1) := by decide +kernel
theorem dX11_putSwitch_203 : decode cX11_putSwitch 203 = .ok (.iload 4, 2) := by decide +kernel
theorem dX11_putSwitch_205 : decode cX11_putSwitch 205 = .ok (.iadd, 1) := by decide +kernel
theorem dX11_putSwitch_206 : decode cX11_putSwitch 206 = .ok (.iload 6, 2) := by decide +kernel
theorem dX11_putSwitch_208 : decode cX11_putSwitch 208 = .ok (.iadd, 1) := by decide +kernel
theorem dX11_putSwitch_209 : decode cX11_putSwitch 209 = .ok (.invokevirtual 331, 3) := by decide +kernel
theorem dX11_putSwitch_212 : decode cX11_putSwitch 212 = .ok (.invokevirtual 167, 3) := by decide +kernel
theorem dX11_putSwitch_215 : decode cX11_putSwitch 215 = .ok (.aload_n 0, 1) := by decide +kernel
theorem dX11_putSwitch_216 : decode cX11_putSwitch 216 = .ok (.getfield 18, 3) := by decide +kernel
theorem dX11_putSwitch_219 : decode cX11_putSwitch 219 = .ok (.aload_n 0, 1) := by decide +kernel
theorem dX11_putSwitch_220 : decode cX11_putSwitch 220 = .ok (.aload_n 0, 1) := by decide +kernel
theorem dX11_putSwitch_221 : decode cX11_putSwitch 221 = .ok (.getfield 180, 3) := by decide +kernel
theorem dX11_putSwitch_224 : decode cX11_putSwitch 224 = .ok (.iload_n 1, 1) := by decide +kernel
theorem dX11_putSwitch_225 : decode cX11_putSwitch 225 = .ok (.iload 6, 2) := by decide +kernel
theorem dX11_putSwitch_227 : decode cX11_putSwitch 227 = .ok (.invokevirtual 328, 3) := by decide +kernel
theorem dX11_putSwitch_230 : decode cX11_putSwitch 230 = .ok (.invokevirtual 213, 3) := by decide +kernel
theorem dX11_putSwitch_233 : decode cX11_putSwitch 233 = .ok (.aload_n 0, 1) := by decide +kernel
theorem dX11_putSwitch_234 : decode cX11_putSwitch 234 = .ok (.iload_n 1, 1) := by decide +kernel
theorem dX11_putSwitch_235 : decode cX11_putSwitch 235 = .ok (.invokevirtual 213, 3) := by decide +kernel
theorem dX11_putSwitch_238 : decode cX11_putSwitch 238 = .ok (.isub, 1) := by decide +kernel
theorem dX11_putSwitch_239 : decode cX11_putSwitch 239 = .ok (.invokevirtual 167, 3) := by decide +kernel
theorem dX11_putSwitch_242 : decode cX11_putSwitch 242 = .ok (.iinc 6 1, 3) := by decide +kernel
theorem dX11_putSwitch_245 : decode cX11_putSwitch 245 = .ok (.goto (-65), 3) := by decide +kernel
theorem dX11_putSwitch_248 : decode cX11_putSwitch 248 = .ok (.return_, 1) := by decide +kernel
theorem dX11_textEntry_0 : decode cX11_textEntry 0 = .ok (.aload_n 0, 1) := by decide +kernel
theorem dX11_textEntry_1 : decode cX11_textEntry 1 = .ok (.iconst 1, 1) := by decide +kernel
theorem dX11_textEntry_2 : decode cX11_textEntry 2 = .ok (.invokevirtual 147, 3) := by decide +kernel
theorem dX11_textEntry_5 : decode cX11_textEntry 5 = .ok (.aload_n 0, 1) := by decide +kernel
theorem dX11_textEntry_6 : decode cX11_textEntry 6 = .ok (.getfield 21, 3) := by decide +kernel
theorem dX11_textEntry_9 : decode cX11_textEntry 9 = .ok (.aload_n 1, 1) := by decide +kernel
theorem dX11_textEntry_10 : decode cX11_textEntry 10 = .ok (.invokevirtual 150, 3) := by decide +kernel
theorem dX11_textEntry_13 : decode cX11_textEntry 13 = .ok (.invokevirtual 105, 3) := by decide +kernel
theorem dX11_textEntry_16 : decode cX11_textEntry 16 = .ok (.iconst 0, 1) := by decide +kernel
theorem dX11_textEntry_17 : decode cX11_textEntry 17 = .ok (.istore_n 2, 1) := by decide +kernel
theorem dX11_textEntry_18 : decode cX11_textEntry 18 = .ok (.iload_n 2, 1) := by decide +kernel
theorem dX11_textEntry_19 : decode cX11_textEntry 19 = .ok (.aload_n 1, 1) := by decide +kernel

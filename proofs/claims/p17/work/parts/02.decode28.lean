theorem dX2_addSwitch_40 : decode cX2_addSwitch 40 = .ok (.if_icmp .ne 13, 3) := by decide +kernel
theorem dX2_addSwitch_43 : decode cX2_addSwitch 43 = .ok (.aload_n 0, 1) := by decide +kernel
theorem dX2_addSwitch_44 : decode cX2_addSwitch 44 = .ok (.iload_n 2, 1) := by decide +kernel
theorem dX2_addSwitch_45 : decode cX2_addSwitch 45 = .ok (.iconst 4, 1) := by decide +kernel
theorem dX2_addSwitch_46 : decode cX2_addSwitch 46 = .ok (.iadd, 1) := by decide +kernel
theorem dX2_addSwitch_47 : decode cX2_addSwitch 47 = .ok (.invokevirtual 163, 3) := by decide +kernel
theorem dX2_addSwitch_50 : decode cX2_addSwitch 50 = .ok (.goto 4, 3) := by decide +kernel
theorem dX2_addSwitch_53 : decode cX2_addSwitch 53 = .ok (.iconst 0, 1) := by decide +kernel
theorem dX2_addSwitch_54 : decode cX2_addSwitch 54 = .ok (.invokevirtual 358, 3) := by decide +kernel
theorem dX2_addSwitch_57 : decode cX2_addSwitch 57 = .ok (.iconst (-1), 1) := by decide +kernel
theorem dX2_addSwitch_58 : decode cX2_addSwitch 58 = .ok (.istore 4, 2) := by decide +kernel
theorem dX2_addSwitch_60 : decode cX2_addSwitch 60 = .ok (.iload 4, 2) := by decide +kernel
theorem dX2_addSwitch_62 : decode cX2_addSwitch 62 = .ok (.iload_n 3, 1) := by decide +kernel
theorem dX2_addSwitch_63 : decode cX2_addSwitch 63 = .ok (.if_icmp .ge 24, 3) := by decide +kernel
theorem dX2_addSwitch_66 : decode cX2_addSwitch 66 = .ok (.aload_n 1, 1) := by decide +kernel
theorem dX2_addSwitch_67 : decode cX2_addSwitch 67 = .ok (.aload_n 0, 1) := by decide +kernel
theorem dX2_addSwitch_68 : decode cX2_addSwitch 68 = .ok (.aload_n 0, 1) := by decide +kernel
theorem dX2_addSwitch_69 : decode cX2_addSwitch 69 = .ok (.iload_n 2, 1) := by decide +kernel
theorem dX2_addSwitch_70 : decode cX2_addSwitch 70 = .ok (.iload 4, 2) := by decide +kernel
theorem dX2_addSwitch_72 : decode cX2_addSwitch 72 = .ok (.invokevirtual 240, 3) := by decide +kernel
theorem dX2_addSwitch_75 : decode cX2_addSwitch 75 = .ok (.invokevirtual 217, 3) := by decide +kernel
theorem dX2_addSwitch_78 : decode cX2_addSwitch 78 = .ok (.invokevirtual 358, 3) := by decide +kernel
theorem dX2_addSwitch_81 : decode cX2_addSwitch 81 = .ok (.iinc 4 1, 3) := by decide +kernel
theorem dX2_addSwitch_84 : decode cX2_addSwitch 84 = .ok (.goto (-24), 3) := by decide +kernel
theorem dX2_addSwitch_87 : decode cX2_addSwitch 87 = .ok (.iconst 0, 1) := by decide +kernel
theorem dX2_addSwitch_88 : decode cX2_addSwitch 88 = .ok (.istore 4, 2) := by decide +kernel
theorem dX2_addSwitch_90 : decode cX2_addSwitch 90 = .ok (.aload_n 0, 1) := by decide +kernel
theorem dX2_addSwitch_91 : decode cX2_addSwitch 91 = .ok (.getfield 169, 3) := by decide +kernel
theorem dX2_addSwitch_94 : decode cX2_addSwitch 94 = .ok (.sipush 171, 3) := by decide +kernel
theorem dX2_addSwitch_97 : decode cX2_addSwitch 97 = .ok (.if_icmp .ne 33, 3) := by decide +kernel
theorem dX2_addSwitch_100 : decode cX2_addSwitch 100 = .ok (.iload 4, 2) := by decide +kernel
theorem dX2_addSwitch_102 : decode cX2_addSwitch 102 = .ok (.iload_n 3, 1) := by decide +kernel
theorem dX2_addSwitch_103 : decode cX2_addSwitch 103 = .ok (.if_icmp .ge 27, 3) := by decide +kernel
theorem dX2_addSwitch_106 : decode cX2_addSwitch 106 = .ok (.aload_n 1, 1) := by decide +kernel
theorem dX2_addSwitch_107 : decode cX2_addSwitch 107 = .ok (.aload_n 0, 1) := by decide +kernel
theorem dX2_addSwitch_108 : decode cX2_addSwitch 108 = .ok (.iload_n 2, 1) := by decide +kernel
theorem dX2_addSwitch_109 : decode cX2_addSwitch 109 = .ok (.bipush 8, 2) := by decide +kernel
theorem dX2_addSwitch_111 : decode cX2_addSwitch 111 = .ok (.iadd, 1) := by decide +kernel
theorem dX2_addSwitch_112 : decode cX2_addSwitch 112 = .ok (.bipush 8, 2) := by decide +kernel
theorem dX2_addSwitch_114 : decode cX2_addSwitch 114 = .ok (.iload 4, 2) := by decide +kernel
theorem dX2_addSwitch_116 : decode cX2_addSwitch 116 = .ok (.imul, 1) := by decide +kernel
theorem dX2_addSwitch_117 : decode cX2_addSwitch 117 = .ok (.iadd, 1) := by decide +kernel
theorem dX2_addSwitch_118 : decode cX2_addSwitch 118 = .ok (.invokevirtual 163, 3) := by decide +kernel
theorem dX2_addSwitch_121 : decode cX2_addSwitch 121 = .ok (.invokevirtual 358, 3) := by decide +kernel
theorem dX2_addSwitch_124 : decode cX2_addSwitch 124 = .ok (.iinc 4 1, 3) := by decide +kernel
theorem dX2_addSwitch_127 : decode cX2_addSwitch 127 = .ok (.goto (-37), 3) := by decide +kernel
theorem dX2_addSwitch_130 : decode cX2_addSwitch 130 = .ok (.return_, 1) := by decide +kernel
theorem dX2_addTo_0 : decode cX2_addTo 0 = .ok (.aload_n 0, 1) := by decide +kernel
theorem dX2_addTo_1 : decode cX2_addTo 1 = .ok (.getfield 169, 3) := by decide +kernel
theorem dX2_addTo_4 : decode cX2_addTo 4 = .ok (.invokestatic 181, 3) := by decide +kernel
theorem dX2_addTo_7 : decode cX2_addTo 7 = .ok (.ifCond .eq 21, 3) := by decide +kernel
theorem dX2_addTo_10 : decode cX2_addTo 10 = .ok (.aload_n 1, 1) := by decide +kernel
theorem dX2_addTo_11 : decode cX2_addTo 11 = .ok (.aload_n 0, 1) := by decide +kernel
theorem dX2_addTo_12 : decode cX2_addTo 12 = .ok (.getfield 169, 3) := by decide +kernel
theorem dX2_addTo_15 : decode cX2_addTo 15 = .ok (.aload_n 0, 1) := by decide +kernel
theorem dX2_addTo_16 : decode cX2_addTo 16 = .ok (.aload_n 0, 1) := by decide +kernel
theorem dX2_addTo_17 : decode cX2_addTo 17 = .ok (.getfield 172, 3) := by decide +kernel
theorem dX2_addTo_20 : decode cX2_addTo 20 = .ok (.invokevirtual 217, 3) := by decide +kernel
theorem dX2_addTo_23 : decode cX2_addTo 23 = .ok (.i2l, 1) := by decide +kernel
theorem dX2_addTo_24 : decode cX2_addTo 24 = .ok (.invokevirtual 346, 3) := by decide +kernel
theorem dX2_addTo_27 : decode cX2_addTo 27 = .ok (.return_, 1) := by decide +kernel
theorem dX2_addTo_28 : decode cX2_addTo 28 = .ok (.aload_n 0, 1) := by decide +kernel
theorem dX2_addTo_29 : decode cX2_addTo 29 = .ok (.getfield 169, 3) := by decide +kernel
theorem dX2_addTo_32 : decode cX2_addTo 32 = .ok (.invokestatic 184, 3) := by decide +kernel
theorem dX2_addTo_35 : decode cX2_addTo 35 = .ok (.ifCond .eq 9, 3) := by decide +kernel
theorem dX2_addTo_38 : decode cX2_addTo 38 = .ok (.aload_n 0, 1) := by decide +kernel
theorem dX2_addTo_39 : decode cX2_addTo 39 = .ok (.aload_n 1, 1) := by decide +kernel
theorem dX2_addTo_40 : decode cX2_addTo 40 = .ok (.invokevirtual 349, 3) := by decide +kernel
theorem dX2_addTo_43 : decode cX2_addTo 43 = .ok (.return_, 1) := by decide +kernel
theorem dX2_addTo_44 : decode cX2_addTo 44 = .ok (.aload_n 0, 1) := by decide +kernel
theorem dX2_addTo_45 : decode cX2_addTo 45 = .ok (.getfield 169, 3) := by decide +kernel
theorem dX2_addTo_48 : decode cX2_addTo 48 = .ok (.lookupswitch 177 #[(9, 60), (19, 73), (20, 104), (178, 131), (179, 131), (184, 154)], 60) := by decide +kernel
theorem dX2_addTo_108 : decode cX2_addTo 108 = .ok (.aload_n 1, 1) := by decide +kernel
theorem dX2_addTo_109 : decode cX2_addTo 109 = .ok (.bipush 20, 2) := by decide +kernel
theorem dX2_addTo_111 : decode cX2_addTo 111 = .ok (.aload_n 0, 1) := by decide +kernel
theorem dX2_addTo_112 : decode cX2_addTo 112 = .ok (.getfield 172, 3) := by decide +kernel
theorem dX2_addTo_115 : decode cX2_addTo 115 = .ok (.invokevirtual 346, 3) := by decide +kernel
theorem dX2_addTo_118 : decode cX2_addTo 118 = .ok (.goto 119, 3) := by decide +kernel
theorem dX2_addTo_121 : decode cX2_addTo 121 = .ok (.aload_n 1, 1) := by decide +kernel
theorem dX2_addTo_122 : decode cX2_addTo 122 = .ok (.bipush 17, 2) := by decide +kernel
theorem dX2_addTo_124 : decode cX2_addTo 124 = .ok (.aload_n 0, 1) := by decide +kernel
theorem dX2_addTo_125 : decode cX2_addTo 125 = .ok (.getfield 12, 3) := by decide +kernel
theorem dX2_addTo_128 : decode cX2_addTo 128 = .ok (.aload_n 0, 1) := by decide +kernel
theorem dX2_addTo_129 : decode cX2_addTo 129 = .ok (.getfield 12, 3) := by decide +kernel
theorem dX2_addTo_132 : decode cX2_addTo 132 = .ok (.aload_n 0, 1) := by decide +kernel
theorem dX2_addTo_133 : decode cX2_addTo 133 = .ok (.getfield 172, 3) := by decide +kernel
theorem dX2_addTo_136 : decode cX2_addTo 136 = .ok (.l2i, 1) := by decide +kernel
theorem dX2_addTo_137 : decode cX2_addTo 137 = .ok (.invokevirtual 288, 3) := by decide +kernel
theorem dX2_addTo_140 : decode cX2_addTo 140 = .ok (.iconst 1, 1) := by decide +kernel
theorem dX2_addTo_141 : decode cX2_addTo 141 = .ok (.iadd, 1) := by decide +kernel
theorem dX2_addTo_142 : decode cX2_addTo 142 = .ok (.invokevirtual 102, 3) := by decide +kernel
theorem dX2_addTo_145 : decode cX2_addTo 145 = .ok (.i2l, 1) := by decide +kernel
theorem dX2_addTo_146 : decode cX2_addTo 146 = .ok (.invokevirtual 346, 3) := by decide +kernel
theorem dX2_addTo_149 : decode cX2_addTo 149 = .ok (.goto 88, 3) := by decide +kernel
theorem dX2_addTo_152 : decode cX2_addTo 152 = .ok (.aload_n 1, 1) := by decide +kernel
theorem dX2_addTo_153 : decode cX2_addTo 153 = .ok (.bipush 20, 2) := by decide +kernel
theorem dX2_addTo_155 : decode cX2_addTo 155 = .ok (.aload_n 0, 1) := by decide +kernel
theorem dX2_addTo_156 : decode cX2_addTo 156 = .ok (.aload_n 0, 1) := by decide +kernel
theorem dX2_addTo_157 : decode cX2_addTo 157 = .ok (.getfield 12, 3) := by decide +kernel
theorem dX2_addTo_160 : decode cX2_addTo 160 = .ok (.aload_n 0, 1) := by decide +kernel
theorem dX2_addTo_161 : decode cX2_addTo 161 = .ok (.getfield 172, 3) := by decide +kernel
theorem dX2_addTo_164 : decode cX2_addTo 164 = .ok (.l2i, 1) := by decide +kernel
theorem dX2_addTo_165 : decode cX2_addTo 165 = .ok (.invokevirtual 288, 3) := by decide +kernel
theorem dX2_addTo_168 : decode cX2_addTo 168 = .ok (.iconst 1, 1) := by decide +kernel
theorem dX2_addTo_169 : decode cX2_addTo 169 = .ok (.iadd, 1) := by decide +kernel
theorem dX2_addTo_170 : decode cX2_addTo 170 = .ok (.invokevirtual 352, 3) := by decide +kernel
theorem dX2_addTo_173 : decode cX2_addTo 173 = .ok (.invokevirtual 346, 3) := by decide +kernel
theorem dX2_addTo_176 : decode cX2_addTo 176 = .ok (.goto 61, 3) := by decide +kernel
theorem dX2_addTo_179 : decode cX2_addTo 179 = .ok (.aload_n 1, 1) := by decide +kernel
theorem dX2_addTo_180 : decode cX2_addTo 180 = .ok (.aload_n 0, 1) := by decide +kernel
theorem dX2_addTo_181 : decode cX2_addTo 181 = .ok (.getfield 169, 3) := by decide +kernel
theorem dX2_addTo_184 : decode cX2_addTo 184 = .ok (.aload_n 0, 1) := by decide +kernel
theorem dX2_addTo_185 : decode cX2_addTo 185 = .ok (.aload_n 0, 1) := by decide +kernel
theorem dX2_addTo_186 : decode cX2_addTo 186 = .ok (.getfield 172, 3) := by decide +kernel
theorem dX2_addTo_189 : decode cX2_addTo 189 = .ok (.l2i, 1) := by decide +kernel
theorem dX2_addTo_190 : decode cX2_addTo 190 = .ok (.bipush 9, 2) := by decide +kernel
theorem dX2_addTo_192 : decode cX2_addTo 192 = .ok (.invokevirtual 234, 3) := by decide +kernel
theorem dX2_addTo_195 : decode cX2_addTo 195 = .ok (.i2l, 1) := by decide +kernel
theorem dX2_addTo_196 : decode cX2_addTo 196 = .ok (.invokevirtual 346, 3) := by decide +kernel
theorem dX2_addTo_199 : decode cX2_addTo 199 = .ok (.goto 38, 3) := by decide +kernel
theorem dX2_addTo_202 : decode cX2_addTo 202 = .ok (.aload_n 1, 1) := by decide +kernel
theorem dX2_addTo_203 : decode cX2_addTo 203 = .ok (.aload_n 0, 1) := by decide +kernel
theorem dX2_addTo_204 : decode cX2_addTo 204 = .ok (.getfield 169, 3) := by decide +kernel
theorem dX2_addTo_207 : decode cX2_addTo 207 = .ok (.aload_n 0, 1) := by decide +kernel
theorem dX2_addTo_208 : decode cX2_addTo 208 = .ok (.aload_n 0, 1) := by decide +kernel
theorem dX2_addTo_209 : decode cX2_addTo 209 = .ok (.getfield 172, 3) := by decide +kernel
theorem dX2_addTo_212 : decode cX2_addTo 212 = .ok (.l2i, 1) := by decide +kernel
theorem dX2_addTo_213 : decode cX2_addTo 213 = .ok (.bipush 10, 2) := by decide +kernel
theorem dX2_addTo_215 : decode cX2_addTo 215 = .ok (.invokevirtual 234, 3) := by decide +kernel
theorem dX2_addTo_218 : decode cX2_addTo 218 = .ok (.i2l, 1) := by decide +kernel
theorem dX2_addTo_219 : decode cX2_addTo 219 = .ok (.invokevirtual 346, 3) := by decide +kernel
theorem dX2_addTo_222 : decode cX2_addTo 222 = .ok (.goto 15, 3) := by decide +kernel
theorem dX2_addTo_225 : decode cX2_addTo 225 = .ok (.aload_n 1, 1) := by decide +kernel
theorem dX2_addTo_226 : decode cX2_addTo 226 = .ok (.aload_n 0, 1) := by decide +kernel
theorem dX2_addTo_227 : decode cX2_addTo 227 = .ok (.getfield 169, 3) := by decide +kernel
theorem dX2_addTo_230 : decode cX2_addTo 230 = .ok (.aload_n 0, 1) := by decide +kernel
theorem dX2_addTo_231 : decode cX2_addTo 231 = .ok (.getfield 172, 3) := by decide +kernel
theorem dX2_addTo_234 : decode cX2_addTo 234 = .ok (.invokevirtual 346, 3) := by decide +kernel
theorem dX2_addTo_237 : decode cX2_addTo 237 = .ok (.return_, 1) := by decide +kernel
theorem dX2_build_0 : decode cX2_build 0 = .ok (.new 41, 3) := by decide +kernel
theorem dX2_build_3 : decode cX2_build 3 = .ok (.dup, 1) := by decide +kernel
theorem dX2_build_4 : decode cX2_build 4 = .ok (.aload_n 0, 1) := by decide +kernel
theorem dX2_build_5 : decode cX2_build 5 = .ok (.getfield 12, 3) := by decide +kernel
theorem dX2_build_8 : decode cX2_build 8 = .ok (.getfield 270, 3) := by decide +kernel
theorem dX2_build_11 : decode cX2_build 11 = .ok (.aload_n 0, 1) := by decide +kernel
theorem dX2_build_12 : decode cX2_build 12 = .ok (.getfield 12, 3) := by decide +kernel
theorem dX2_build_15 : decode cX2_build 15 = .ok (.getfield 274, 3) := by decide +kernel
theorem dX2_build_18 : decode cX2_build 18 = .ok (.invokestatic 277, 3) := by decide +kernel
theorem dX2_build_21 : decode cX2_build 21 = .ok (.aload_n 0, 1) := by decide +kernel
theorem dX2_build_22 : decode cX2_build 22 = .ok (.getfield 12, 3) := by decide +kernel

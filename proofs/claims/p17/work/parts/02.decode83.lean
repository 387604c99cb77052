theorem dX9_isJumpDecided_1 : decode cX9_isJumpDecided 1 = .ok (.iload_n 1, 1) := by decide +kernel
theorem dX9_isJumpDecided_2 : decode cX9_isJumpDecided 2 = .ok (.invokevirtual 207, 3) := by decide +kernel
theorem dX9_isJumpDecided_5 : decode cX9_isJumpDecided 5 = .ok (.iconst 1, 1) := by decide +kernel
theorem dX9_isJumpDecided_6 : decode cX9_isJumpDecided 6 = .ok (.if_icmp .eq 5, 3) := by decide +kernel
theorem dX9_isJumpDecided_9 : decode cX9_isJumpDecided 9 = .ok (.iconst 0, 1) := by decide +kernel
theorem dX9_isJumpDecided_10 : decode cX9_isJumpDecided 10 = .ok (.ireturn, 1) := by decide +kernel
theorem dX9_isJumpDecided_11 : decode cX9_isJumpDecided 11 = .ok (.aload_n 0, 1) := by decide +kernel
theorem dX9_isJumpDecided_12 : decode cX9_isJumpDecided 12 = .ok (.iload_n 1, 1) := by decide +kernel
theorem dX9_isJumpDecided_13 : decode cX9_isJumpDecided 13 = .ok (.iconst 1, 1) := by decide +kernel
theorem dX9_isJumpDecided_14 : decode cX9_isJumpDecided 14 = .ok (.iadd, 1) := by decide +kernel
theorem dX9_isJumpDecided_15 : decode cX9_isJumpDecided 15 = .ok (.invokevirtual 207, 3) := by decide +kernel
theorem dX9_isJumpDecided_18 : decode cX9_isJumpDecided 18 = .ok (.iconst 1, 1) := by decide +kernel
theorem dX9_isJumpDecided_19 : decode cX9_isJumpDecided 19 = .ok (.if_icmp .ne 7, 3) := by decide +kernel
theorem dX9_isJumpDecided_22 : decode cX9_isJumpDecided 22 = .ok (.iconst 3, 1) := by decide +kernel
theorem dX9_isJumpDecided_23 : decode cX9_isJumpDecided 23 = .ok (.goto 4, 3) := by decide +kernel
theorem dX9_isJumpDecided_26 : decode cX9_isJumpDecided 26 = .ok (.iconst 2, 1) := by decide +kernel
theorem dX9_isJumpDecided_27 : decode cX9_isJumpDecided 27 = .ok (.istore_n 2, 1) := by decide +kernel
theorem dX9_isJumpDecided_28 : decode cX9_isJumpDecided 28 = .ok (.aload_n 0, 1) := by decide +kernel
theorem dX9_isJumpDecided_29 : decode cX9_isJumpDecided 29 = .ok (.getfield 14, 3) := by decide +kernel
theorem dX9_isJumpDecided_32 : decode cX9_isJumpDecided 32 = .ok (.iload_n 1, 1) := by decide +kernel
theorem dX9_isJumpDecided_33 : decode cX9_isJumpDecided 33 = .ok (.iload_n 2, 1) := by decide +kernel
theorem dX9_isJumpDecided_34 : decode cX9_isJumpDecided 34 = .ok (.iadd, 1) := by decide +kernel
theorem dX9_isJumpDecided_35 : decode cX9_isJumpDecided 35 = .ok (.iconst 1, 1) := by decide +kernel
theorem dX9_isJumpDecided_36 : decode cX9_isJumpDecided 36 = .ok (.isub, 1) := by decide +kernel
theorem dX9_isJumpDecided_37 : decode cX9_isJumpDecided 37 = .ok (.invokevirtual 71, 3) := by decide +kernel
theorem dX9_isJumpDecided_40 : decode cX9_isJumpDecided 40 = .ok (.istore_n 3, 1) := by decide +kernel
theorem dX9_isJumpDecided_41 : decode cX9_isJumpDecided 41 = .ok (.iload_n 2, 1) := by decide +kernel
theorem dX9_isJumpDecided_42 : decode cX9_isJumpDecided 42 = .ok (.iconst 3, 1) := by decide +kernel
theorem dX9_isJumpDecided_43 : decode cX9_isJumpDecided 43 = .ok (.if_icmp .ne 9, 3) := by decide +kernel
theorem dX9_isJumpDecided_46 : decode cX9_isJumpDecided 46 = .ok (.sipush 159, 3) := by decide +kernel
theorem dX9_isJumpDecided_49 : decode cX9_isJumpDecided 49 = .ok (.goto 6, 3) := by decide +kernel
theorem dX9_isJumpDecided_52 : decode cX9_isJumpDecided 52 = .ok (.sipush 153, 3) := by decide +kernel
theorem dX9_isJumpDecided_55 : decode cX9_isJumpDecided 55 = .ok (.istore 4, 2) := by decide +kernel
theorem dX9_isJumpDecided_57 : decode cX9_isJumpDecided 57 = .ok (.iload_n 3, 1) := by decide +kernel
theorem dX9_isJumpDecided_58 : decode cX9_isJumpDecided 58 = .ok (.iload 4, 2) := by decide +kernel
theorem dX9_isJumpDecided_60 : decode cX9_isJumpDecided 60 = .ok (.if_icmp .lt 21, 3) := by decide +kernel
theorem dX9_isJumpDecided_63 : decode cX9_isJumpDecided 63 = .ok (.iload_n 3, 1) := by decide +kernel
theorem dX9_isJumpDecided_64 : decode cX9_isJumpDecided 64 = .ok (.iload 4, 2) := by decide +kernel
theorem dX9_isJumpDecided_66 : decode cX9_isJumpDecided 66 = .ok (.bipush 6, 2) := by decide +kernel
theorem dX9_isJumpDecided_68 : decode cX9_isJumpDecided 68 = .ok (.iadd, 1) := by decide +kernel
theorem dX9_isJumpDecided_69 : decode cX9_isJumpDecided 69 = .ok (.if_icmp .ge 12, 3) := by decide +kernel
theorem dX9_isJumpDecided_72 : decode cX9_isJumpDecided 72 = .ok (.aload_n 0, 1) := by decide +kernel
theorem dX9_isJumpDecided_73 : decode cX9_isJumpDecided 73 = .ok (.iload_n 1, 1) := by decide +kernel
theorem dX9_isJumpDecided_74 : decode cX9_isJumpDecided 74 = .ok (.iload_n 2, 1) := by decide +kernel
theorem dX9_isJumpDecided_75 : decode cX9_isJumpDecided 75 = .ok (.invokevirtual 161, 3) := by decide +kernel
theorem dX9_isJumpDecided_78 : decode cX9_isJumpDecided 78 = .ok (.ifCond .ne 5, 3) := by decide +kernel
theorem dX9_isJumpDecided_81 : decode cX9_isJumpDecided 81 = .ok (.iconst 0, 1) := by decide +kernel
theorem dX9_isJumpDecided_82 : decode cX9_isJumpDecided 82 = .ok (.ireturn, 1) := by decide +kernel
theorem dX9_isJumpDecided_83 : decode cX9_isJumpDecided 83 = .ok (.iload_n 3, 1) := by decide +kernel
theorem dX9_isJumpDecided_84 : decode cX9_isJumpDecided 84 = .ok (.aload_n 0, 1) := by decide +kernel
theorem dX9_isJumpDecided_85 : decode cX9_isJumpDecided 85 = .ok (.getfield 14, 3) := by decide +kernel
theorem dX9_isJumpDecided_88 : decode cX9_isJumpDecided 88 = .ok (.iload_n 1, 1) := by decide +kernel
theorem dX9_isJumpDecided_89 : decode cX9_isJumpDecided 89 = .ok (.invokevirtual 74, 3) := by decide +kernel
theorem dX9_isJumpDecided_92 : decode cX9_isJumpDecided 92 = .ok (.l2i, 1) := by decide +kernel
theorem dX9_isJumpDecided_93 : decode cX9_isJumpDecided 93 = .ok (.iload_n 2, 1) := by decide +kernel
theorem dX9_isJumpDecided_94 : decode cX9_isJumpDecided 94 = .ok (.iconst 3, 1) := by decide +kernel
theorem dX9_isJumpDecided_95 : decode cX9_isJumpDecided 95 = .ok (.if_icmp .ne 17, 3) := by decide +kernel
theorem dX9_isJumpDecided_98 : decode cX9_isJumpDecided 98 = .ok (.aload_n 0, 1) := by decide +kernel
theorem dX9_isJumpDecided_99 : decode cX9_isJumpDecided 99 = .ok (.getfield 14, 3) := by decide +kernel
theorem dX9_isJumpDecided_102 : decode cX9_isJumpDecided 102 = .ok (.iload_n 1, 1) := by decide +kernel
theorem dX9_isJumpDecided_103 : decode cX9_isJumpDecided 103 = .ok (.iconst 1, 1) := by decide +kernel
theorem dX9_isJumpDecided_104 : decode cX9_isJumpDecided 104 = .ok (.iadd, 1) := by decide +kernel
theorem dX9_isJumpDecided_105 : decode cX9_isJumpDecided 105 = .ok (.invokevirtual 74, 3) := by decide +kernel
theorem dX9_isJumpDecided_108 : decode cX9_isJumpDecided 108 = .ok (.l2i, 1) := by decide +kernel
theorem dX9_isJumpDecided_109 : decode cX9_isJumpDecided 109 = .ok (.goto 4, 3) := by decide +kernel
theorem dX9_isJumpDecided_112 : decode cX9_isJumpDecided 112 = .ok (.iconst 0, 1) := by decide +kernel
theorem dX9_isJumpDecided_113 : decode cX9_isJumpDecided 113 = .ok (.invokestatic 233, 3) := by decide +kernel
theorem dX9_isJumpDecided_116 : decode cX9_isJumpDecided 116 = .ok (.ifCond .eq 42, 3) := by decide +kernel
theorem dX9_isJumpDecided_119 : decode cX9_isJumpDecided 119 = .ok (.aload_n 0, 1) := by decide +kernel
theorem dX9_isJumpDecided_120 : decode cX9_isJumpDecided 120 = .ok (.getfield 14, 3) := by decide +kernel
theorem dX9_isJumpDecided_123 : decode cX9_isJumpDecided 123 = .ok (.iload_n 1, 1) := by decide +kernel
theorem dX9_isJumpDecided_124 : decode cX9_isJumpDecided 124 = .ok (.sipush 167, 3) := by decide +kernel
theorem dX9_isJumpDecided_127 : decode cX9_isJumpDecided 127 = .ok (.aload_n 0, 1) := by decide +kernel
theorem dX9_isJumpDecided_128 : decode cX9_isJumpDecided 128 = .ok (.getfield 14, 3) := by decide +kernel
theorem dX9_isJumpDecided_131 : decode cX9_isJumpDecided 131 = .ok (.iload_n 1, 1) := by decide +kernel
theorem dX9_isJumpDecided_132 : decode cX9_isJumpDecided 132 = .ok (.iload_n 2, 1) := by decide +kernel
theorem dX9_isJumpDecided_133 : decode cX9_isJumpDecided 133 = .ok (.iadd, 1) := by decide +kernel
theorem dX9_isJumpDecided_134 : decode cX9_isJumpDecided 134 = .ok (.iconst 1, 1) := by decide +kernel
theorem dX9_isJumpDecided_135 : decode cX9_isJumpDecided 135 = .ok (.isub, 1) := by decide +kernel
theorem dX9_isJumpDecided_136 : decode cX9_isJumpDecided 136 = .ok (.invokevirtual 74, 3) := by decide +kernel
theorem dX9_isJumpDecided_139 : decode cX9_isJumpDecided 139 = .ok (.invokevirtual 200, 3) := by decide +kernel
theorem dX9_isJumpDecided_142 : decode cX9_isJumpDecided 142 = .ok (.aload_n 0, 1) := by decide +kernel
theorem dX9_isJumpDecided_143 : decode cX9_isJumpDecided 143 = .ok (.getfield 14, 3) := by decide +kernel
theorem dX9_isJumpDecided_146 : decode cX9_isJumpDecided 146 = .ok (.iload_n 1, 1) := by decide +kernel
theorem dX9_isJumpDecided_147 : decode cX9_isJumpDecided 147 = .ok (.iconst 1, 1) := by decide +kernel
theorem dX9_isJumpDecided_148 : decode cX9_isJumpDecided 148 = .ok (.iadd, 1) := by decide +kernel
theorem dX9_isJumpDecided_149 : decode cX9_isJumpDecided 149 = .ok (.iload_n 2, 1) := by decide +kernel
theorem dX9_isJumpDecided_150 : decode cX9_isJumpDecided 150 = .ok (.iconst 1, 1) := by decide +kernel
theorem dX9_isJumpDecided_151 : decode cX9_isJumpDecided 151 = .ok (.isub, 1) := by decide +kernel
theorem dX9_isJumpDecided_152 : decode cX9_isJumpDecided 152 = .ok (.invokevirtual 176, 3) := by decide +kernel
theorem dX9_isJumpDecided_155 : decode cX9_isJumpDecided 155 = .ok (.goto 12, 3) := by decide +kernel
theorem dX9_isJumpDecided_158 : decode cX9_isJumpDecided 158 = .ok (.aload_n 0, 1) := by decide +kernel
theorem dX9_isJumpDecided_159 : decode cX9_isJumpDecided 159 = .ok (.getfield 14, 3) := by decide +kernel
theorem dX9_isJumpDecided_162 : decode cX9_isJumpDecided 162 = .ok (.iload_n 1, 1) := by decide +kernel
theorem dX9_isJumpDecided_163 : decode cX9_isJumpDecided 163 = .ok (.iload_n 2, 1) := by decide +kernel
theorem dX9_isJumpDecided_164 : decode cX9_isJumpDecided 164 = .ok (.invokevirtual 176, 3) := by decide +kernel
theorem dX9_isJumpDecided_167 : decode cX9_isJumpDecided 167 = .ok (.iconst 1, 1) := by decide +kernel
theorem dX9_isJumpDecided_168 : decode cX9_isJumpDecided 168 = .ok (.ireturn, 1) := by decide +kernel
theorem dX9_isNeutral_0 : decode cX9_isNeutral 0 = .ok (.aload_n 0, 1) := by decide +kernel
theorem dX9_isNeutral_1 : decode cX9_isNeutral 1 = .ok (.getfield 14, 3) := by decide +kernel
theorem dX9_isNeutral_4 : decode cX9_isNeutral 4 = .ok (.iload_n 1, 1) := by decide +kernel
theorem dX9_isNeutral_5 : decode cX9_isNeutral 5 = .ok (.iconst 1, 1) := by decide +kernel
theorem dX9_isNeutral_6 : decode cX9_isNeutral 6 = .ok (.iadd, 1) := by decide +kernel
theorem dX9_isNeutral_7 : decode cX9_isNeutral 7 = .ok (.invokevirtual 71, 3) := by decide +kernel
theorem dX9_isNeutral_10 : decode cX9_isNeutral 10 = .ok (.istore_n 2, 1) := by decide +kernel
theorem dX9_isNeutral_11 : decode cX9_isNeutral 11 = .ok (.aload_n 0, 1) := by decide +kernel
theorem dX9_isNeutral_12 : decode cX9_isNeutral 12 = .ok (.iload_n 1, 1) := by decide +kernel
theorem dX9_isNeutral_13 : decode cX9_isNeutral 13 = .ok (.invokevirtual 207, 3) := by decide +kernel
theorem dX9_isNeutral_16 : decode cX9_isNeutral 16 = .ok (.istore_n 3, 1) := by decide +kernel
theorem dX9_isNeutral_17 : decode cX9_isNeutral 17 = .ok (.iload_n 3, 1) := by decide +kernel
theorem dX9_isNeutral_18 : decode cX9_isNeutral 18 = .ok (.ifCond .eq 21, 3) := by decide +kernel
theorem dX9_isNeutral_21 : decode cX9_isNeutral 21 = .ok (.iload_n 2, 1) := by decide +kernel
theorem dX9_isNeutral_22 : decode cX9_isNeutral 22 = .ok (.invokestatic 204, 3) := by decide +kernel
theorem dX9_isNeutral_25 : decode cX9_isNeutral 25 = .ok (.ifCond .eq 14, 3) := by decide +kernel
theorem dX9_isNeutral_28 : decode cX9_isNeutral 28 = .ok (.iload_n 3, 1) := by decide +kernel
theorem dX9_isNeutral_29 : decode cX9_isNeutral 29 = .ok (.iload_n 2, 1) := by decide +kernel
theorem dX9_isNeutral_30 : decode cX9_isNeutral 30 = .ok (.invokestatic 210, 3) := by decide +kernel
theorem dX9_isNeutral_33 : decode cX9_isNeutral 33 = .ok (.bipush 15, 2) := by decide +kernel
theorem dX9_isNeutral_35 : decode cX9_isNeutral 35 = .ok (.iand, 1) := by decide +kernel
theorem dX9_isNeutral_36 : decode cX9_isNeutral 36 = .ok (.if_icmp .eq 5, 3) := by decide +kernel
theorem dX9_isNeutral_39 : decode cX9_isNeutral 39 = .ok (.iconst 0, 1) := by decide +kernel
theorem dX9_isNeutral_40 : decode cX9_isNeutral 40 = .ok (.ireturn, 1) := by decide +kernel
theorem dX9_isNeutral_41 : decode cX9_isNeutral 41 = .ok (.iload_n 2, 1) := by decide +kernel
theorem dX9_isNeutral_42 : decode cX9_isNeutral 42 = .ok (.tableswitch 217 96 131 #[158, 158, 217, 217, 158, 158, 217, 217, 177, 177, 217, 217, 177, 177, 217, 217, 217, 217, 217, 217, 217, 217, 217, 217, 217, 217, 217, 217, 217, 217, 196, 196, 158, 158, 158, 158], 158) := by decide +kernel
theorem dX9_isNeutral_200 : decode cX9_isNeutral 200 = .ok (.aload_n 0, 1) := by decide +kernel
theorem dX9_isNeutral_201 : decode cX9_isNeutral 201 = .ok (.getfield 14, 3) := by decide +kernel
theorem dX9_isNeutral_204 : decode cX9_isNeutral 204 = .ok (.iload_n 1, 1) := by decide +kernel
theorem dX9_isNeutral_205 : decode cX9_isNeutral 205 = .ok (.invokevirtual 74, 3) := by decide +kernel
theorem dX9_isNeutral_208 : decode cX9_isNeutral 208 = .ok (.lconst 0, 1) := by decide +kernel
theorem dX9_isNeutral_209 : decode cX9_isNeutral 209 = .ok (.lcmp, 1) := by decide +kernel
theorem dX9_isNeutral_210 : decode cX9_isNeutral 210 = .ok (.ifCond .ne 7, 3) := by decide +kernel
theorem dX9_isNeutral_213 : decode cX9_isNeutral 213 = .ok (.iconst 1, 1) := by decide +kernel
theorem dX9_isNeutral_214 : decode cX9_isNeutral 214 = .ok (.goto 4, 3) := by decide +kernel
theorem dX9_isNeutral_217 : decode cX9_isNeutral 217 = .ok (.iconst 0, 1) := by decide +kernel
theorem dX9_isNeutral_218 : decode cX9_isNeutral 218 = .ok (.ireturn, 1) := by decide +kernel
theorem dX9_isNeutral_219 : decode cX9_isNeutral 219 = .ok (.aload_n 0, 1) := by decide +kernel
theorem dX9_isNeutral_220 : decode cX9_isNeutral 220 = .ok (.getfield 14, 3) := by decide +kernel
theorem dX9_isNeutral_223 : decode cX9_isNeutral 223 = .ok (.iload_n 1, 1) := by decide +kernel
theorem dX9_isNeutral_224 : decode cX9_isNeutral 224 = .ok (.invokevirtual 74, 3) := by decide +kernel
theorem dX9_isNeutral_227 : decode cX9_isNeutral 227 = .ok (.lconst 1, 1) := by decide +kernel
theorem dX9_isNeutral_228 : decode cX9_isNeutral 228 = .ok (.lcmp, 1) := by decide +kernel
theorem dX9_isNeutral_229 : decode cX9_isNeutral 229 = .ok (.ifCond .ne 7, 3) := by decide +kernel
theorem dX9_isNeutral_232 : decode cX9_isNeutral 232 = .ok (.iconst 1, 1) := by decide +kernel
theorem dX9_isNeutral_233 : decode cX9_isNeutral 233 = .ok (.goto 4, 3) := by decide +kernel
theorem dX9_isNeutral_236 : decode cX9_isNeutral 236 = .ok (.iconst 0, 1) := by decide +kernel
theorem dX9_isNeutral_237 : decode cX9_isNeutral 237 = .ok (.ireturn, 1) := by decide +kernel
theorem dX9_isNeutral_238 : decode cX9_isNeutral 238 = .ok (.aload_n 0, 1) := by decide +kernel
theorem dX9_isNeutral_239 : decode cX9_isNeutral 239 = .ok (.getfield 14, 3) := by decide +kernel
theorem dX9_isNeutral_242 : decode cX9_isNeutral 242 = .ok (.iload_n 1, 1) := by decide +kernel
theorem dX9_isNeutral_243 : decode cX9_isNeutral 243 = .ok (.invokevirtual 74, 3) := by decide +kernel

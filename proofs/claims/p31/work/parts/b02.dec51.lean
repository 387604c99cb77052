theorem dX14_narrowed_63 : decode cX14_narrowed 63 = .ok (.iload_n 3, 1) := by decide +kernel
theorem dX14_narrowed_64 : decode cX14_narrowed 64 = .ok (.ifCond .ne 20, 3) := by decide +kernel
theorem dX14_narrowed_67 : decode cX14_narrowed 67 = .ok (.iload 6, 2) := by decide +kernel
theorem dX14_narrowed_69 : decode cX14_narrowed 69 = .ok (.aload_n 0, 1) := by decide +kernel
theorem dX14_narrowed_70 : decode cX14_narrowed 70 = .ok (.getfield 204, 3) := by decide +kernel
theorem dX14_narrowed_73 : decode cX14_narrowed 73 = .ok (.bipush 38, 2) := by decide +kernel
theorem dX14_narrowed_75 : decode cX14_narrowed 75 = .ok (.iload_n 2, 1) := by decide +kernel
theorem dX14_narrowed_76 : decode cX14_narrowed 76 = .ok (.imul, 1) := by decide +kernel
theorem dX14_narrowed_77 : decode cX14_narrowed 77 = .ok (.iload 4, 2) := by decide +kernel
theorem dX14_narrowed_79 : decode cX14_narrowed 79 = .ok (.iadd, 1) := by decide +kernel
theorem dX14_narrowed_80 : decode cX14_narrowed 80 = .ok (.iaload, 1) := by decide +kernel
theorem dX14_narrowed_81 : decode cX14_narrowed 81 = .ok (.if_icmp .eq 7, 3) := by decide +kernel
theorem dX14_narrowed_84 : decode cX14_narrowed 84 = .ok (.iconst 1, 1) := by decide +kernel
theorem dX14_narrowed_85 : decode cX14_narrowed 85 = .ok (.goto 4, 3) := by decide +kernel
theorem dX14_narrowed_88 : decode cX14_narrowed 88 = .ok (.iconst 0, 1) := by decide +kernel
theorem dX14_narrowed_89 : decode cX14_narrowed 89 = .ok (.istore_n 3, 1) := by decide +kernel
theorem dX14_narrowed_90 : decode cX14_narrowed 90 = .ok (.aload_n 0, 1) := by decide +kernel
theorem dX14_narrowed_91 : decode cX14_narrowed 91 = .ok (.getfield 204, 3) := by decide +kernel
theorem dX14_narrowed_94 : decode cX14_narrowed 94 = .ok (.bipush 38, 2) := by decide +kernel
theorem dX14_narrowed_96 : decode cX14_narrowed 96 = .ok (.iload_n 2, 1) := by decide +kernel
theorem dX14_narrowed_97 : decode cX14_narrowed 97 = .ok (.imul, 1) := by decide +kernel
theorem dX14_narrowed_98 : decode cX14_narrowed 98 = .ok (.iload 4, 2) := by decide +kernel
theorem dX14_narrowed_100 : decode cX14_narrowed 100 = .ok (.iadd, 1) := by decide +kernel
theorem dX14_narrowed_101 : decode cX14_narrowed 101 = .ok (.iload 6, 2) := by decide +kernel
theorem dX14_narrowed_103 : decode cX14_narrowed 103 = .ok (.iastore, 1) := by decide +kernel
theorem dX14_narrowed_104 : decode cX14_narrowed 104 = .ok (.iinc 4 1, 3) := by decide +kernel
theorem dX14_narrowed_107 : decode cX14_narrowed 107 = .ok (.goto (-102), 3) := by decide +kernel
theorem dX14_narrowed_110 : decode cX14_narrowed 110 = .ok (.iload_n 3, 1) := by decide +kernel
theorem dX14_narrowed_111 : decode cX14_narrowed 111 = .ok (.ireturn, 1) := by decide +kernel
theorem dX14_nearestOf_0 : decode cX14_nearestOf 0 = .ok (.iconst (-1), 1) := by decide +kernel
theorem dX14_nearestOf_1 : decode cX14_nearestOf 1 = .ok (.istore_n 2, 1) := by decide +kernel
theorem dX14_nearestOf_2 : decode cX14_nearestOf 2 = .ok (.iconst 0, 1) := by decide +kernel
theorem dX14_nearestOf_3 : decode cX14_nearestOf 3 = .ok (.istore_n 3, 1) := by decide +kernel
theorem dX14_nearestOf_4 : decode cX14_nearestOf 4 = .ok (.iconst 0, 1) := by decide +kernel
theorem dX14_nearestOf_5 : decode cX14_nearestOf 5 = .ok (.istore 4, 2) := by decide +kernel
theorem dX14_nearestOf_7 : decode cX14_nearestOf 7 = .ok (.iload 4, 2) := by decide +kernel
theorem dX14_nearestOf_9 : decode cX14_nearestOf 9 = .ok (.aload_n 0, 1) := by decide +kernel
theorem dX14_nearestOf_10 : decode cX14_nearestOf 10 = .ok (.getfield 1088, 3) := by decide +kernel
theorem dX14_nearestOf_13 : decode cX14_nearestOf 13 = .ok (.if_icmp .ge 54, 3) := by decide +kernel
theorem dX14_nearestOf_16 : decode cX14_nearestOf 16 = .ok (.iload 4, 2) := by decide +kernel
theorem dX14_nearestOf_18 : decode cX14_nearestOf 18 = .ok (.iload_n 1, 1) := by decide +kernel
theorem dX14_nearestOf_19 : decode cX14_nearestOf 19 = .ok (.if_icmp .eq 42, 3) := by decide +kernel
theorem dX14_nearestOf_22 : decode cX14_nearestOf 22 = .ok (.aload_n 0, 1) := by decide +kernel
theorem dX14_nearestOf_23 : decode cX14_nearestOf 23 = .ok (.iload 4, 2) := by decide +kernel
theorem dX14_nearestOf_25 : decode cX14_nearestOf 25 = .ok (.iload_n 1, 1) := by decide +kernel
theorem dX14_nearestOf_26 : decode cX14_nearestOf 26 = .ok (.invokevirtual 1106, 3) := by decide +kernel
theorem dX14_nearestOf_29 : decode cX14_nearestOf 29 = .ok (.ifCond .ne 6, 3) := by decide +kernel
theorem dX14_nearestOf_32 : decode cX14_nearestOf 32 = .ok (.goto 29, 3) := by decide +kernel
theorem dX14_nearestOf_35 : decode cX14_nearestOf 35 = .ok (.aload_n 0, 1) := by decide +kernel
theorem dX14_nearestOf_36 : decode cX14_nearestOf 36 = .ok (.getfield 219, 3) := by decide +kernel
theorem dX14_nearestOf_39 : decode cX14_nearestOf 39 = .ok (.iload 4, 2) := by decide +kernel
theorem dX14_nearestOf_41 : decode cX14_nearestOf 41 = .ok (.iaload, 1) := by decide +kernel
theorem dX14_nearestOf_42 : decode cX14_nearestOf 42 = .ok (.iload_n 3, 1) := by decide +kernel
theorem dX14_nearestOf_43 : decode cX14_nearestOf 43 = .ok (.if_icmp .le 6, 3) := by decide +kernel
theorem dX14_nearestOf_46 : decode cX14_nearestOf 46 = .ok (.iload 4, 2) := by decide +kernel
theorem dX14_nearestOf_48 : decode cX14_nearestOf 48 = .ok (.istore_n 2, 1) := by decide +kernel
theorem dX14_nearestOf_49 : decode cX14_nearestOf 49 = .ok (.iload_n 3, 1) := by decide +kernel
theorem dX14_nearestOf_50 : decode cX14_nearestOf 50 = .ok (.aload_n 0, 1) := by decide +kernel
theorem dX14_nearestOf_51 : decode cX14_nearestOf 51 = .ok (.getfield 219, 3) := by decide +kernel
theorem dX14_nearestOf_54 : decode cX14_nearestOf 54 = .ok (.iload 4, 2) := by decide +kernel
theorem dX14_nearestOf_56 : decode cX14_nearestOf 56 = .ok (.iaload, 1) := by decide +kernel
theorem dX14_nearestOf_57 : decode cX14_nearestOf 57 = .ok (.invokestatic 926, 3) := by decide +kernel
theorem dX14_nearestOf_60 : decode cX14_nearestOf 60 = .ok (.istore_n 3, 1) := by decide +kernel
theorem dX14_nearestOf_61 : decode cX14_nearestOf 61 = .ok (.iinc 4 1, 3) := by decide +kernel
theorem dX14_nearestOf_64 : decode cX14_nearestOf 64 = .ok (.goto (-57), 3) := by decide +kernel
theorem dX14_nearestOf_67 : decode cX14_nearestOf 67 = .ok (.iload_n 2, 1) := by decide +kernel
theorem dX14_nearestOf_68 : decode cX14_nearestOf 68 = .ok (.ireturn, 1) := by decide +kernel
theorem dX14_need_0 : decode cX14_need 0 = .ok (.aload_n 0, 1) := by decide +kernel
theorem dX14_need_1 : decode cX14_need 1 = .ok (.aload_n 0, 1) := by decide +kernel
theorem dX14_need_2 : decode cX14_need 2 = .ok (.getfield 783, 3) := by decide +kernel
theorem dX14_need_5 : decode cX14_need 5 = .ok (.ifCond .eq 11, 3) := by decide +kernel
theorem dX14_need_8 : decode cX14_need 8 = .ok (.iload_n 1, 1) := by decide +kernel
theorem dX14_need_9 : decode cX14_need 9 = .ok (.ifCond .eq 7, 3) := by decide +kernel
theorem dX14_need_12 : decode cX14_need 12 = .ok (.iconst 1, 1) := by decide +kernel
theorem dX14_need_13 : decode cX14_need 13 = .ok (.goto 4, 3) := by decide +kernel
theorem dX14_need_16 : decode cX14_need 16 = .ok (.iconst 0, 1) := by decide +kernel
theorem dX14_need_17 : decode cX14_need 17 = .ok (.putfield 783, 3) := by decide +kernel
theorem dX14_need_20 : decode cX14_need 20 = .ok (.return_, 1) := by decide +kernel
theorem dX14_needConstant_0 : decode cX14_needConstant 0 = .ok (.iconst 0, 1) := by decide +kernel
theorem dX14_needConstant_1 : decode cX14_needConstant 1 = .ok (.istore 7, 2) := by decide +kernel
theorem dX14_needConstant_3 : decode cX14_needConstant 3 = .ok (.iload 7, 2) := by decide +kernel
theorem dX14_needConstant_5 : decode cX14_needConstant 5 = .ok (.aload_n 0, 1) := by decide +kernel
theorem dX14_needConstant_6 : decode cX14_needConstant 6 = .ok (.getfield 867, 3) := by decide +kernel
theorem dX14_needConstant_9 : decode cX14_needConstant 9 = .ok (.if_icmp .ge 95, 3) := by decide +kernel
theorem dX14_needConstant_12 : decode cX14_needConstant 12 = .ok (.aload_n 0, 1) := by decide +kernel
theorem dX14_needConstant_13 : decode cX14_needConstant 13 = .ok (.getfield 115, 3) := by decide +kernel
theorem dX14_needConstant_16 : decode cX14_needConstant 16 = .ok (.iload 7, 2) := by decide +kernel
theorem dX14_needConstant_18 : decode cX14_needConstant 18 = .ok (.iaload, 1) := by decide +kernel
theorem dX14_needConstant_19 : decode cX14_needConstant 19 = .ok (.iload_n 1, 1) := by decide +kernel
theorem dX14_needConstant_20 : decode cX14_needConstant 20 = .ok (.if_icmp .ne 42, 3) := by decide +kernel
theorem dX14_needConstant_23 : decode cX14_needConstant 23 = .ok (.aload_n 0, 1) := by decide +kernel
theorem dX14_needConstant_24 : decode cX14_needConstant 24 = .ok (.getfield 121, 3) := by decide +kernel
theorem dX14_needConstant_27 : decode cX14_needConstant 27 = .ok (.iload 7, 2) := by decide +kernel
theorem dX14_needConstant_29 : decode cX14_needConstant 29 = .ok (.iaload, 1) := by decide +kernel
theorem dX14_needConstant_30 : decode cX14_needConstant 30 = .ok (.iload_n 2, 1) := by decide +kernel
theorem dX14_needConstant_31 : decode cX14_needConstant 31 = .ok (.if_icmp .ne 31, 3) := by decide +kernel
theorem dX14_needConstant_34 : decode cX14_needConstant 34 = .ok (.aload_n 0, 1) := by decide +kernel
theorem dX14_needConstant_35 : decode cX14_needConstant 35 = .ok (.getfield 124, 3) := by decide +kernel
theorem dX14_needConstant_38 : decode cX14_needConstant 38 = .ok (.iload 7, 2) := by decide +kernel
theorem dX14_needConstant_40 : decode cX14_needConstant 40 = .ok (.iaload, 1) := by decide +kernel
theorem dX14_needConstant_41 : decode cX14_needConstant 41 = .ok (.iload_n 3, 1) := by decide +kernel
theorem dX14_needConstant_42 : decode cX14_needConstant 42 = .ok (.if_icmp .ne 20, 3) := by decide +kernel
theorem dX14_needConstant_45 : decode cX14_needConstant 45 = .ok (.aload_n 0, 1) := by decide +kernel
theorem dX14_needConstant_46 : decode cX14_needConstant 46 = .ok (.getfield 127, 3) := by decide +kernel
theorem dX14_needConstant_49 : decode cX14_needConstant 49 = .ok (.iload 7, 2) := by decide +kernel
theorem dX14_needConstant_51 : decode cX14_needConstant 51 = .ok (.laload, 1) := by decide +kernel
theorem dX14_needConstant_52 : decode cX14_needConstant 52 = .ok (.lload 4, 2) := by decide +kernel
theorem dX14_needConstant_54 : decode cX14_needConstant 54 = .ok (.lcmp, 1) := by decide +kernel
theorem dX14_needConstant_55 : decode cX14_needConstant 55 = .ok (.ifCond .ne 7, 3) := by decide +kernel
theorem dX14_needConstant_58 : decode cX14_needConstant 58 = .ok (.iconst 1, 1) := by decide +kernel
theorem dX14_needConstant_59 : decode cX14_needConstant 59 = .ok (.goto 4, 3) := by decide +kernel
theorem dX14_needConstant_62 : decode cX14_needConstant 62 = .ok (.iconst 0, 1) := by decide +kernel
theorem dX14_needConstant_63 : decode cX14_needConstant 63 = .ok (.istore 8, 2) := by decide +kernel
theorem dX14_needConstant_65 : decode cX14_needConstant 65 = .ok (.iload 8, 2) := by decide +kernel
theorem dX14_needConstant_67 : decode cX14_needConstant 67 = .ok (.ifCond .eq 31, 3) := by decide +kernel
theorem dX14_needConstant_70 : decode cX14_needConstant 70 = .ok (.iload_n 1, 1) := by decide +kernel
theorem dX14_needConstant_71 : decode cX14_needConstant 71 = .ok (.iconst 1, 1) := by decide +kernel
theorem dX14_needConstant_72 : decode cX14_needConstant 72 = .ok (.if_icmp .ne 18, 3) := by decide +kernel
theorem dX14_needConstant_75 : decode cX14_needConstant 75 = .ok (.aload_n 0, 1) := by decide +kernel
theorem dX14_needConstant_76 : decode cX14_needConstant 76 = .ok (.getfield 132, 3) := by decide +kernel
theorem dX14_needConstant_79 : decode cX14_needConstant 79 = .ok (.iload 7, 2) := by decide +kernel
theorem dX14_needConstant_81 : decode cX14_needConstant 81 = .ok (.aaload, 1) := by decide +kernel
theorem dX14_needConstant_82 : decode cX14_needConstant 82 = .ok (.aload 6, 2) := by decide +kernel
theorem dX14_needConstant_84 : decode cX14_needConstant 84 = .ok (.invokevirtual 799, 3) := by decide +kernel
theorem dX14_needConstant_87 : decode cX14_needConstant 87 = .ok (.ifCond .eq 11, 3) := by decide +kernel
theorem dX14_needConstant_90 : decode cX14_needConstant 90 = .ok (.aload_n 0, 1) := by decide +kernel
theorem dX14_needConstant_91 : decode cX14_needConstant 91 = .ok (.getfield 118, 3) := by decide +kernel
theorem dX14_needConstant_94 : decode cX14_needConstant 94 = .ok (.iload 7, 2) := by decide +kernel
theorem dX14_needConstant_96 : decode cX14_needConstant 96 = .ok (.iaload, 1) := by decide +kernel
theorem dX14_needConstant_97 : decode cX14_needConstant 97 = .ok (.ireturn, 1) := by decide +kernel
theorem dX14_needConstant_98 : decode cX14_needConstant 98 = .ok (.iinc 7 1, 3) := by decide +kernel
theorem dX14_needConstant_101 : decode cX14_needConstant 101 = .ok (.goto (-98), 3) := by decide +kernel
theorem dX14_needConstant_104 : decode cX14_needConstant 104 = .ok (.aload_n 0, 1) := by decide +kernel
theorem dX14_needConstant_105 : decode cX14_needConstant 105 = .ok (.getfield 867, 3) := by decide +kernel
theorem dX14_needConstant_108 : decode cX14_needConstant 108 = .ok (.sipush 700, 3) := by decide +kernel
theorem dX14_needConstant_111 : decode cX14_needConstant 111 = .ok (.if_icmp .ne 11, 3) := by decide +kernel
theorem dX14_needConstant_114 : decode cX14_needConstant 114 = .ok (.aload_n 0, 1) := by decide +kernel
theorem dX14_needConstant_115 : decode cX14_needConstant 115 = .ok (.iconst 5, 1) := by decide +kernel
theorem dX14_needConstant_116 : decode cX14_needConstant 116 = .ok (.bipush 8, 2) := by decide +kernel
theorem dX14_needConstant_118 : decode cX14_needConstant 118 = .ok (.invokevirtual 302, 3) := by decide +kernel
theorem dX14_needConstant_121 : decode cX14_needConstant 121 = .ok (.athrow, 1) := by decide +kernel
theorem dX14_needConstant_122 : decode cX14_needConstant 122 = .ok (.aload_n 0, 1) := by decide +kernel
theorem dX14_needConstant_123 : decode cX14_needConstant 123 = .ok (.getfield 115, 3) := by decide +kernel
theorem dX14_needConstant_126 : decode cX14_needConstant 126 = .ok (.aload_n 0, 1) := by decide +kernel
theorem dX14_needConstant_127 : decode cX14_needConstant 127 = .ok (.getfield 867, 3) := by decide +kernel
theorem dX14_needConstant_130 : decode cX14_needConstant 130 = .ok (.iload_n 1, 1) := by decide +kernel
theorem dX14_needConstant_131 : decode cX14_needConstant 131 = .ok (.iastore, 1) := by decide +kernel
theorem dX14_needConstant_132 : decode cX14_needConstant 132 = .ok (.aload_n 0, 1) := by decide +kernel
theorem dX14_needConstant_133 : decode cX14_needConstant 133 = .ok (.getfield 121, 3) := by decide +kernel
theorem dX14_needConstant_136 : decode cX14_needConstant 136 = .ok (.aload_n 0, 1) := by decide +kernel
theorem dX14_needConstant_137 : decode cX14_needConstant 137 = .ok (.getfield 867, 3) := by decide +kernel
theorem dX14_needConstant_140 : decode cX14_needConstant 140 = .ok (.iload_n 2, 1) := by decide +kernel
theorem dX14_needConstant_141 : decode cX14_needConstant 141 = .ok (.iastore, 1) := by decide +kernel
theorem dX14_needConstant_142 : decode cX14_needConstant 142 = .ok (.aload_n 0, 1) := by decide +kernel
theorem dX14_needConstant_143 : decode cX14_needConstant 143 = .ok (.getfield 124, 3) := by decide +kernel
theorem dX14_needConstant_146 : decode cX14_needConstant 146 = .ok (.aload_n 0, 1) := by decide +kernel
theorem dX14_needConstant_147 : decode cX14_needConstant 147 = .ok (.getfield 867, 3) := by decide +kernel
theorem dX14_needConstant_150 : decode cX14_needConstant 150 = .ok (.iload_n 3, 1) := by decide +kernel
theorem dX14_needConstant_151 : decode cX14_needConstant 151 = .ok (.iastore, 1) := by decide +kernel
theorem dX14_needConstant_152 : decode cX14_needConstant 152 = .ok (.aload_n 0, 1) := by decide +kernel
theorem dX14_needConstant_153 : decode cX14_needConstant 153 = .ok (.getfield 127, 3) := by decide +kernel
theorem dX14_needConstant_156 : decode cX14_needConstant 156 = .ok (.aload_n 0, 1) := by decide +kernel
theorem dX14_needConstant_157 : decode cX14_needConstant 157 = .ok (.getfield 867, 3) := by decide +kernel
theorem dX14_needConstant_160 : decode cX14_needConstant 160 = .ok (.lload 4, 2) := by decide +kernel
theorem dX14_needConstant_162 : decode cX14_needConstant 162 = .ok (.lastore, 1) := by decide +kernel
theorem dX14_needConstant_163 : decode cX14_needConstant 163 = .ok (.aload_n 0, 1) := by decide +kernel
theorem dX14_needConstant_164 : decode cX14_needConstant 164 = .ok (.getfield 132, 3) := by decide +kernel
theorem dX14_needConstant_167 : decode cX14_needConstant 167 = .ok (.aload_n 0, 1) := by decide +kernel
theorem dX14_needConstant_168 : decode cX14_needConstant 168 = .ok (.getfield 867, 3) := by decide +kernel
theorem dX14_needConstant_171 : decode cX14_needConstant 171 = .ok (.aload 6, 2) := by decide +kernel
theorem dX14_needConstant_173 : decode cX14_needConstant 173 = .ok (.aastore, 1) := by decide +kernel
theorem dX14_needConstant_174 : decode cX14_needConstant 174 = .ok (.aload_n 0, 1) := by decide +kernel
theorem dX14_needConstant_175 : decode cX14_needConstant 175 = .ok (.getfield 118, 3) := by decide +kernel
theorem dX14_needConstant_178 : decode cX14_needConstant 178 = .ok (.aload_n 0, 1) := by decide +kernel
theorem dX14_needConstant_179 : decode cX14_needConstant 179 = .ok (.getfield 867, 3) := by decide +kernel
theorem dX14_needConstant_182 : decode cX14_needConstant 182 = .ok (.aload_n 0, 1) := by decide +kernel
theorem dX14_needConstant_183 : decode cX14_needConstant 183 = .ok (.getfield 870, 3) := by decide +kernel
theorem dX14_needConstant_186 : decode cX14_needConstant 186 = .ok (.iastore, 1) := by decide +kernel
theorem dX14_needConstant_187 : decode cX14_needConstant 187 = .ok (.aload_n 0, 1) := by decide +kernel
theorem dX14_needConstant_188 : decode cX14_needConstant 188 = .ok (.dup, 1) := by decide +kernel
theorem dX14_needConstant_189 : decode cX14_needConstant 189 = .ok (.getfield 867, 3) := by decide +kernel
theorem dX14_needConstant_192 : decode cX14_needConstant 192 = .ok (.iconst 1, 1) := by decide +kernel
theorem dX14_needConstant_193 : decode cX14_needConstant 193 = .ok (.iadd, 1) := by decide +kernel
theorem dX14_needConstant_194 : decode cX14_needConstant 194 = .ok (.putfield 867, 3) := by decide +kernel
theorem dX14_needConstant_197 : decode cX14_needConstant 197 = .ok (.aload_n 0, 1) := by decide +kernel
theorem dX14_needConstant_198 : decode cX14_needConstant 198 = .ok (.dup, 1) := by decide +kernel
theorem dX14_needConstant_199 : decode cX14_needConstant 199 = .ok (.getfield 870, 3) := by decide +kernel
theorem dX14_needConstant_202 : decode cX14_needConstant 202 = .ok (.iload_n 1, 1) := by decide +kernel
theorem dX14_needConstant_203 : decode cX14_needConstant 203 = .ok (.iconst 5, 1) := by decide +kernel
theorem dX14_needConstant_204 : decode cX14_needConstant 204 = .ok (.if_icmp .ne 7, 3) := by decide +kernel
theorem dX14_needConstant_207 : decode cX14_needConstant 207 = .ok (.iconst 2, 1) := by decide +kernel
theorem dX14_needConstant_208 : decode cX14_needConstant 208 = .ok (.goto 4, 3) := by decide +kernel
theorem dX14_needConstant_211 : decode cX14_needConstant 211 = .ok (.iconst 1, 1) := by decide +kernel
theorem dX14_needConstant_212 : decode cX14_needConstant 212 = .ok (.iadd, 1) := by decide +kernel
theorem dX14_needConstant_213 : decode cX14_needConstant 213 = .ok (.putfield 870, 3) := by decide +kernel
theorem dX14_needConstant_216 : decode cX14_needConstant 216 = .ok (.aload_n 0, 1) := by decide +kernel
theorem dX14_needConstant_217 : decode cX14_needConstant 217 = .ok (.getfield 870, 3) := by decide +kernel
theorem dX14_needConstant_220 : decode cX14_needConstant 220 = .ok (.iload_n 1, 1) := by decide +kernel
theorem dX14_needConstant_221 : decode cX14_needConstant 221 = .ok (.iconst 5, 1) := by decide +kernel
theorem dX14_needConstant_222 : decode cX14_needConstant 222 = .ok (.if_icmp .ne 7, 3) := by decide +kernel
theorem dX14_needConstant_225 : decode cX14_needConstant 225 = .ok (.iconst 2, 1) := by decide +kernel
theorem dX14_needConstant_226 : decode cX14_needConstant 226 = .ok (.goto 4, 3) := by decide +kernel
theorem dX14_needConstant_229 : decode cX14_needConstant 229 = .ok (.iconst 1, 1) := by decide +kernel
theorem dX14_needConstant_230 : decode cX14_needConstant 230 = .ok (.isub, 1) := by decide +kernel
theorem dX14_needConstant_231 : decode cX14_needConstant 231 = .ok (.ireturn, 1) := by decide +kernel
theorem dX14_needOf_0 : decode cX14_needOf 0 = .ok (.aload_n 0, 1) := by decide +kernel
theorem dX14_needOf_1 : decode cX14_needOf 1 = .ok (.iload_n 1, 1) := by decide +kernel
theorem dX14_needOf_2 : decode cX14_needOf 2 = .ok (.invokevirtual 685, 3) := by decide +kernel
theorem dX14_needOf_5 : decode cX14_needOf 5 = .ok (.lookupswitch 189 #[(18, 51), (20, 83), (178, 123), (179, 123), (184, 156)], 51) := by decide +kernel
theorem dX14_needOf_56 : decode cX14_needOf 56 = .ok (.aload_n 0, 1) := by decide +kernel
theorem dX14_needOf_57 : decode cX14_needOf 57 = .ok (.iload_n 1, 1) := by decide +kernel
theorem dX14_needOf_58 : decode cX14_needOf 58 = .ok (.invokevirtual 697, 3) := by decide +kernel
theorem dX14_needOf_61 : decode cX14_needOf 61 = .ok (.invokestatic 883, 3) := by decide +kernel
theorem dX14_needOf_64 : decode cX14_needOf 64 = .ok (.ifCond .eq 7, 3) := by decide +kernel
theorem dX14_needOf_67 : decode cX14_needOf 67 = .ok (.iconst 0, 1) := by decide +kernel
theorem dX14_needOf_68 : decode cX14_needOf 68 = .ok (.goto 19, 3) := by decide +kernel
theorem dX14_needOf_71 : decode cX14_needOf 71 = .ok (.aload_n 0, 1) := by decide +kernel
theorem dX14_needOf_72 : decode cX14_needOf 72 = .ok (.iconst 3, 1) := by decide +kernel
theorem dX14_needOf_73 : decode cX14_needOf 73 = .ok (.iconst 0, 1) := by decide +kernel
theorem dX14_needOf_74 : decode cX14_needOf 74 = .ok (.iconst 0, 1) := by decide +kernel
theorem dX14_needOf_75 : decode cX14_needOf 75 = .ok (.aload_n 0, 1) := by decide +kernel
theorem dX14_needOf_76 : decode cX14_needOf 76 = .ok (.iload_n 1, 1) := by decide +kernel
theorem dX14_needOf_77 : decode cX14_needOf 77 = .ok (.invokevirtual 697, 3) := by decide +kernel
theorem dX14_needOf_80 : decode cX14_needOf 80 = .ok (.i2l, 1) := by decide +kernel
theorem dX14_needOf_81 : decode cX14_needOf 81 = .ok (.ldc_w 721, 3) := by decide +kernel
theorem dX14_needOf_84 : decode cX14_needOf 84 = .ok (.invokevirtual 873, 3) := by decide +kernel
theorem dX14_needOf_87 : decode cX14_needOf 87 = .ok (.ireturn, 1) := by decide +kernel
theorem dX14_needOf_88 : decode cX14_needOf 88 = .ok (.aload_n 0, 1) := by decide +kernel
theorem dX14_needOf_89 : decode cX14_needOf 89 = .ok (.iload_n 1, 1) := by decide +kernel
theorem dX14_needOf_90 : decode cX14_needOf 90 = .ok (.invokevirtual 886, 3) := by decide +kernel
theorem dX14_needOf_93 : decode cX14_needOf 93 = .ok (.lconst 0, 1) := by decide +kernel
theorem dX14_needOf_94 : decode cX14_needOf 94 = .ok (.lcmp, 1) := by decide +kernel
theorem dX14_needOf_95 : decode cX14_needOf 95 = .ok (.ifCond .eq 13, 3) := by decide +kernel
theorem dX14_needOf_98 : decode cX14_needOf 98 = .ok (.aload_n 0, 1) := by decide +kernel
theorem dX14_needOf_99 : decode cX14_needOf 99 = .ok (.iload_n 1, 1) := by decide +kernel
theorem dX14_needOf_100 : decode cX14_needOf 100 = .ok (.invokevirtual 886, 3) := by decide +kernel
theorem dX14_needOf_103 : decode cX14_needOf 103 = .ok (.lconst 1, 1) := by decide +kernel
theorem dX14_needOf_104 : decode cX14_needOf 104 = .ok (.lcmp, 1) := by decide +kernel
theorem dX14_needOf_105 : decode cX14_needOf 105 = .ok (.ifCond .ne 7, 3) := by decide +kernel
theorem dX14_needOf_108 : decode cX14_needOf 108 = .ok (.iconst 0, 1) := by decide +kernel
theorem dX14_needOf_109 : decode cX14_needOf 109 = .ok (.goto 18, 3) := by decide +kernel
theorem dX14_needOf_112 : decode cX14_needOf 112 = .ok (.aload_n 0, 1) := by decide +kernel
theorem dX14_needOf_113 : decode cX14_needOf 113 = .ok (.iconst 5, 1) := by decide +kernel
theorem dX14_needOf_114 : decode cX14_needOf 114 = .ok (.iconst 0, 1) := by decide +kernel
theorem dX14_needOf_115 : decode cX14_needOf 115 = .ok (.iconst 0, 1) := by decide +kernel
theorem dX14_needOf_116 : decode cX14_needOf 116 = .ok (.aload_n 0, 1) := by decide +kernel
theorem dX14_needOf_117 : decode cX14_needOf 117 = .ok (.iload_n 1, 1) := by decide +kernel
theorem dX14_needOf_118 : decode cX14_needOf 118 = .ok (.invokevirtual 886, 3) := by decide +kernel
theorem dX14_needOf_121 : decode cX14_needOf 121 = .ok (.ldc_w 721, 3) := by decide +kernel
theorem dX14_needOf_124 : decode cX14_needOf 124 = .ok (.invokevirtual 873, 3) := by decide +kernel
theorem dX14_needOf_127 : decode cX14_needOf 127 = .ok (.ireturn, 1) := by decide +kernel
theorem dX14_needOf_128 : decode cX14_needOf 128 = .ok (.aload_n 0, 1) := by decide +kernel
theorem dX14_needOf_129 : decode cX14_needOf 129 = .ok (.bipush 9, 2) := by decide +kernel
theorem dX14_needOf_131 : decode cX14_needOf 131 = .ok (.aload_n 0, 1) := by decide +kernel
theorem dX14_needOf_132 : decode cX14_needOf 132 = .ok (.getfield 665, 3) := by decide +kernel
theorem dX14_needOf_135 : decode cX14_needOf 135 = .ok (.getfield 600, 3) := by decide +kernel
theorem dX14_needOf_138 : decode cX14_needOf 138 = .ok (.aload_n 0, 1) := by decide +kernel
theorem dX14_needOf_139 : decode cX14_needOf 139 = .ok (.iload_n 1, 1) := by decide +kernel
theorem dX14_needOf_140 : decode cX14_needOf 140 = .ok (.invokevirtual 697, 3) := by decide +kernel
theorem dX14_needOf_143 : decode cX14_needOf 143 = .ok (.aaload, 1) := by decide +kernel
theorem dX14_needOf_144 : decode cX14_needOf 144 = .ok (.aload_n 0, 1) := by decide +kernel
theorem dX14_needOf_145 : decode cX14_needOf 145 = .ok (.getfield 665, 3) := by decide +kernel
theorem dX14_needOf_148 : decode cX14_needOf 148 = .ok (.getfield 603, 3) := by decide +kernel
theorem dX14_needOf_151 : decode cX14_needOf 151 = .ok (.aload_n 0, 1) := by decide +kernel
theorem dX14_needOf_152 : decode cX14_needOf 152 = .ok (.iload_n 1, 1) := by decide +kernel
theorem dX14_needOf_153 : decode cX14_needOf 153 = .ok (.invokevirtual 697, 3) := by decide +kernel
theorem dX14_needOf_156 : decode cX14_needOf 156 = .ok (.aaload, 1) := by decide +kernel
theorem dX14_needOf_157 : decode cX14_needOf 157 = .ok (.invokevirtual 890, 3) := by decide +kernel
theorem dX14_needOf_160 : decode cX14_needOf 160 = .ok (.ireturn, 1) := by decide +kernel
theorem dX14_needOf_161 : decode cX14_needOf 161 = .ok (.aload_n 0, 1) := by decide +kernel
theorem dX14_needOf_162 : decode cX14_needOf 162 = .ok (.bipush 10, 2) := by decide +kernel
theorem dX14_needOf_164 : decode cX14_needOf 164 = .ok (.aload_n 0, 1) := by decide +kernel
theorem dX14_needOf_165 : decode cX14_needOf 165 = .ok (.getfield 665, 3) := by decide +kernel
theorem dX14_needOf_168 : decode cX14_needOf 168 = .ok (.getfield 613, 3) := by decide +kernel
theorem dX14_needOf_171 : decode cX14_needOf 171 = .ok (.aload_n 0, 1) := by decide +kernel
theorem dX14_needOf_172 : decode cX14_needOf 172 = .ok (.iload_n 1, 1) := by decide +kernel
theorem dX14_needOf_173 : decode cX14_needOf 173 = .ok (.invokevirtual 697, 3) := by decide +kernel
theorem dX14_needOf_176 : decode cX14_needOf 176 = .ok (.aaload, 1) := by decide +kernel
theorem dX14_needOf_177 : decode cX14_needOf 177 = .ok (.aload_n 0, 1) := by decide +kernel
theorem dX14_needOf_178 : decode cX14_needOf 178 = .ok (.getfield 665, 3) := by decide +kernel
theorem dX14_needOf_181 : decode cX14_needOf 181 = .ok (.getfield 616, 3) := by decide +kernel
theorem dX14_needOf_184 : decode cX14_needOf 184 = .ok (.aload_n 0, 1) := by decide +kernel
theorem dX14_needOf_185 : decode cX14_needOf 185 = .ok (.iload_n 1, 1) := by decide +kernel
theorem dX14_needOf_186 : decode cX14_needOf 186 = .ok (.invokevirtual 697, 3) := by decide +kernel
theorem dX14_needOf_189 : decode cX14_needOf 189 = .ok (.aaload, 1) := by decide +kernel
theorem dX14_needOf_190 : decode cX14_needOf 190 = .ok (.invokevirtual 890, 3) := by decide +kernel
theorem dX14_needOf_193 : decode cX14_needOf 193 = .ok (.ireturn, 1) := by decide +kernel
theorem dX14_needOf_194 : decode cX14_needOf 194 = .ok (.iconst 0, 1) := by decide +kernel
theorem dX14_needOf_195 : decode cX14_needOf 195 = .ok (.ireturn, 1) := by decide +kernel
theorem dX14_octet_0 : decode cX14_octet 0 = .ok (.aload_n 0, 1) := by decide +kernel
theorem dX14_octet_1 : decode cX14_octet 1 = .ok (.getfield 309, 3) := by decide +kernel
theorem dX14_octet_4 : decode cX14_octet 4 = .ok (.iload_n 1, 1) := by decide +kernel
theorem dX14_octet_5 : decode cX14_octet 5 = .ok (.baload, 1) := by decide +kernel
theorem dX14_octet_6 : decode cX14_octet 6 = .ok (.sipush 255, 3) := by decide +kernel
theorem dX14_octet_9 : decode cX14_octet 9 = .ok (.iand, 1) := by decide +kernel
theorem dX14_octet_10 : decode cX14_octet 10 = .ok (.ireturn, 1) := by decide +kernel
theorem dX14_onArrays_0 : decode cX14_onArrays 0 = .ok (.iload_n 1, 1) := by decide +kernel
theorem dX14_onArrays_1 : decode cX14_onArrays 1 = .ok (.sipush 188, 3) := by decide +kernel
theorem dX14_onArrays_4 : decode cX14_onArrays 4 = .ok (.if_icmp .ne 12, 3) := by decide +kernel
theorem dX14_onArrays_7 : decode cX14_onArrays 7 = .ok (.aload_n 0, 1) := by decide +kernel
theorem dX14_onArrays_8 : decode cX14_onArrays 8 = .ok (.aload_n 0, 1) := by decide +kernel
theorem dX14_onArrays_9 : decode cX14_onArrays 9 = .ok (.invokevirtual 1018, 3) := by decide +kernel
theorem dX14_onArrays_12 : decode cX14_onArrays 12 = .ok (.invokevirtual 1083, 3) := by decide +kernel
theorem dX14_onArrays_15 : decode cX14_onArrays 15 = .ok (.ireturn, 1) := by decide +kernel
theorem dX14_onArrays_16 : decode cX14_onArrays 16 = .ok (.iload_n 1, 1) := by decide +kernel
theorem dX14_onArrays_17 : decode cX14_onArrays 17 = .ok (.sipush 191, 3) := by decide +kernel
theorem dX14_onArrays_20 : decode cX14_onArrays 20 = .ok (.if_icmp .ne 31, 3) := by decide +kernel
theorem dX14_onArrays_23 : decode cX14_onArrays 23 = .ok (.aload_n 0, 1) := by decide +kernel
theorem dX14_onArrays_24 : decode cX14_onArrays 24 = .ok (.iconst 1, 1) := by decide +kernel
theorem dX14_onArrays_25 : decode cX14_onArrays 25 = .ok (.invokevirtual 1000, 3) := by decide +kernel
theorem dX14_onArrays_28 : decode cX14_onArrays 28 = .ok (.lstore_n 2, 1) := by decide +kernel
theorem dX14_onArrays_29 : decode cX14_onArrays 29 = .ok (.aload_n 0, 1) := by decide +kernel
theorem dX14_onArrays_30 : decode cX14_onArrays 30 = .ok (.lload_n 2, 1) := by decide +kernel
theorem dX14_onArrays_31 : decode cX14_onArrays 31 = .ok (.lconst 0, 1) := by decide +kernel
theorem dX14_onArrays_32 : decode cX14_onArrays 32 = .ok (.lcmp, 1) := by decide +kernel
theorem dX14_onArrays_33 : decode cX14_onArrays 33 = .ok (.ifCond .ne 7, 3) := by decide +kernel
theorem dX14_onArrays_36 : decode cX14_onArrays 36 = .ok (.iconst 1, 1) := by decide +kernel
theorem dX14_onArrays_37 : decode cX14_onArrays 37 = .ok (.goto 9, 3) := by decide +kernel
theorem dX14_onArrays_40 : decode cX14_onArrays 40 = .ok (.ldc2_w 1069, 3) := by decide +kernel
theorem dX14_onArrays_43 : decode cX14_onArrays 43 = .ok (.lload_n 2, 1) := by decide +kernel
theorem dX14_onArrays_44 : decode cX14_onArrays 44 = .ok (.lsub, 1) := by decide +kernel
theorem dX14_onArrays_45 : decode cX14_onArrays 45 = .ok (.l2i, 1) := by decide +kernel
theorem dX14_onArrays_46 : decode cX14_onArrays 46 = .ok (.invokevirtual 1059, 3) := by decide +kernel
theorem dX14_onArrays_49 : decode cX14_onArrays 49 = .ok (.iconst 0, 1) := by decide +kernel
theorem dX14_onArrays_50 : decode cX14_onArrays 50 = .ok (.ireturn, 1) := by decide +kernel
theorem dX14_onArrays_51 : decode cX14_onArrays 51 = .ok (.iload_n 1, 1) := by decide +kernel
theorem dX14_onArrays_52 : decode cX14_onArrays 52 = .ok (.bipush 79, 2) := by decide +kernel
theorem dX14_onArrays_54 : decode cX14_onArrays 54 = .ok (.if_icmp .ne 10, 3) := by decide +kernel
theorem dX14_onArrays_57 : decode cX14_onArrays 57 = .ok (.aload_n 0, 1) := by decide +kernel
theorem dX14_onArrays_58 : decode cX14_onArrays 58 = .ok (.invokevirtual 1018, 3) := by decide +kernel
theorem dX14_onArrays_61 : decode cX14_onArrays 61 = .ok (.goto 4, 3) := by decide +kernel
theorem dX14_onArrays_64 : decode cX14_onArrays 64 = .ok (.iconst 0, 1) := by decide +kernel
theorem dX14_onArrays_65 : decode cX14_onArrays 65 = .ok (.istore_n 2, 1) := by decide +kernel
theorem dX14_onArrays_66 : decode cX14_onArrays 66 = .ok (.iload_n 1, 1) := by decide +kernel
theorem dX14_onArrays_67 : decode cX14_onArrays 67 = .ok (.sipush 190, 3) := by decide +kernel
theorem dX14_onArrays_70 : decode cX14_onArrays 70 = .ok (.if_icmp .ne 7, 3) := by decide +kernel
theorem dX14_onArrays_73 : decode cX14_onArrays 73 = .ok (.iconst 0, 1) := by decide +kernel
theorem dX14_onArrays_74 : decode cX14_onArrays 74 = .ok (.goto 7, 3) := by decide +kernel
theorem dX14_onArrays_77 : decode cX14_onArrays 77 = .ok (.aload_n 0, 1) := by decide +kernel
theorem dX14_onArrays_78 : decode cX14_onArrays 78 = .ok (.invokevirtual 1018, 3) := by decide +kernel
theorem dX14_onArrays_81 : decode cX14_onArrays 81 = .ok (.istore_n 3, 1) := by decide +kernel
theorem dX14_onArrays_82 : decode cX14_onArrays 82 = .ok (.aload_n 0, 1) := by decide +kernel
theorem dX14_onArrays_83 : decode cX14_onArrays 83 = .ok (.invokevirtual 1018, 3) := by decide +kernel
theorem dX14_onArrays_86 : decode cX14_onArrays 86 = .ok (.istore 4, 2) := by decide +kernel
theorem dX14_onArrays_88 : decode cX14_onArrays 88 = .ok (.iload 4, 2) := by decide +kernel
theorem dX14_onArrays_90 : decode cX14_onArrays 90 = .ok (.ifCond .ne 10, 3) := by decide +kernel
theorem dX14_onArrays_93 : decode cX14_onArrays 93 = .ok (.aload_n 0, 1) := by decide +kernel
theorem dX14_onArrays_94 : decode cX14_onArrays 94 = .ok (.iconst 1, 1) := by decide +kernel
theorem dX14_onArrays_95 : decode cX14_onArrays 95 = .ok (.invokevirtual 1059, 3) := by decide +kernel
theorem dX14_onArrays_98 : decode cX14_onArrays 98 = .ok (.iconst 0, 1) := by decide +kernel
theorem dX14_onArrays_99 : decode cX14_onArrays 99 = .ok (.ireturn, 1) := by decide +kernel
theorem dX14_onArrays_100 : decode cX14_onArrays 100 = .ok (.iload_n 1, 1) := by decide +kernel
theorem dX14_onArrays_101 : decode cX14_onArrays 101 = .ok (.sipush 190, 3) := by decide +kernel
theorem dX14_onArrays_104 : decode cX14_onArrays 104 = .ok (.if_icmp .ne 16, 3) := by decide +kernel
theorem dX14_onArrays_107 : decode cX14_onArrays 107 = .ok (.aload_n 0, 1) := by decide +kernel
theorem dX14_onArrays_108 : decode cX14_onArrays 108 = .ok (.aload_n 0, 1) := by decide +kernel
theorem dX14_onArrays_109 : decode cX14_onArrays 109 = .ok (.getfield 155, 3) := by decide +kernel
theorem dX14_onArrays_112 : decode cX14_onArrays 112 = .ok (.iload 4, 2) := by decide +kernel
theorem dX14_onArrays_114 : decode cX14_onArrays 114 = .ok (.iaload, 1) := by decide +kernel
theorem dX14_onArrays_115 : decode cX14_onArrays 115 = .ok (.invokevirtual 1056, 3) := by decide +kernel
theorem dX14_onArrays_118 : decode cX14_onArrays 118 = .ok (.iconst 1, 1) := by decide +kernel
theorem dX14_onArrays_119 : decode cX14_onArrays 119 = .ok (.ireturn, 1) := by decide +kernel
theorem dX14_onArrays_120 : decode cX14_onArrays 120 = .ok (.iload_n 3, 1) := by decide +kernel
theorem dX14_onArrays_121 : decode cX14_onArrays 121 = .ok (.ifCond .lt 14, 3) := by decide +kernel
theorem dX14_onArrays_124 : decode cX14_onArrays 124 = .ok (.iload_n 3, 1) := by decide +kernel
theorem dX14_onArrays_125 : decode cX14_onArrays 125 = .ok (.aload_n 0, 1) := by decide +kernel
theorem dX14_onArrays_126 : decode cX14_onArrays 126 = .ok (.getfield 155, 3) := by decide +kernel
theorem dX14_onArrays_129 : decode cX14_onArrays 129 = .ok (.iload 4, 2) := by decide +kernel
theorem dX14_onArrays_131 : decode cX14_onArrays 131 = .ok (.iaload, 1) := by decide +kernel
theorem dX14_onArrays_132 : decode cX14_onArrays 132 = .ok (.if_icmp .lt 10, 3) := by decide +kernel
theorem dX14_onArrays_135 : decode cX14_onArrays 135 = .ok (.aload_n 0, 1) := by decide +kernel
theorem dX14_onArrays_136 : decode cX14_onArrays 136 = .ok (.iconst 2, 1) := by decide +kernel
theorem dX14_onArrays_137 : decode cX14_onArrays 137 = .ok (.invokevirtual 1059, 3) := by decide +kernel
theorem dX14_onArrays_140 : decode cX14_onArrays 140 = .ok (.iconst 0, 1) := by decide +kernel
theorem dX14_onArrays_141 : decode cX14_onArrays 141 = .ok (.ireturn, 1) := by decide +kernel
theorem dX14_onArrays_142 : decode cX14_onArrays 142 = .ok (.iload_n 1, 1) := by decide +kernel
theorem dX14_onArrays_143 : decode cX14_onArrays 143 = .ok (.bipush 79, 2) := by decide +kernel
theorem dX14_onArrays_145 : decode cX14_onArrays 145 = .ok (.if_icmp .ne 21, 3) := by decide +kernel
theorem dX14_onArrays_148 : decode cX14_onArrays 148 = .ok (.aload_n 0, 1) := by decide +kernel
theorem dX14_onArrays_149 : decode cX14_onArrays 149 = .ok (.getfield 149, 3) := by decide +kernel
theorem dX14_onArrays_152 : decode cX14_onArrays 152 = .ok (.aload_n 0, 1) := by decide +kernel
theorem dX14_onArrays_153 : decode cX14_onArrays 153 = .ok (.getfield 152, 3) := by decide +kernel
theorem dX14_onArrays_156 : decode cX14_onArrays 156 = .ok (.iload 4, 2) := by decide +kernel
theorem dX14_onArrays_158 : decode cX14_onArrays 158 = .ok (.iaload, 1) := by decide +kernel
theorem dX14_onArrays_159 : decode cX14_onArrays 159 = .ok (.iload_n 3, 1) := by decide +kernel
theorem dX14_onArrays_160 : decode cX14_onArrays 160 = .ok (.iadd, 1) := by decide +kernel
theorem dX14_onArrays_161 : decode cX14_onArrays 161 = .ok (.iload_n 2, 1) := by decide +kernel
theorem dX14_onArrays_162 : decode cX14_onArrays 162 = .ok (.iastore, 1) := by decide +kernel
theorem dX14_onArrays_163 : decode cX14_onArrays 163 = .ok (.goto 21, 3) := by decide +kernel
theorem dX14_onArrays_166 : decode cX14_onArrays 166 = .ok (.aload_n 0, 1) := by decide +kernel
theorem dX14_onArrays_167 : decode cX14_onArrays 167 = .ok (.aload_n 0, 1) := by decide +kernel
theorem dX14_onArrays_168 : decode cX14_onArrays 168 = .ok (.getfield 149, 3) := by decide +kernel
theorem dX14_onArrays_171 : decode cX14_onArrays 171 = .ok (.aload_n 0, 1) := by decide +kernel
theorem dX14_onArrays_172 : decode cX14_onArrays 172 = .ok (.getfield 152, 3) := by decide +kernel
theorem dX14_onArrays_175 : decode cX14_onArrays 175 = .ok (.iload 4, 2) := by decide +kernel
theorem dX14_onArrays_177 : decode cX14_onArrays 177 = .ok (.iaload, 1) := by decide +kernel
theorem dX14_onArrays_178 : decode cX14_onArrays 178 = .ok (.iload_n 3, 1) := by decide +kernel
theorem dX14_onArrays_179 : decode cX14_onArrays 179 = .ok (.iadd, 1) := by decide +kernel
theorem dX14_onArrays_180 : decode cX14_onArrays 180 = .ok (.iaload, 1) := by decide +kernel
theorem dX14_onArrays_181 : decode cX14_onArrays 181 = .ok (.invokevirtual 1056, 3) := by decide +kernel
theorem dX14_onArrays_184 : decode cX14_onArrays 184 = .ok (.iconst 1, 1) := by decide +kernel
theorem dX14_onArrays_185 : decode cX14_onArrays 185 = .ok (.ireturn, 1) := by decide +kernel
theorem dX14_op_0 : decode cX14_op 0 = .ok (.aload_n 0, 1) := by decide +kernel
theorem dX14_op_1 : decode cX14_op 1 = .ok (.getfield 667, 3) := by decide +kernel
theorem dX14_op_4 : decode cX14_op 4 = .ok (.iconst 3, 1) := by decide +kernel
theorem dX14_op_5 : decode cX14_op 5 = .ok (.aload_n 0, 1) := by decide +kernel
theorem dX14_op_6 : decode cX14_op 6 = .ok (.getfield 670, 3) := by decide +kernel
theorem dX14_op_9 : decode cX14_op 9 = .ok (.iload_n 1, 1) := by decide +kernel
theorem dX14_op_10 : decode cX14_op 10 = .ok (.iadd, 1) := by decide +kernel
theorem dX14_op_11 : decode cX14_op 11 = .ok (.imul, 1) := by decide +kernel
theorem dX14_op_12 : decode cX14_op 12 = .ok (.iaload, 1) := by decide +kernel
theorem dX14_op_13 : decode cX14_op 13 = .ok (.ireturn, 1) := by decide +kernel
theorem dX14_out_0 : decode cX14_out 0 = .ok (.iload_n 3, 1) := by decide +kernel
theorem dX14_out_1 : decode cX14_out 1 = .ok (.iconst 1, 1) := by decide +kernel
theorem dX14_out_2 : decode cX14_out 2 = .ok (.isub, 1) := by decide +kernel
theorem dX14_out_3 : decode cX14_out 3 = .ok (.istore 4, 2) := by decide +kernel
theorem dX14_out_5 : decode cX14_out 5 = .ok (.iload 4, 2) := by decide +kernel
theorem dX14_out_7 : decode cX14_out 7 = .ok (.ifCond .lt 37, 3) := by decide +kernel
theorem dX14_out_10 : decode cX14_out 10 = .ok (.aload_n 0, 1) := by decide +kernel
theorem dX14_out_11 : decode cX14_out 11 = .ok (.getfield 137, 3) := by decide +kernel
theorem dX14_out_14 : decode cX14_out 14 = .ok (.aload_n 0, 1) := by decide +kernel
theorem dX14_out_15 : decode cX14_out 15 = .ok (.getfield 897, 3) := by decide +kernel
theorem dX14_out_18 : decode cX14_out 18 = .ok (.lload_n 1, 1) := by decide +kernel
theorem dX14_out_19 : decode cX14_out 19 = .ok (.bipush 8, 2) := by decide +kernel
theorem dX14_out_21 : decode cX14_out 21 = .ok (.iload 4, 2) := by decide +kernel
theorem dX14_out_23 : decode cX14_out 23 = .ok (.imul, 1) := by decide +kernel
theorem dX14_out_24 : decode cX14_out 24 = .ok (.lshr, 1) := by decide +kernel
theorem dX14_out_25 : decode cX14_out 25 = .ok (.l2i, 1) := by decide +kernel
theorem dX14_out_26 : decode cX14_out 26 = .ok (.i2b, 1) := by decide +kernel
theorem dX14_out_27 : decode cX14_out 27 = .ok (.bastore, 1) := by decide +kernel
theorem dX14_out_28 : decode cX14_out 28 = .ok (.aload_n 0, 1) := by decide +kernel
theorem dX14_out_29 : decode cX14_out 29 = .ok (.dup, 1) := by decide +kernel
theorem dX14_out_30 : decode cX14_out 30 = .ok (.getfield 897, 3) := by decide +kernel
theorem dX14_out_33 : decode cX14_out 33 = .ok (.iconst 1, 1) := by decide +kernel
theorem dX14_out_34 : decode cX14_out 34 = .ok (.iadd, 1) := by decide +kernel
theorem dX14_out_35 : decode cX14_out 35 = .ok (.putfield 897, 3) := by decide +kernel
theorem dX14_out_38 : decode cX14_out 38 = .ok (.iinc 4 (-1), 3) := by decide +kernel
theorem dX14_out_41 : decode cX14_out 41 = .ok (.goto (-36), 3) := by decide +kernel
theorem dX14_out_44 : decode cX14_out 44 = .ok (.return_, 1) := by decide +kernel
theorem dX14_outEntry_0 : decode cX14_outEntry 0 = .ok (.aload_n 0, 1) := by decide +kernel
theorem dX14_outEntry_1 : decode cX14_outEntry 1 = .ok (.aload_n 0, 1) := by decide +kernel
theorem dX14_outEntry_2 : decode cX14_outEntry 2 = .ok (.getfield 115, 3) := by decide +kernel
theorem dX14_outEntry_5 : decode cX14_outEntry 5 = .ok (.iload_n 1, 1) := by decide +kernel
theorem dX14_outEntry_6 : decode cX14_outEntry 6 = .ok (.iaload, 1) := by decide +kernel
theorem dX14_outEntry_7 : decode cX14_outEntry 7 = .ok (.i2l, 1) := by decide +kernel
theorem dX14_outEntry_8 : decode cX14_outEntry 8 = .ok (.iconst 1, 1) := by decide +kernel
theorem dX14_outEntry_9 : decode cX14_outEntry 9 = .ok (.invokevirtual 908, 3) := by decide +kernel
theorem dX14_outEntry_12 : decode cX14_outEntry 12 = .ok (.aload_n 0, 1) := by decide +kernel
theorem dX14_outEntry_13 : decode cX14_outEntry 13 = .ok (.getfield 115, 3) := by decide +kernel
theorem dX14_outEntry_16 : decode cX14_outEntry 16 = .ok (.iload_n 1, 1) := by decide +kernel
theorem dX14_outEntry_17 : decode cX14_outEntry 17 = .ok (.iaload, 1) := by decide +kernel
theorem dX14_outEntry_18 : decode cX14_outEntry 18 = .ok (.tableswitch 141 1 7 #[42, 141, 97, 141, 111, 141, 126], 42) := by decide +kernel
theorem dX14_outEntry_60 : decode cX14_outEntry 60 = .ok (.aload_n 0, 1) := by decide +kernel
theorem dX14_outEntry_61 : decode cX14_outEntry 61 = .ok (.aload_n 0, 1) := by decide +kernel
theorem dX14_outEntry_62 : decode cX14_outEntry 62 = .ok (.getfield 132, 3) := by decide +kernel
theorem dX14_outEntry_65 : decode cX14_outEntry 65 = .ok (.iload_n 1, 1) := by decide +kernel
theorem dX14_outEntry_66 : decode cX14_outEntry 66 = .ok (.aaload, 1) := by decide +kernel
theorem dX14_outEntry_67 : decode cX14_outEntry 67 = .ok (.invokevirtual 404, 3) := by decide +kernel
theorem dX14_outEntry_70 : decode cX14_outEntry 70 = .ok (.i2l, 1) := by decide +kernel
theorem dX14_outEntry_71 : decode cX14_outEntry 71 = .ok (.iconst 2, 1) := by decide +kernel
theorem dX14_outEntry_72 : decode cX14_outEntry 72 = .ok (.invokevirtual 908, 3) := by decide +kernel
theorem dX14_outEntry_75 : decode cX14_outEntry 75 = .ok (.iconst 0, 1) := by decide +kernel
theorem dX14_outEntry_76 : decode cX14_outEntry 76 = .ok (.istore_n 2, 1) := by decide +kernel
theorem dX14_outEntry_77 : decode cX14_outEntry 77 = .ok (.iload_n 2, 1) := by decide +kernel
theorem dX14_outEntry_78 : decode cX14_outEntry 78 = .ok (.aload_n 0, 1) := by decide +kernel
theorem dX14_outEntry_79 : decode cX14_outEntry 79 = .ok (.getfield 132, 3) := by decide +kernel
theorem dX14_outEntry_82 : decode cX14_outEntry 82 = .ok (.iload_n 1, 1) := by decide +kernel
theorem dX14_outEntry_83 : decode cX14_outEntry 83 = .ok (.aaload, 1) := by decide +kernel
theorem dX14_outEntry_84 : decode cX14_outEntry 84 = .ok (.invokevirtual 404, 3) := by decide +kernel
theorem dX14_outEntry_87 : decode cX14_outEntry 87 = .ok (.if_icmp .ge 25, 3) := by decide +kernel
theorem dX14_outEntry_90 : decode cX14_outEntry 90 = .ok (.aload_n 0, 1) := by decide +kernel
theorem dX14_outEntry_91 : decode cX14_outEntry 91 = .ok (.aload_n 0, 1) := by decide +kernel
theorem dX14_outEntry_92 : decode cX14_outEntry 92 = .ok (.getfield 132, 3) := by decide +kernel
theorem dX14_outEntry_95 : decode cX14_outEntry 95 = .ok (.iload_n 1, 1) := by decide +kernel
theorem dX14_outEntry_96 : decode cX14_outEntry 96 = .ok (.aaload, 1) := by decide +kernel
theorem dX14_outEntry_97 : decode cX14_outEntry 97 = .ok (.iload_n 2, 1) := by decide +kernel
theorem dX14_outEntry_98 : decode cX14_outEntry 98 = .ok (.invokevirtual 408, 3) := by decide +kernel
theorem dX14_outEntry_101 : decode cX14_outEntry 101 = .ok (.i2l, 1) := by decide +kernel
theorem dX14_outEntry_102 : decode cX14_outEntry 102 = .ok (.iconst 1, 1) := by decide +kernel
theorem dX14_outEntry_103 : decode cX14_outEntry 103 = .ok (.invokevirtual 908, 3) := by decide +kernel
theorem dX14_outEntry_106 : decode cX14_outEntry 106 = .ok (.iinc 2 1, 3) := by decide +kernel
theorem dX14_outEntry_109 : decode cX14_outEntry 109 = .ok (.goto (-32), 3) := by decide +kernel
theorem dX14_outEntry_112 : decode cX14_outEntry 112 = .ok (.goto 71, 3) := by decide +kernel
theorem dX14_outEntry_115 : decode cX14_outEntry 115 = .ok (.aload_n 0, 1) := by decide +kernel
theorem dX14_outEntry_116 : decode cX14_outEntry 116 = .ok (.aload_n 0, 1) := by decide +kernel
theorem dX14_outEntry_117 : decode cX14_outEntry 117 = .ok (.getfield 127, 3) := by decide +kernel
theorem dX14_outEntry_120 : decode cX14_outEntry 120 = .ok (.iload_n 1, 1) := by decide +kernel
theorem dX14_outEntry_121 : decode cX14_outEntry 121 = .ok (.laload, 1) := by decide +kernel
theorem dX14_outEntry_122 : decode cX14_outEntry 122 = .ok (.iconst 4, 1) := by decide +kernel
theorem dX14_outEntry_123 : decode cX14_outEntry 123 = .ok (.invokevirtual 908, 3) := by decide +kernel
theorem dX14_outEntry_126 : decode cX14_outEntry 126 = .ok (.goto 57, 3) := by decide +kernel
theorem dX14_outEntry_129 : decode cX14_outEntry 129 = .ok (.aload_n 0, 1) := by decide +kernel
theorem dX14_outEntry_130 : decode cX14_outEntry 130 = .ok (.aload_n 0, 1) := by decide +kernel
theorem dX14_outEntry_131 : decode cX14_outEntry 131 = .ok (.getfield 127, 3) := by decide +kernel
theorem dX14_outEntry_134 : decode cX14_outEntry 134 = .ok (.iload_n 1, 1) := by decide +kernel
theorem dX14_outEntry_135 : decode cX14_outEntry 135 = .ok (.laload, 1) := by decide +kernel
theorem dX14_outEntry_136 : decode cX14_outEntry 136 = .ok (.bipush 8, 2) := by decide +kernel
theorem dX14_outEntry_138 : decode cX14_outEntry 138 = .ok (.invokevirtual 908, 3) := by decide +kernel
theorem dX14_outEntry_141 : decode cX14_outEntry 141 = .ok (.goto 42, 3) := by decide +kernel
theorem dX14_outEntry_144 : decode cX14_outEntry 144 = .ok (.aload_n 0, 1) := by decide +kernel
theorem dX14_outEntry_145 : decode cX14_outEntry 145 = .ok (.aload_n 0, 1) := by decide +kernel
theorem dX14_outEntry_146 : decode cX14_outEntry 146 = .ok (.getfield 121, 3) := by decide +kernel
theorem dX14_outEntry_149 : decode cX14_outEntry 149 = .ok (.iload_n 1, 1) := by decide +kernel
theorem dX14_outEntry_150 : decode cX14_outEntry 150 = .ok (.iaload, 1) := by decide +kernel
theorem dX14_outEntry_151 : decode cX14_outEntry 151 = .ok (.i2l, 1) := by decide +kernel
theorem dX14_outEntry_152 : decode cX14_outEntry 152 = .ok (.iconst 2, 1) := by decide +kernel
theorem dX14_outEntry_153 : decode cX14_outEntry 153 = .ok (.invokevirtual 908, 3) := by decide +kernel
theorem dX14_outEntry_156 : decode cX14_outEntry 156 = .ok (.goto 27, 3) := by decide +kernel
theorem dX14_outEntry_159 : decode cX14_outEntry 159 = .ok (.aload_n 0, 1) := by decide +kernel
theorem dX14_outEntry_160 : decode cX14_outEntry 160 = .ok (.aload_n 0, 1) := by decide +kernel
theorem dX14_outEntry_161 : decode cX14_outEntry 161 = .ok (.getfield 121, 3) := by decide +kernel
theorem dX14_outEntry_164 : decode cX14_outEntry 164 = .ok (.iload_n 1, 1) := by decide +kernel
theorem dX14_outEntry_165 : decode cX14_outEntry 165 = .ok (.iaload, 1) := by decide +kernel
theorem dX14_outEntry_166 : decode cX14_outEntry 166 = .ok (.i2l, 1) := by decide +kernel
theorem dX14_outEntry_167 : decode cX14_outEntry 167 = .ok (.iconst 2, 1) := by decide +kernel
theorem dX14_outEntry_168 : decode cX14_outEntry 168 = .ok (.invokevirtual 908, 3) := by decide +kernel
theorem dX14_outEntry_171 : decode cX14_outEntry 171 = .ok (.aload_n 0, 1) := by decide +kernel
theorem dX14_outEntry_172 : decode cX14_outEntry 172 = .ok (.aload_n 0, 1) := by decide +kernel
theorem dX14_outEntry_173 : decode cX14_outEntry 173 = .ok (.getfield 124, 3) := by decide +kernel
theorem dX14_outEntry_176 : decode cX14_outEntry 176 = .ok (.iload_n 1, 1) := by decide +kernel
theorem dX14_outEntry_177 : decode cX14_outEntry 177 = .ok (.iaload, 1) := by decide +kernel
theorem dX14_outEntry_178 : decode cX14_outEntry 178 = .ok (.i2l, 1) := by decide +kernel
theorem dX14_outEntry_179 : decode cX14_outEntry 179 = .ok (.iconst 2, 1) := by decide +kernel
theorem dX14_outEntry_180 : decode cX14_outEntry 180 = .ok (.invokevirtual 908, 3) := by decide +kernel
theorem dX14_outEntry_183 : decode cX14_outEntry 183 = .ok (.return_, 1) := by decide +kernel
theorem dX14_outFile_0 : decode cX14_outFile 0 = .ok (.aload_n 0, 1) := by decide +kernel
theorem dX14_outFile_1 : decode cX14_outFile 1 = .ok (.aload_n 1, 1) := by decide +kernel
theorem dX14_outFile_2 : decode cX14_outFile 2 = .ok (.invokevirtual 943, 3) := by decide +kernel
theorem dX14_outFile_5 : decode cX14_outFile 5 = .ok (.aload_n 0, 1) := by decide +kernel
theorem dX14_outFile_6 : decode cX14_outFile 6 = .ok (.aload_n 1, 1) := by decide +kernel
theorem dX14_outFile_7 : decode cX14_outFile 7 = .ok (.putfield 665, 3) := by decide +kernel
theorem dX14_outFile_10 : decode cX14_outFile 10 = .ok (.aload_n 0, 1) := by decide +kernel
theorem dX14_outFile_11 : decode cX14_outFile 11 = .ok (.iconst 0, 1) := by decide +kernel
theorem dX14_outFile_12 : decode cX14_outFile 12 = .ok (.putfield 897, 3) := by decide +kernel
theorem dX14_outFile_15 : decode cX14_outFile 15 = .ok (.iconst 0, 1) := by decide +kernel
theorem dX14_outFile_16 : decode cX14_outFile 16 = .ok (.istore_n 2, 1) := by decide +kernel
theorem dX14_outFile_17 : decode cX14_outFile 17 = .ok (.iload_n 2, 1) := by decide +kernel
theorem dX14_outFile_18 : decode cX14_outFile 18 = .ok (.bipush 8, 2) := by decide +kernel
theorem dX14_outFile_20 : decode cX14_outFile 20 = .ok (.if_icmp .ge 19, 3) := by decide +kernel
theorem dX14_outFile_23 : decode cX14_outFile 23 = .ok (.aload_n 0, 1) := by decide +kernel
theorem dX14_outFile_24 : decode cX14_outFile 24 = .ok (.iload_n 2, 1) := by decide +kernel
theorem dX14_outFile_25 : decode cX14_outFile 25 = .ok (.invokestatic 329, 3) := by decide +kernel
theorem dX14_outFile_28 : decode cX14_outFile 28 = .ok (.i2l, 1) := by decide +kernel
theorem dX14_outFile_29 : decode cX14_outFile 29 = .ok (.iconst 1, 1) := by decide +kernel
theorem dX14_outFile_30 : decode cX14_outFile 30 = .ok (.invokevirtual 908, 3) := by decide +kernel
theorem dX14_outFile_33 : decode cX14_outFile 33 = .ok (.iinc 2 1, 3) := by decide +kernel
theorem dX14_outFile_36 : decode cX14_outFile 36 = .ok (.goto (-19), 3) := by decide +kernel
theorem dX14_outFile_39 : decode cX14_outFile 39 = .ok (.aload_n 0, 1) := by decide +kernel
theorem dX14_outFile_40 : decode cX14_outFile 40 = .ok (.aload_n 0, 1) := by decide +kernel
theorem dX14_outFile_41 : decode cX14_outFile 41 = .ok (.getfield 870, 3) := by decide +kernel
theorem dX14_outFile_44 : decode cX14_outFile 44 = .ok (.i2l, 1) := by decide +kernel
theorem dX14_outFile_45 : decode cX14_outFile 45 = .ok (.iconst 2, 1) := by decide +kernel
theorem dX14_outFile_46 : decode cX14_outFile 46 = .ok (.invokevirtual 908, 3) := by decide +kernel
theorem dX14_outFile_49 : decode cX14_outFile 49 = .ok (.iconst 0, 1) := by decide +kernel
theorem dX14_outFile_50 : decode cX14_outFile 50 = .ok (.istore_n 2, 1) := by decide +kernel
theorem dX14_outFile_51 : decode cX14_outFile 51 = .ok (.iload_n 2, 1) := by decide +kernel
theorem dX14_outFile_52 : decode cX14_outFile 52 = .ok (.aload_n 0, 1) := by decide +kernel
theorem dX14_outFile_53 : decode cX14_outFile 53 = .ok (.getfield 867, 3) := by decide +kernel
theorem dX14_outFile_56 : decode cX14_outFile 56 = .ok (.if_icmp .ge 14, 3) := by decide +kernel
theorem dX14_outFile_59 : decode cX14_outFile 59 = .ok (.aload_n 0, 1) := by decide +kernel
theorem dX14_outFile_60 : decode cX14_outFile 60 = .ok (.iload_n 2, 1) := by decide +kernel
theorem dX14_outFile_61 : decode cX14_outFile 61 = .ok (.invokevirtual 947, 3) := by decide +kernel
theorem dX14_outFile_64 : decode cX14_outFile 64 = .ok (.iinc 2 1, 3) := by decide +kernel
theorem dX14_outFile_67 : decode cX14_outFile 67 = .ok (.goto (-16), 3) := by decide +kernel
theorem dX14_outFile_70 : decode cX14_outFile 70 = .ok (.aload_n 0, 1) := by decide +kernel
theorem dX14_outFile_71 : decode cX14_outFile 71 = .ok (.ldc2_w 950, 3) := by decide +kernel
theorem dX14_outFile_74 : decode cX14_outFile 74 = .ok (.iconst 2, 1) := by decide +kernel
theorem dX14_outFile_75 : decode cX14_outFile 75 = .ok (.invokevirtual 908, 3) := by decide +kernel
theorem dX14_outFile_78 : decode cX14_outFile 78 = .ok (.aload_n 0, 1) := by decide +kernel
theorem dX14_outFile_79 : decode cX14_outFile 79 = .ok (.aload_n 0, 1) := by decide +kernel
theorem dX14_outFile_80 : decode cX14_outFile 80 = .ok (.aload_n 1, 1) := by decide +kernel
theorem dX14_outFile_81 : decode cX14_outFile 81 = .ok (.getfield 585, 3) := by decide +kernel
theorem dX14_outFile_84 : decode cX14_outFile 84 = .ok (.invokevirtual 880, 3) := by decide +kernel
theorem dX14_outFile_87 : decode cX14_outFile 87 = .ok (.i2l, 1) := by decide +kernel
theorem dX14_outFile_88 : decode cX14_outFile 88 = .ok (.iconst 2, 1) := by decide +kernel
theorem dX14_outFile_89 : decode cX14_outFile 89 = .ok (.invokevirtual 908, 3) := by decide +kernel
theorem dX14_outFile_92 : decode cX14_outFile 92 = .ok (.aload_n 0, 1) := by decide +kernel
theorem dX14_outFile_93 : decode cX14_outFile 93 = .ok (.aload_n 0, 1) := by decide +kernel
theorem dX14_outFile_94 : decode cX14_outFile 94 = .ok (.aload_n 1, 1) := by decide +kernel
theorem dX14_outFile_95 : decode cX14_outFile 95 = .ok (.getfield 589, 3) := by decide +kernel
theorem dX14_outFile_98 : decode cX14_outFile 98 = .ok (.invokevirtual 880, 3) := by decide +kernel
theorem dX14_outFile_101 : decode cX14_outFile 101 = .ok (.i2l, 1) := by decide +kernel
theorem dX14_outFile_102 : decode cX14_outFile 102 = .ok (.iconst 2, 1) := by decide +kernel
theorem dX14_outFile_103 : decode cX14_outFile 103 = .ok (.invokevirtual 908, 3) := by decide +kernel
theorem dX14_outFile_106 : decode cX14_outFile 106 = .ok (.aload_n 0, 1) := by decide +kernel
theorem dX14_outFile_107 : decode cX14_outFile 107 = .ok (.lconst 0, 1) := by decide +kernel
theorem dX14_outFile_108 : decode cX14_outFile 108 = .ok (.iconst 2, 1) := by decide +kernel
theorem dX14_outFile_109 : decode cX14_outFile 109 = .ok (.invokevirtual 908, 3) := by decide +kernel
theorem dX14_outFile_112 : decode cX14_outFile 112 = .ok (.aload_n 0, 1) := by decide +kernel
theorem dX14_outFile_113 : decode cX14_outFile 113 = .ok (.aload_n 1, 1) := by decide +kernel
theorem dX14_outFile_114 : decode cX14_outFile 114 = .ok (.getfield 594, 3) := by decide +kernel
theorem dX14_outFile_117 : decode cX14_outFile 117 = .ok (.i2l, 1) := by decide +kernel
theorem dX14_outFile_118 : decode cX14_outFile 118 = .ok (.iconst 2, 1) := by decide +kernel
theorem dX14_outFile_119 : decode cX14_outFile 119 = .ok (.invokevirtual 908, 3) := by decide +kernel
theorem dX14_outFile_122 : decode cX14_outFile 122 = .ok (.iconst 0, 1) := by decide +kernel
theorem dX14_outFile_123 : decode cX14_outFile 123 = .ok (.istore_n 2, 1) := by decide +kernel
theorem dX14_outFile_124 : decode cX14_outFile 124 = .ok (.iload_n 2, 1) := by decide +kernel
theorem dX14_outFile_125 : decode cX14_outFile 125 = .ok (.aload_n 1, 1) := by decide +kernel
theorem dX14_outFile_126 : decode cX14_outFile 126 = .ok (.getfield 594, 3) := by decide +kernel
theorem dX14_outFile_129 : decode cX14_outFile 129 = .ok (.if_icmp .ge 55, 3) := by decide +kernel
theorem dX14_outFile_132 : decode cX14_outFile 132 = .ok (.aload_n 0, 1) := by decide +kernel
theorem dX14_outFile_133 : decode cX14_outFile 133 = .ok (.ldc2_w 906, 3) := by decide +kernel
theorem dX14_outFile_136 : decode cX14_outFile 136 = .ok (.iconst 2, 1) := by decide +kernel
theorem dX14_outFile_137 : decode cX14_outFile 137 = .ok (.invokevirtual 908, 3) := by decide +kernel
theorem dX14_outFile_140 : decode cX14_outFile 140 = .ok (.aload_n 0, 1) := by decide +kernel
theorem dX14_outFile_141 : decode cX14_outFile 141 = .ok (.aload_n 0, 1) := by decide +kernel
theorem dX14_outFile_142 : decode cX14_outFile 142 = .ok (.aload_n 1, 1) := by decide +kernel
theorem dX14_outFile_143 : decode cX14_outFile 143 = .ok (.getfield 600, 3) := by decide +kernel
theorem dX14_outFile_146 : decode cX14_outFile 146 = .ok (.iload_n 2, 1) := by decide +kernel
theorem dX14_outFile_147 : decode cX14_outFile 147 = .ok (.aaload, 1) := by decide +kernel
theorem dX14_outFile_148 : decode cX14_outFile 148 = .ok (.invokevirtual 877, 3) := by decide +kernel
theorem dX14_outFile_151 : decode cX14_outFile 151 = .ok (.i2l, 1) := by decide +kernel
theorem dX14_outFile_152 : decode cX14_outFile 152 = .ok (.iconst 2, 1) := by decide +kernel
theorem dX14_outFile_153 : decode cX14_outFile 153 = .ok (.invokevirtual 908, 3) := by decide +kernel
theorem dX14_outFile_156 : decode cX14_outFile 156 = .ok (.aload_n 0, 1) := by decide +kernel
theorem dX14_outFile_157 : decode cX14_outFile 157 = .ok (.aload_n 0, 1) := by decide +kernel
theorem dX14_outFile_158 : decode cX14_outFile 158 = .ok (.aload_n 1, 1) := by decide +kernel
theorem dX14_outFile_159 : decode cX14_outFile 159 = .ok (.getfield 603, 3) := by decide +kernel
theorem dX14_outFile_162 : decode cX14_outFile 162 = .ok (.iload_n 2, 1) := by decide +kernel
theorem dX14_outFile_163 : decode cX14_outFile 163 = .ok (.aaload, 1) := by decide +kernel
theorem dX14_outFile_164 : decode cX14_outFile 164 = .ok (.invokevirtual 877, 3) := by decide +kernel
theorem dX14_outFile_167 : decode cX14_outFile 167 = .ok (.i2l, 1) := by decide +kernel
theorem dX14_outFile_168 : decode cX14_outFile 168 = .ok (.iconst 2, 1) := by decide +kernel
theorem dX14_outFile_169 : decode cX14_outFile 169 = .ok (.invokevirtual 908, 3) := by decide +kernel
theorem dX14_outFile_172 : decode cX14_outFile 172 = .ok (.aload_n 0, 1) := by decide +kernel
theorem dX14_outFile_173 : decode cX14_outFile 173 = .ok (.lconst 0, 1) := by decide +kernel
theorem dX14_outFile_174 : decode cX14_outFile 174 = .ok (.iconst 2, 1) := by decide +kernel
theorem dX14_outFile_175 : decode cX14_outFile 175 = .ok (.invokevirtual 908, 3) := by decide +kernel
theorem dX14_outFile_178 : decode cX14_outFile 178 = .ok (.iinc 2 1, 3) := by decide +kernel
theorem dX14_outFile_181 : decode cX14_outFile 181 = .ok (.goto (-57), 3) := by decide +kernel
theorem dX14_outFile_184 : decode cX14_outFile 184 = .ok (.aload_n 0, 1) := by decide +kernel
theorem dX14_outFile_185 : decode cX14_outFile 185 = .ok (.aload_n 1, 1) := by decide +kernel
theorem dX14_outFile_186 : decode cX14_outFile 186 = .ok (.getfield 597, 3) := by decide +kernel
theorem dX14_outFile_189 : decode cX14_outFile 189 = .ok (.i2l, 1) := by decide +kernel
theorem dX14_outFile_190 : decode cX14_outFile 190 = .ok (.iconst 2, 1) := by decide +kernel
theorem dX14_outFile_191 : decode cX14_outFile 191 = .ok (.invokevirtual 908, 3) := by decide +kernel
theorem dX14_outFile_194 : decode cX14_outFile 194 = .ok (.iconst 0, 1) := by decide +kernel
theorem dX14_outFile_195 : decode cX14_outFile 195 = .ok (.istore_n 2, 1) := by decide +kernel
theorem dX14_outFile_196 : decode cX14_outFile 196 = .ok (.iload_n 2, 1) := by decide +kernel
theorem dX14_outFile_197 : decode cX14_outFile 197 = .ok (.aload_n 1, 1) := by decide +kernel
theorem dX14_outFile_198 : decode cX14_outFile 198 = .ok (.getfield 597, 3) := by decide +kernel
theorem dX14_outFile_201 : decode cX14_outFile 201 = .ok (.if_icmp .ge 15, 3) := by decide +kernel
theorem dX14_outFile_204 : decode cX14_outFile 204 = .ok (.aload_n 0, 1) := by decide +kernel
theorem dX14_outFile_205 : decode cX14_outFile 205 = .ok (.aload_n 1, 1) := by decide +kernel
theorem dX14_outFile_206 : decode cX14_outFile 206 = .ok (.iload_n 2, 1) := by decide +kernel
theorem dX14_outFile_207 : decode cX14_outFile 207 = .ok (.invokevirtual 952, 3) := by decide +kernel
theorem dX14_outFile_210 : decode cX14_outFile 210 = .ok (.iinc 2 1, 3) := by decide +kernel
theorem dX14_outFile_213 : decode cX14_outFile 213 = .ok (.goto (-17), 3) := by decide +kernel
theorem dX14_outFile_216 : decode cX14_outFile 216 = .ok (.aload_n 0, 1) := by decide +kernel
theorem dX14_outFile_217 : decode cX14_outFile 217 = .ok (.lconst 0, 1) := by decide +kernel
theorem dX14_outFile_218 : decode cX14_outFile 218 = .ok (.iconst 2, 1) := by decide +kernel
theorem dX14_outFile_219 : decode cX14_outFile 219 = .ok (.invokevirtual 908, 3) := by decide +kernel
theorem dX14_outFile_222 : decode cX14_outFile 222 = .ok (.return_, 1) := by decide +kernel
theorem dX14_outLocal_0 : decode cX14_outLocal 0 = .ok (.iload_n 2, 1) := by decide +kernel
theorem dX14_outLocal_1 : decode cX14_outLocal 1 = .ok (.iconst 4, 1) := by decide +kernel
theorem dX14_outLocal_2 : decode cX14_outLocal 2 = .ok (.if_icmp .ge 15, 3) := by decide +kernel
theorem dX14_outLocal_5 : decode cX14_outLocal 5 = .ok (.aload_n 0, 1) := by decide +kernel
theorem dX14_outLocal_6 : decode cX14_outLocal 6 = .ok (.iload_n 3, 1) := by decide +kernel
theorem dX14_outLocal_7 : decode cX14_outLocal 7 = .ok (.iload_n 2, 1) := by decide +kernel
theorem dX14_outLocal_8 : decode cX14_outLocal 8 = .ok (.iadd, 1) := by decide +kernel
theorem dX14_outLocal_9 : decode cX14_outLocal 9 = .ok (.i2l, 1) := by decide +kernel
theorem dX14_outLocal_10 : decode cX14_outLocal 10 = .ok (.iconst 1, 1) := by decide +kernel
theorem dX14_outLocal_11 : decode cX14_outLocal 11 = .ok (.invokevirtual 908, 3) := by decide +kernel
theorem dX14_outLocal_14 : decode cX14_outLocal 14 = .ok (.goto 15, 3) := by decide +kernel
theorem dX14_outLocal_17 : decode cX14_outLocal 17 = .ok (.aload_n 0, 1) := by decide +kernel
theorem dX14_outLocal_18 : decode cX14_outLocal 18 = .ok (.iload_n 1, 1) := by decide +kernel
theorem dX14_outLocal_19 : decode cX14_outLocal 19 = .ok (.bipush 8, 2) := by decide +kernel
theorem dX14_outLocal_21 : decode cX14_outLocal 21 = .ok (.ishl, 1) := by decide +kernel
theorem dX14_outLocal_22 : decode cX14_outLocal 22 = .ok (.iload_n 2, 1) := by decide +kernel
theorem dX14_outLocal_23 : decode cX14_outLocal 23 = .ok (.ior, 1) := by decide +kernel
theorem dX14_outLocal_24 : decode cX14_outLocal 24 = .ok (.i2l, 1) := by decide +kernel
theorem dX14_outLocal_25 : decode cX14_outLocal 25 = .ok (.iconst 2, 1) := by decide +kernel
theorem dX14_outLocal_26 : decode cX14_outLocal 26 = .ok (.invokevirtual 908, 3) := by decide +kernel
theorem dX14_outLocal_29 : decode cX14_outLocal 29 = .ok (.return_, 1) := by decide +kernel
theorem dX14_outMethod_0 : decode cX14_outMethod 0 = .ok (.aload_n 0, 1) := by decide +kernel
theorem dX14_outMethod_1 : decode cX14_outMethod 1 = .ok (.ldc2_w 906, 3) := by decide +kernel
theorem dX14_outMethod_4 : decode cX14_outMethod 4 = .ok (.iconst 2, 1) := by decide +kernel
theorem dX14_outMethod_5 : decode cX14_outMethod 5 = .ok (.invokevirtual 908, 3) := by decide +kernel
theorem dX14_outMethod_8 : decode cX14_outMethod 8 = .ok (.aload_n 0, 1) := by decide +kernel
theorem dX14_outMethod_9 : decode cX14_outMethod 9 = .ok (.aload_n 0, 1) := by decide +kernel
theorem dX14_outMethod_10 : decode cX14_outMethod 10 = .ok (.aload_n 1, 1) := by decide +kernel
theorem dX14_outMethod_11 : decode cX14_outMethod 11 = .ok (.getfield 613, 3) := by decide +kernel
theorem dX14_outMethod_14 : decode cX14_outMethod 14 = .ok (.iload_n 2, 1) := by decide +kernel
theorem dX14_outMethod_15 : decode cX14_outMethod 15 = .ok (.aaload, 1) := by decide +kernel
theorem dX14_outMethod_16 : decode cX14_outMethod 16 = .ok (.invokevirtual 877, 3) := by decide +kernel
theorem dX14_outMethod_19 : decode cX14_outMethod 19 = .ok (.i2l, 1) := by decide +kernel
theorem dX14_outMethod_20 : decode cX14_outMethod 20 = .ok (.iconst 2, 1) := by decide +kernel
theorem dX14_outMethod_21 : decode cX14_outMethod 21 = .ok (.invokevirtual 908, 3) := by decide +kernel
theorem dX14_outMethod_24 : decode cX14_outMethod 24 = .ok (.aload_n 0, 1) := by decide +kernel
theorem dX14_outMethod_25 : decode cX14_outMethod 25 = .ok (.aload_n 0, 1) := by decide +kernel
theorem dX14_outMethod_26 : decode cX14_outMethod 26 = .ok (.aload_n 1, 1) := by decide +kernel
theorem dX14_outMethod_27 : decode cX14_outMethod 27 = .ok (.getfield 616, 3) := by decide +kernel
theorem dX14_outMethod_30 : decode cX14_outMethod 30 = .ok (.iload_n 2, 1) := by decide +kernel
theorem dX14_outMethod_31 : decode cX14_outMethod 31 = .ok (.aaload, 1) := by decide +kernel
theorem dX14_outMethod_32 : decode cX14_outMethod 32 = .ok (.invokevirtual 877, 3) := by decide +kernel
theorem dX14_outMethod_35 : decode cX14_outMethod 35 = .ok (.i2l, 1) := by decide +kernel
theorem dX14_outMethod_36 : decode cX14_outMethod 36 = .ok (.iconst 2, 1) := by decide +kernel
theorem dX14_outMethod_37 : decode cX14_outMethod 37 = .ok (.invokevirtual 908, 3) := by decide +kernel
theorem dX14_outMethod_40 : decode cX14_outMethod 40 = .ok (.aload_n 0, 1) := by decide +kernel
theorem dX14_outMethod_41 : decode cX14_outMethod 41 = .ok (.lconst 1, 1) := by decide +kernel
theorem dX14_outMethod_42 : decode cX14_outMethod 42 = .ok (.iconst 2, 1) := by decide +kernel
theorem dX14_outMethod_43 : decode cX14_outMethod 43 = .ok (.invokevirtual 908, 3) := by decide +kernel
theorem dX14_outMethod_46 : decode cX14_outMethod 46 = .ok (.aload_n 0, 1) := by decide +kernel
theorem dX14_outMethod_47 : decode cX14_outMethod 47 = .ok (.aload_n 1, 1) := by decide +kernel
theorem dX14_outMethod_48 : decode cX14_outMethod 48 = .ok (.iload_n 2, 1) := by decide +kernel
theorem dX14_outMethod_49 : decode cX14_outMethod 49 = .ok (.invokevirtual 834, 3) := by decide +kernel
theorem dX14_outMethod_52 : decode cX14_outMethod 52 = .ok (.iconst 0, 1) := by decide +kernel
theorem dX14_outMethod_53 : decode cX14_outMethod 53 = .ok (.istore_n 3, 1) := by decide +kernel
theorem dX14_outMethod_54 : decode cX14_outMethod 54 = .ok (.iconst 0, 1) := by decide +kernel
theorem dX14_outMethod_55 : decode cX14_outMethod 55 = .ok (.istore 4, 2) := by decide +kernel
theorem dX14_outMethod_57 : decode cX14_outMethod 57 = .ok (.iload 4, 2) := by decide +kernel
theorem dX14_outMethod_59 : decode cX14_outMethod 59 = .ok (.aload_n 0, 1) := by decide +kernel
theorem dX14_outMethod_60 : decode cX14_outMethod 60 = .ok (.getfield 673, 3) := by decide +kernel
theorem dX14_outMethod_63 : decode cX14_outMethod 63 = .ok (.if_icmp .ge 27, 3) := by decide +kernel
theorem dX14_outMethod_66 : decode cX14_outMethod 66 = .ok (.aload_n 0, 1) := by decide +kernel
theorem dX14_outMethod_67 : decode cX14_outMethod 67 = .ok (.getfield 143, 3) := by decide +kernel
theorem dX14_outMethod_70 : decode cX14_outMethod 70 = .ok (.iload 4, 2) := by decide +kernel
theorem dX14_outMethod_72 : decode cX14_outMethod 72 = .ok (.iload_n 3, 1) := by decide +kernel
theorem dX14_outMethod_73 : decode cX14_outMethod 73 = .ok (.iastore, 1) := by decide +kernel
theorem dX14_outMethod_74 : decode cX14_outMethod 74 = .ok (.iload_n 3, 1) := by decide +kernel
theorem dX14_outMethod_75 : decode cX14_outMethod 75 = .ok (.aload_n 0, 1) := by decide +kernel
theorem dX14_outMethod_76 : decode cX14_outMethod 76 = .ok (.iload 4, 2) := by decide +kernel
theorem dX14_outMethod_78 : decode cX14_outMethod 78 = .ok (.iload_n 3, 1) := by decide +kernel
theorem dX14_outMethod_79 : decode cX14_outMethod 79 = .ok (.invokevirtual 931, 3) := by decide +kernel
theorem dX14_outMethod_82 : decode cX14_outMethod 82 = .ok (.iadd, 1) := by decide +kernel
theorem dX14_outMethod_83 : decode cX14_outMethod 83 = .ok (.istore_n 3, 1) := by decide +kernel
theorem dX14_outMethod_84 : decode cX14_outMethod 84 = .ok (.iinc 4 1, 3) := by decide +kernel
theorem dX14_outMethod_87 : decode cX14_outMethod 87 = .ok (.goto (-30), 3) := by decide +kernel
theorem dX14_outMethod_90 : decode cX14_outMethod 90 = .ok (.aload_n 0, 1) := by decide +kernel
theorem dX14_outMethod_91 : decode cX14_outMethod 91 = .ok (.getfield 143, 3) := by decide +kernel
theorem dX14_outMethod_94 : decode cX14_outMethod 94 = .ok (.aload_n 0, 1) := by decide +kernel
theorem dX14_outMethod_95 : decode cX14_outMethod 95 = .ok (.getfield 673, 3) := by decide +kernel
theorem dX14_outMethod_98 : decode cX14_outMethod 98 = .ok (.iload_n 3, 1) := by decide +kernel
theorem dX14_outMethod_99 : decode cX14_outMethod 99 = .ok (.iastore, 1) := by decide +kernel
theorem dX14_outMethod_100 : decode cX14_outMethod 100 = .ok (.aload_n 0, 1) := by decide +kernel
theorem dX14_outMethod_101 : decode cX14_outMethod 101 = .ok (.aload_n 0, 1) := by decide +kernel
theorem dX14_outMethod_102 : decode cX14_outMethod 102 = .ok (.ldc_w 412, 3) := by decide +kernel
theorem dX14_outMethod_105 : decode cX14_outMethod 105 = .ok (.invokevirtual 877, 3) := by decide +kernel
theorem dX14_outMethod_108 : decode cX14_outMethod 108 = .ok (.i2l, 1) := by decide +kernel
theorem dX14_outMethod_109 : decode cX14_outMethod 109 = .ok (.iconst 2, 1) := by decide +kernel
theorem dX14_outMethod_110 : decode cX14_outMethod 110 = .ok (.invokevirtual 908, 3) := by decide +kernel
theorem dX14_outMethod_113 : decode cX14_outMethod 113 = .ok (.aload_n 0, 1) := by decide +kernel
theorem dX14_outMethod_114 : decode cX14_outMethod 114 = .ok (.bipush 12, 2) := by decide +kernel
theorem dX14_outMethod_116 : decode cX14_outMethod 116 = .ok (.iload_n 3, 1) := by decide +kernel
theorem dX14_outMethod_117 : decode cX14_outMethod 117 = .ok (.iadd, 1) := by decide +kernel
theorem dX14_outMethod_118 : decode cX14_outMethod 118 = .ok (.bipush 8, 2) := by decide +kernel
theorem dX14_outMethod_120 : decode cX14_outMethod 120 = .ok (.aload_n 0, 1) := by decide +kernel
theorem dX14_outMethod_121 : decode cX14_outMethod 121 = .ok (.getfield 679, 3) := by decide +kernel
theorem dX14_outMethod_124 : decode cX14_outMethod 124 = .ok (.imul, 1) := by decide +kernel
theorem dX14_outMethod_125 : decode cX14_outMethod 125 = .ok (.iadd, 1) := by decide +kernel
theorem dX14_outMethod_126 : decode cX14_outMethod 126 = .ok (.i2l, 1) := by decide +kernel
theorem dX14_outMethod_127 : decode cX14_outMethod 127 = .ok (.iconst 4, 1) := by decide +kernel
theorem dX14_outMethod_128 : decode cX14_outMethod 128 = .ok (.invokevirtual 908, 3) := by decide +kernel
theorem dX14_outMethod_131 : decode cX14_outMethod 131 = .ok (.aload_n 0, 1) := by decide +kernel
theorem dX14_outMethod_132 : decode cX14_outMethod 132 = .ok (.aload_n 0, 1) := by decide +kernel
theorem dX14_outMethod_133 : decode cX14_outMethod 133 = .ok (.invokevirtual 934, 3) := by decide +kernel
theorem dX14_outMethod_136 : decode cX14_outMethod 136 = .ok (.i2l, 1) := by decide +kernel
theorem dX14_outMethod_137 : decode cX14_outMethod 137 = .ok (.iconst 2, 1) := by decide +kernel
theorem dX14_outMethod_138 : decode cX14_outMethod 138 = .ok (.invokevirtual 908, 3) := by decide +kernel
theorem dX14_outMethod_141 : decode cX14_outMethod 141 = .ok (.aload_n 0, 1) := by decide +kernel
theorem dX14_outMethod_142 : decode cX14_outMethod 142 = .ok (.aload_n 0, 1) := by decide +kernel
theorem dX14_outMethod_143 : decode cX14_outMethod 143 = .ok (.aload_n 1, 1) := by decide +kernel
theorem dX14_outMethod_144 : decode cX14_outMethod 144 = .ok (.getfield 619, 3) := by decide +kernel
theorem dX14_outMethod_147 : decode cX14_outMethod 147 = .ok (.iload_n 2, 1) := by decide +kernel
theorem dX14_outMethod_148 : decode cX14_outMethod 148 = .ok (.aaload, 1) := by decide +kernel
theorem dX14_outMethod_149 : decode cX14_outMethod 149 = .ok (.invokevirtual 937, 3) := by decide +kernel
theorem dX14_outMethod_152 : decode cX14_outMethod 152 = .ok (.i2l, 1) := by decide +kernel
theorem dX14_outMethod_153 : decode cX14_outMethod 153 = .ok (.iconst 2, 1) := by decide +kernel
theorem dX14_outMethod_154 : decode cX14_outMethod 154 = .ok (.invokevirtual 908, 3) := by decide +kernel
theorem dX14_outMethod_157 : decode cX14_outMethod 157 = .ok (.aload_n 0, 1) := by decide +kernel
theorem dX14_outMethod_158 : decode cX14_outMethod 158 = .ok (.iload_n 3, 1) := by decide +kernel
theorem dX14_outMethod_159 : decode cX14_outMethod 159 = .ok (.i2l, 1) := by decide +kernel
theorem dX14_outMethod_160 : decode cX14_outMethod 160 = .ok (.iconst 4, 1) := by decide +kernel
theorem dX14_outMethod_161 : decode cX14_outMethod 161 = .ok (.invokevirtual 908, 3) := by decide +kernel
theorem dX14_outMethod_164 : decode cX14_outMethod 164 = .ok (.iconst 0, 1) := by decide +kernel
theorem dX14_outMethod_165 : decode cX14_outMethod 165 = .ok (.istore 4, 2) := by decide +kernel
theorem dX14_outMethod_167 : decode cX14_outMethod 167 = .ok (.iload 4, 2) := by decide +kernel
theorem dX14_outMethod_169 : decode cX14_outMethod 169 = .ok (.aload_n 0, 1) := by decide +kernel
theorem dX14_outMethod_170 : decode cX14_outMethod 170 = .ok (.getfield 673, 3) := by decide +kernel
theorem dX14_outMethod_173 : decode cX14_outMethod 173 = .ok (.if_icmp .ge 15, 3) := by decide +kernel
theorem dX14_outMethod_176 : decode cX14_outMethod 176 = .ok (.aload_n 0, 1) := by decide +kernel
theorem dX14_outMethod_177 : decode cX14_outMethod 177 = .ok (.iload 4, 2) := by decide +kernel
theorem dX14_outMethod_179 : decode cX14_outMethod 179 = .ok (.invokevirtual 940, 3) := by decide +kernel
theorem dX14_outMethod_182 : decode cX14_outMethod 182 = .ok (.iinc 4 1, 3) := by decide +kernel
theorem dX14_outMethod_185 : decode cX14_outMethod 185 = .ok (.goto (-18), 3) := by decide +kernel
theorem dX14_outMethod_188 : decode cX14_outMethod 188 = .ok (.aload_n 0, 1) := by decide +kernel
theorem dX14_outMethod_189 : decode cX14_outMethod 189 = .ok (.aload_n 0, 1) := by decide +kernel
theorem dX14_outMethod_190 : decode cX14_outMethod 190 = .ok (.getfield 679, 3) := by decide +kernel
theorem dX14_outMethod_193 : decode cX14_outMethod 193 = .ok (.i2l, 1) := by decide +kernel
theorem dX14_outMethod_194 : decode cX14_outMethod 194 = .ok (.iconst 2, 1) := by decide +kernel
theorem dX14_outMethod_195 : decode cX14_outMethod 195 = .ok (.invokevirtual 908, 3) := by decide +kernel
theorem dX14_outMethod_198 : decode cX14_outMethod 198 = .ok (.iconst 0, 1) := by decide +kernel
theorem dX14_outMethod_199 : decode cX14_outMethod 199 = .ok (.istore 4, 2) := by decide +kernel
theorem dX14_outMethod_201 : decode cX14_outMethod 201 = .ok (.iload 4, 2) := by decide +kernel
theorem dX14_outMethod_203 : decode cX14_outMethod 203 = .ok (.aload_n 0, 1) := by decide +kernel
theorem dX14_outMethod_204 : decode cX14_outMethod 204 = .ok (.getfield 679, 3) := by decide +kernel
theorem dX14_outMethod_207 : decode cX14_outMethod 207 = .ok (.if_icmp .ge 77, 3) := by decide +kernel
theorem dX14_outMethod_210 : decode cX14_outMethod 210 = .ok (.iconst 0, 1) := by decide +kernel
theorem dX14_outMethod_211 : decode cX14_outMethod 211 = .ok (.istore 5, 2) := by decide +kernel
theorem dX14_outMethod_213 : decode cX14_outMethod 213 = .ok (.iload 5, 2) := by decide +kernel
theorem dX14_outMethod_215 : decode cX14_outMethod 215 = .ok (.iconst 3, 1) := by decide +kernel
theorem dX14_outMethod_216 : decode cX14_outMethod 216 = .ok (.if_icmp .ge 28, 3) := by decide +kernel
theorem dX14_outMethod_219 : decode cX14_outMethod 219 = .ok (.aload_n 0, 1) := by decide +kernel
theorem dX14_outMethod_220 : decode cX14_outMethod 220 = .ok (.aload_n 0, 1) := by decide +kernel
theorem dX14_outMethod_221 : decode cX14_outMethod 221 = .ok (.getfield 143, 3) := by decide +kernel
theorem dX14_outMethod_224 : decode cX14_outMethod 224 = .ok (.aload_n 0, 1) := by decide +kernel
theorem dX14_outMethod_225 : decode cX14_outMethod 225 = .ok (.iload 4, 2) := by decide +kernel
theorem dX14_outMethod_227 : decode cX14_outMethod 227 = .ok (.iload 5, 2) := by decide +kernel
theorem dX14_outMethod_229 : decode cX14_outMethod 229 = .ok (.invokevirtual 682, 3) := by decide +kernel
theorem dX14_outMethod_232 : decode cX14_outMethod 232 = .ok (.iaload, 1) := by decide +kernel
theorem dX14_outMethod_233 : decode cX14_outMethod 233 = .ok (.i2l, 1) := by decide +kernel
theorem dX14_outMethod_234 : decode cX14_outMethod 234 = .ok (.iconst 2, 1) := by decide +kernel
theorem dX14_outMethod_235 : decode cX14_outMethod 235 = .ok (.invokevirtual 908, 3) := by decide +kernel
theorem dX14_outMethod_238 : decode cX14_outMethod 238 = .ok (.iinc 5 1, 3) := by decide +kernel
theorem dX14_outMethod_241 : decode cX14_outMethod 241 = .ok (.goto (-28), 3) := by decide +kernel
theorem dX14_outMethod_244 : decode cX14_outMethod 244 = .ok (.aload_n 0, 1) := by decide +kernel
theorem dX14_outMethod_245 : decode cX14_outMethod 245 = .ok (.aload_n 0, 1) := by decide +kernel
theorem dX14_outMethod_246 : decode cX14_outMethod 246 = .ok (.iload 4, 2) := by decide +kernel
theorem dX14_outMethod_248 : decode cX14_outMethod 248 = .ok (.iconst 3, 1) := by decide +kernel
theorem dX14_outMethod_249 : decode cX14_outMethod 249 = .ok (.invokevirtual 682, 3) := by decide +kernel
theorem dX14_outMethod_252 : decode cX14_outMethod 252 = .ok (.ifCond .ge 7, 3) := by decide +kernel
theorem dX14_outMethod_255 : decode cX14_outMethod 255 = .ok (.lconst 0, 1) := by decide +kernel
theorem dX14_outMethod_256 : decode cX14_outMethod 256 = .ok (.goto 18, 3) := by decide +kernel
theorem dX14_outMethod_259 : decode cX14_outMethod 259 = .ok (.aload_n 0, 1) := by decide +kernel
theorem dX14_outMethod_260 : decode cX14_outMethod 260 = .ok (.aload_n 0, 1) := by decide +kernel
theorem dX14_outMethod_261 : decode cX14_outMethod 261 = .ok (.iload 4, 2) := by decide +kernel
theorem dX14_outMethod_263 : decode cX14_outMethod 263 = .ok (.iconst 3, 1) := by decide +kernel
theorem dX14_outMethod_264 : decode cX14_outMethod 264 = .ok (.invokevirtual 682, 3) := by decide +kernel
theorem dX14_outMethod_267 : decode cX14_outMethod 267 = .ok (.invokestatic 528, 3) := by decide +kernel
theorem dX14_outMethod_270 : decode cX14_outMethod 270 = .ok (.invokevirtual 880, 3) := by decide +kernel
theorem dX14_outMethod_273 : decode cX14_outMethod 273 = .ok (.i2l, 1) := by decide +kernel
theorem dX14_outMethod_274 : decode cX14_outMethod 274 = .ok (.iconst 2, 1) := by decide +kernel
theorem dX14_outMethod_275 : decode cX14_outMethod 275 = .ok (.invokevirtual 908, 3) := by decide +kernel
theorem dX14_outMethod_278 : decode cX14_outMethod 278 = .ok (.iinc 4 1, 3) := by decide +kernel
theorem dX14_outMethod_281 : decode cX14_outMethod 281 = .ok (.goto (-80), 3) := by decide +kernel
theorem dX14_outMethod_284 : decode cX14_outMethod 284 = .ok (.aload_n 0, 1) := by decide +kernel
theorem dX14_outMethod_285 : decode cX14_outMethod 285 = .ok (.lconst 0, 1) := by decide +kernel
theorem dX14_outMethod_286 : decode cX14_outMethod 286 = .ok (.iconst 2, 1) := by decide +kernel
theorem dX14_outMethod_287 : decode cX14_outMethod 287 = .ok (.invokevirtual 908, 3) := by decide +kernel
theorem dX14_outMethod_290 : decode cX14_outMethod 290 = .ok (.return_, 1) := by decide +kernel
theorem dX14_outPush_0 : decode cX14_outPush 0 = .ok (.iload_n 2, 1) := by decide +kernel
theorem dX14_outPush_1 : decode cX14_outPush 1 = .ok (.iconst (-1), 1) := by decide +kernel
theorem dX14_outPush_2 : decode cX14_outPush 2 = .ok (.if_icmp .lt 20, 3) := by decide +kernel
theorem dX14_outPush_5 : decode cX14_outPush 5 = .ok (.iload_n 2, 1) := by decide +kernel
theorem dX14_outPush_6 : decode cX14_outPush 6 = .ok (.iconst 5, 1) := by decide +kernel
theorem dX14_outPush_7 : decode cX14_outPush 7 = .ok (.if_icmp .gt 15, 3) := by decide +kernel
theorem dX14_outPush_10 : decode cX14_outPush 10 = .ok (.aload_n 0, 1) := by decide +kernel
theorem dX14_outPush_11 : decode cX14_outPush 11 = .ok (.iload_n 2, 1) := by decide +kernel
theorem dX14_outPush_12 : decode cX14_outPush 12 = .ok (.iconst 3, 1) := by decide +kernel
theorem dX14_outPush_13 : decode cX14_outPush 13 = .ok (.iadd, 1) := by decide +kernel
theorem dX14_outPush_14 : decode cX14_outPush 14 = .ok (.i2l, 1) := by decide +kernel
theorem dX14_outPush_15 : decode cX14_outPush 15 = .ok (.iconst 1, 1) := by decide +kernel
theorem dX14_outPush_16 : decode cX14_outPush 16 = .ok (.invokevirtual 908, 3) := by decide +kernel
theorem dX14_outPush_19 : decode cX14_outPush 19 = .ok (.goto 97, 3) := by decide +kernel
theorem dX14_outPush_22 : decode cX14_outPush 22 = .ok (.iload_n 2, 1) := by decide +kernel
theorem dX14_outPush_23 : decode cX14_outPush 23 = .ok (.invokestatic 900, 3) := by decide +kernel
theorem dX14_outPush_26 : decode cX14_outPush 26 = .ok (.ifCond .eq 21, 3) := by decide +kernel
theorem dX14_outPush_29 : decode cX14_outPush 29 = .ok (.aload_n 0, 1) := by decide +kernel
theorem dX14_outPush_30 : decode cX14_outPush 30 = .ok (.sipush 4096, 3) := by decide +kernel
theorem dX14_outPush_33 : decode cX14_outPush 33 = .ok (.iload_n 2, 1) := by decide +kernel
theorem dX14_outPush_34 : decode cX14_outPush 34 = .ok (.sipush 255, 3) := by decide +kernel
theorem dX14_outPush_37 : decode cX14_outPush 37 = .ok (.iand, 1) := by decide +kernel
theorem dX14_outPush_38 : decode cX14_outPush 38 = .ok (.ior, 1) := by decide +kernel
theorem dX14_outPush_39 : decode cX14_outPush 39 = .ok (.i2l, 1) := by decide +kernel
theorem dX14_outPush_40 : decode cX14_outPush 40 = .ok (.iconst 2, 1) := by decide +kernel
theorem dX14_outPush_41 : decode cX14_outPush 41 = .ok (.invokevirtual 908, 3) := by decide +kernel
theorem dX14_outPush_44 : decode cX14_outPush 44 = .ok (.goto 72, 3) := by decide +kernel
theorem dX14_outPush_47 : decode cX14_outPush 47 = .ok (.iload_n 2, 1) := by decide +kernel
theorem dX14_outPush_48 : decode cX14_outPush 48 = .ok (.invokestatic 883, 3) := by decide +kernel
theorem dX14_outPush_51 : decode cX14_outPush 51 = .ok (.ifCond .eq 21, 3) := by decide +kernel
theorem dX14_outPush_54 : decode cX14_outPush 54 = .ok (.aload_n 0, 1) := by decide +kernel
theorem dX14_outPush_55 : decode cX14_outPush 55 = .ok (.ldc_w 924, 3) := by decide +kernel
theorem dX14_outPush_58 : decode cX14_outPush 58 = .ok (.iload_n 2, 1) := by decide +kernel
theorem dX14_outPush_59 : decode cX14_outPush 59 = .ok (.ldc_w 479, 3) := by decide +kernel
theorem dX14_outPush_62 : decode cX14_outPush 62 = .ok (.iand, 1) := by decide +kernel
theorem dX14_outPush_63 : decode cX14_outPush 63 = .ok (.ior, 1) := by decide +kernel
theorem dX14_outPush_64 : decode cX14_outPush 64 = .ok (.i2l, 1) := by decide +kernel
theorem dX14_outPush_65 : decode cX14_outPush 65 = .ok (.iconst 3, 1) := by decide +kernel
theorem dX14_outPush_66 : decode cX14_outPush 66 = .ok (.invokevirtual 908, 3) := by decide +kernel
theorem dX14_outPush_69 : decode cX14_outPush 69 = .ok (.goto 47, 3) := by decide +kernel
theorem dX14_outPush_72 : decode cX14_outPush 72 = .ok (.aload_n 0, 1) := by decide +kernel
theorem dX14_outPush_73 : decode cX14_outPush 73 = .ok (.iload_n 1, 1) := by decide +kernel
theorem dX14_outPush_74 : decode cX14_outPush 74 = .ok (.invokevirtual 894, 3) := by decide +kernel
theorem dX14_outPush_77 : decode cX14_outPush 77 = .ok (.sipush 256, 3) := by decide +kernel
theorem dX14_outPush_80 : decode cX14_outPush 80 = .ok (.if_icmp .ge 21, 3) := by decide +kernel
theorem dX14_outPush_83 : decode cX14_outPush 83 = .ok (.aload_n 0, 1) := by decide +kernel
theorem dX14_outPush_84 : decode cX14_outPush 84 = .ok (.sipush 4608, 3) := by decide +kernel
theorem dX14_outPush_87 : decode cX14_outPush 87 = .ok (.aload_n 0, 1) := by decide +kernel
theorem dX14_outPush_88 : decode cX14_outPush 88 = .ok (.iload_n 1, 1) := by decide +kernel
theorem dX14_outPush_89 : decode cX14_outPush 89 = .ok (.invokevirtual 894, 3) := by decide +kernel
theorem dX14_outPush_92 : decode cX14_outPush 92 = .ok (.ior, 1) := by decide +kernel
theorem dX14_outPush_93 : decode cX14_outPush 93 = .ok (.i2l, 1) := by decide +kernel
theorem dX14_outPush_94 : decode cX14_outPush 94 = .ok (.iconst 2, 1) := by decide +kernel
theorem dX14_outPush_95 : decode cX14_outPush 95 = .ok (.invokevirtual 908, 3) := by decide +kernel
theorem dX14_outPush_98 : decode cX14_outPush 98 = .ok (.goto 18, 3) := by decide +kernel
theorem dX14_outPush_101 : decode cX14_outPush 101 = .ok (.aload_n 0, 1) := by decide +kernel
theorem dX14_outPush_102 : decode cX14_outPush 102 = .ok (.ldc_w 925, 3) := by decide +kernel
theorem dX14_outPush_105 : decode cX14_outPush 105 = .ok (.aload_n 0, 1) := by decide +kernel
theorem dX14_outPush_106 : decode cX14_outPush 106 = .ok (.iload_n 1, 1) := by decide +kernel
theorem dX14_outPush_107 : decode cX14_outPush 107 = .ok (.invokevirtual 894, 3) := by decide +kernel
theorem dX14_outPush_110 : decode cX14_outPush 110 = .ok (.ior, 1) := by decide +kernel
theorem dX14_outPush_111 : decode cX14_outPush 111 = .ok (.i2l, 1) := by decide +kernel
theorem dX14_outPush_112 : decode cX14_outPush 112 = .ok (.iconst 3, 1) := by decide +kernel
theorem dX14_outPush_113 : decode cX14_outPush 113 = .ok (.invokevirtual 908, 3) := by decide +kernel
theorem dX14_outPush_116 : decode cX14_outPush 116 = .ok (.return_, 1) := by decide +kernel
theorem dX14_outRow_0 : decode cX14_outRow 0 = .ok (.aload_n 0, 1) := by decide +kernel
theorem dX14_outRow_1 : decode cX14_outRow 1 = .ok (.iload_n 1, 1) := by decide +kernel
theorem dX14_outRow_2 : decode cX14_outRow 2 = .ok (.invokevirtual 685, 3) := by decide +kernel
theorem dX14_outRow_5 : decode cX14_outRow 5 = .ok (.istore_n 2, 1) := by decide +kernel
theorem dX14_outRow_6 : decode cX14_outRow 6 = .ok (.aload_n 0, 1) := by decide +kernel
theorem dX14_outRow_7 : decode cX14_outRow 7 = .ok (.iload_n 1, 1) := by decide +kernel
theorem dX14_outRow_8 : decode cX14_outRow 8 = .ok (.invokevirtual 697, 3) := by decide +kernel
theorem dX14_outRow_11 : decode cX14_outRow 11 = .ok (.istore_n 3, 1) := by decide +kernel
theorem dX14_outRow_12 : decode cX14_outRow 12 = .ok (.aload_n 0, 1) := by decide +kernel
theorem dX14_outRow_13 : decode cX14_outRow 13 = .ok (.getfield 143, 3) := by decide +kernel
theorem dX14_outRow_16 : decode cX14_outRow 16 = .ok (.iload_n 1, 1) := by decide +kernel
theorem dX14_outRow_17 : decode cX14_outRow 17 = .ok (.iaload, 1) := by decide +kernel
theorem dX14_outRow_18 : decode cX14_outRow 18 = .ok (.istore 4, 2) := by decide +kernel
theorem dX14_outRow_20 : decode cX14_outRow 20 = .ok (.iload_n 2, 1) := by decide +kernel
theorem dX14_outRow_21 : decode cX14_outRow 21 = .ok (.bipush 18, 2) := by decide +kernel
theorem dX14_outRow_23 : decode cX14_outRow 23 = .ok (.if_icmp .ne 12, 3) := by decide +kernel
theorem dX14_outRow_26 : decode cX14_outRow 26 = .ok (.aload_n 0, 1) := by decide +kernel
theorem dX14_outRow_27 : decode cX14_outRow 27 = .ok (.iload_n 1, 1) := by decide +kernel
theorem dX14_outRow_28 : decode cX14_outRow 28 = .ok (.iload_n 3, 1) := by decide +kernel
theorem dX14_outRow_29 : decode cX14_outRow 29 = .ok (.invokevirtual 903, 3) := by decide +kernel
theorem dX14_outRow_32 : decode cX14_outRow 32 = .ok (.goto 361, 3) := by decide +kernel
theorem dX14_outRow_35 : decode cX14_outRow 35 = .ok (.iload_n 2, 1) := by decide +kernel
theorem dX14_outRow_36 : decode cX14_outRow 36 = .ok (.bipush 20, 2) := by decide +kernel
theorem dX14_outRow_38 : decode cX14_outRow 38 = .ok (.if_icmp .ne 58, 3) := by decide +kernel
theorem dX14_outRow_41 : decode cX14_outRow 41 = .ok (.aload_n 0, 1) := by decide +kernel
theorem dX14_outRow_42 : decode cX14_outRow 42 = .ok (.iload_n 1, 1) := by decide +kernel
theorem dX14_outRow_43 : decode cX14_outRow 43 = .ok (.invokevirtual 886, 3) := by decide +kernel
theorem dX14_outRow_46 : decode cX14_outRow 46 = .ok (.lconst 0, 1) := by decide +kernel
theorem dX14_outRow_47 : decode cX14_outRow 47 = .ok (.lcmp, 1) := by decide +kernel
theorem dX14_outRow_48 : decode cX14_outRow 48 = .ok (.ifCond .eq 13, 3) := by decide +kernel
theorem dX14_outRow_51 : decode cX14_outRow 51 = .ok (.aload_n 0, 1) := by decide +kernel
theorem dX14_outRow_52 : decode cX14_outRow 52 = .ok (.iload_n 1, 1) := by decide +kernel
theorem dX14_outRow_53 : decode cX14_outRow 53 = .ok (.invokevirtual 886, 3) := by decide +kernel
theorem dX14_outRow_56 : decode cX14_outRow 56 = .ok (.lconst 1, 1) := by decide +kernel
theorem dX14_outRow_57 : decode cX14_outRow 57 = .ok (.lcmp, 1) := by decide +kernel
theorem dX14_outRow_58 : decode cX14_outRow 58 = .ok (.ifCond .ne 20, 3) := by decide +kernel
theorem dX14_outRow_61 : decode cX14_outRow 61 = .ok (.aload_n 0, 1) := by decide +kernel
theorem dX14_outRow_62 : decode cX14_outRow 62 = .ok (.ldc2_w 906, 3) := by decide +kernel
theorem dX14_outRow_65 : decode cX14_outRow 65 = .ok (.aload_n 0, 1) := by decide +kernel
theorem dX14_outRow_66 : decode cX14_outRow 66 = .ok (.iload_n 1, 1) := by decide +kernel
theorem dX14_outRow_67 : decode cX14_outRow 67 = .ok (.invokevirtual 886, 3) := by decide +kernel
theorem dX14_outRow_70 : decode cX14_outRow 70 = .ok (.ladd, 1) := by decide +kernel
theorem dX14_outRow_71 : decode cX14_outRow 71 = .ok (.iconst 1, 1) := by decide +kernel
theorem dX14_outRow_72 : decode cX14_outRow 72 = .ok (.invokevirtual 908, 3) := by decide +kernel
theorem dX14_outRow_75 : decode cX14_outRow 75 = .ok (.goto 318, 3) := by decide +kernel
theorem dX14_outRow_78 : decode cX14_outRow 78 = .ok (.aload_n 0, 1) := by decide +kernel
theorem dX14_outRow_79 : decode cX14_outRow 79 = .ok (.ldc_w 912, 3) := by decide +kernel
theorem dX14_outRow_82 : decode cX14_outRow 82 = .ok (.aload_n 0, 1) := by decide +kernel
theorem dX14_outRow_83 : decode cX14_outRow 83 = .ok (.iload_n 1, 1) := by decide +kernel
theorem dX14_outRow_84 : decode cX14_outRow 84 = .ok (.invokevirtual 894, 3) := by decide +kernel
theorem dX14_outRow_87 : decode cX14_outRow 87 = .ok (.ior, 1) := by decide +kernel
theorem dX14_outRow_88 : decode cX14_outRow 88 = .ok (.i2l, 1) := by decide +kernel
theorem dX14_outRow_89 : decode cX14_outRow 89 = .ok (.iconst 3, 1) := by decide +kernel
theorem dX14_outRow_90 : decode cX14_outRow 90 = .ok (.invokevirtual 908, 3) := by decide +kernel
theorem dX14_outRow_93 : decode cX14_outRow 93 = .ok (.goto 300, 3) := by decide +kernel
theorem dX14_outRow_96 : decode cX14_outRow 96 = .ok (.iload_n 2, 1) := by decide +kernel
theorem dX14_outRow_97 : decode cX14_outRow 97 = .ok (.bipush 21, 2) := by decide +kernel
theorem dX14_outRow_99 : decode cX14_outRow 99 = .ok (.if_icmp .eq 15, 3) := by decide +kernel
theorem dX14_outRow_102 : decode cX14_outRow 102 = .ok (.iload_n 2, 1) := by decide +kernel
theorem dX14_outRow_103 : decode cX14_outRow 103 = .ok (.bipush 22, 2) := by decide +kernel
theorem dX14_outRow_105 : decode cX14_outRow 105 = .ok (.if_icmp .eq 9, 3) := by decide +kernel
theorem dX14_outRow_108 : decode cX14_outRow 108 = .ok (.iload_n 2, 1) := by decide +kernel
theorem dX14_outRow_109 : decode cX14_outRow 109 = .ok (.bipush 25, 2) := by decide +kernel
theorem dX14_outRow_111 : decode cX14_outRow 111 = .ok (.if_icmp .ne 36, 3) := by decide +kernel
theorem dX14_outRow_114 : decode cX14_outRow 114 = .ok (.aload_n 0, 1) := by decide +kernel
theorem dX14_outRow_115 : decode cX14_outRow 115 = .ok (.iload_n 2, 1) := by decide +kernel
theorem dX14_outRow_116 : decode cX14_outRow 116 = .ok (.iload_n 3, 1) := by decide +kernel
theorem dX14_outRow_117 : decode cX14_outRow 117 = .ok (.iload_n 2, 1) := by decide +kernel
theorem dX14_outRow_118 : decode cX14_outRow 118 = .ok (.bipush 21, 2) := by decide +kernel
theorem dX14_outRow_120 : decode cX14_outRow 120 = .ok (.if_icmp .ne 8, 3) := by decide +kernel
theorem dX14_outRow_123 : decode cX14_outRow 123 = .ok (.bipush 26, 2) := by decide +kernel
theorem dX14_outRow_125 : decode cX14_outRow 125 = .ok (.goto 16, 3) := by decide +kernel
theorem dX14_outRow_128 : decode cX14_outRow 128 = .ok (.iload_n 2, 1) := by decide +kernel
theorem dX14_outRow_129 : decode cX14_outRow 129 = .ok (.bipush 22, 2) := by decide +kernel
theorem dX14_outRow_131 : decode cX14_outRow 131 = .ok (.if_icmp .ne 8, 3) := by decide +kernel
theorem dX14_outRow_134 : decode cX14_outRow 134 = .ok (.bipush 30, 2) := by decide +kernel
theorem dX14_outRow_136 : decode cX14_outRow 136 = .ok (.goto 5, 3) := by decide +kernel
theorem dX14_outRow_139 : decode cX14_outRow 139 = .ok (.bipush 42, 2) := by decide +kernel
theorem dX14_outRow_141 : decode cX14_outRow 141 = .ok (.invokevirtual 913, 3) := by decide +kernel
theorem dX14_outRow_144 : decode cX14_outRow 144 = .ok (.goto 249, 3) := by decide +kernel
theorem dX14_outRow_147 : decode cX14_outRow 147 = .ok (.iload_n 2, 1) := by decide +kernel
theorem dX14_outRow_148 : decode cX14_outRow 148 = .ok (.bipush 54, 2) := by decide +kernel
theorem dX14_outRow_150 : decode cX14_outRow 150 = .ok (.if_icmp .eq 15, 3) := by decide +kernel
theorem dX14_outRow_153 : decode cX14_outRow 153 = .ok (.iload_n 2, 1) := by decide +kernel
theorem dX14_outRow_154 : decode cX14_outRow 154 = .ok (.bipush 55, 2) := by decide +kernel
theorem dX14_outRow_156 : decode cX14_outRow 156 = .ok (.if_icmp .eq 9, 3) := by decide +kernel
theorem dX14_outRow_159 : decode cX14_outRow 159 = .ok (.iload_n 2, 1) := by decide +kernel
theorem dX14_outRow_160 : decode cX14_outRow 160 = .ok (.bipush 58, 2) := by decide +kernel
theorem dX14_outRow_162 : decode cX14_outRow 162 = .ok (.if_icmp .ne 36, 3) := by decide +kernel
theorem dX14_outRow_165 : decode cX14_outRow 165 = .ok (.aload_n 0, 1) := by decide +kernel
theorem dX14_outRow_166 : decode cX14_outRow 166 = .ok (.iload_n 2, 1) := by decide +kernel
theorem dX14_outRow_167 : decode cX14_outRow 167 = .ok (.iload_n 3, 1) := by decide +kernel
theorem dX14_outRow_168 : decode cX14_outRow 168 = .ok (.iload_n 2, 1) := by decide +kernel
theorem dX14_outRow_169 : decode cX14_outRow 169 = .ok (.bipush 54, 2) := by decide +kernel
theorem dX14_outRow_171 : decode cX14_outRow 171 = .ok (.if_icmp .ne 8, 3) := by decide +kernel
theorem dX14_outRow_174 : decode cX14_outRow 174 = .ok (.bipush 59, 2) := by decide +kernel
theorem dX14_outRow_176 : decode cX14_outRow 176 = .ok (.goto 16, 3) := by decide +kernel
theorem dX14_outRow_179 : decode cX14_outRow 179 = .ok (.iload_n 2, 1) := by decide +kernel
theorem dX14_outRow_180 : decode cX14_outRow 180 = .ok (.bipush 55, 2) := by decide +kernel
theorem dX14_outRow_182 : decode cX14_outRow 182 = .ok (.if_icmp .ne 8, 3) := by decide +kernel
theorem dX14_outRow_185 : decode cX14_outRow 185 = .ok (.bipush 63, 2) := by decide +kernel
theorem dX14_outRow_187 : decode cX14_outRow 187 = .ok (.goto 5, 3) := by decide +kernel
theorem dX14_outRow_190 : decode cX14_outRow 190 = .ok (.bipush 75, 2) := by decide +kernel
theorem dX14_outRow_192 : decode cX14_outRow 192 = .ok (.invokevirtual 913, 3) := by decide +kernel
theorem dX14_outRow_195 : decode cX14_outRow 195 = .ok (.goto 198, 3) := by decide +kernel
theorem dX14_outRow_198 : decode cX14_outRow 198 = .ok (.iload_n 2, 1) := by decide +kernel
theorem dX14_outRow_199 : decode cX14_outRow 199 = .ok (.sipush 132, 3) := by decide +kernel
theorem dX14_outRow_202 : decode cX14_outRow 202 = .ok (.if_icmp .ne 41, 3) := by decide +kernel
theorem dX14_outRow_205 : decode cX14_outRow 205 = .ok (.aload_n 0, 1) := by decide +kernel
theorem dX14_outRow_206 : decode cX14_outRow 206 = .ok (.iload_n 1, 1) := by decide +kernel
theorem dX14_outRow_207 : decode cX14_outRow 207 = .ok (.invokevirtual 694, 3) := by decide +kernel
theorem dX14_outRow_210 : decode cX14_outRow 210 = .ok (.invokestatic 900, 3) := by decide +kernel
theorem dX14_outRow_213 : decode cX14_outRow 213 = .ok (.ifCond .eq 30, 3) := by decide +kernel
theorem dX14_outRow_216 : decode cX14_outRow 216 = .ok (.aload_n 0, 1) := by decide +kernel
theorem dX14_outRow_217 : decode cX14_outRow 217 = .ok (.ldc_w 916, 3) := by decide +kernel
theorem dX14_outRow_220 : decode cX14_outRow 220 = .ok (.iload_n 3, 1) := by decide +kernel
theorem dX14_outRow_221 : decode cX14_outRow 221 = .ok (.bipush 8, 2) := by decide +kernel
theorem dX14_outRow_223 : decode cX14_outRow 223 = .ok (.ishl, 1) := by decide +kernel
theorem dX14_outRow_224 : decode cX14_outRow 224 = .ok (.ior, 1) := by decide +kernel
theorem dX14_outRow_225 : decode cX14_outRow 225 = .ok (.aload_n 0, 1) := by decide +kernel
theorem dX14_outRow_226 : decode cX14_outRow 226 = .ok (.iload_n 1, 1) := by decide +kernel
theorem dX14_outRow_227 : decode cX14_outRow 227 = .ok (.invokevirtual 694, 3) := by decide +kernel
theorem dX14_outRow_230 : decode cX14_outRow 230 = .ok (.sipush 255, 3) := by decide +kernel
theorem dX14_outRow_233 : decode cX14_outRow 233 = .ok (.iand, 1) := by decide +kernel
theorem dX14_outRow_234 : decode cX14_outRow 234 = .ok (.ior, 1) := by decide +kernel
theorem dX14_outRow_235 : decode cX14_outRow 235 = .ok (.i2l, 1) := by decide +kernel
theorem dX14_outRow_236 : decode cX14_outRow 236 = .ok (.iconst 3, 1) := by decide +kernel
theorem dX14_outRow_237 : decode cX14_outRow 237 = .ok (.invokevirtual 908, 3) := by decide +kernel
theorem dX14_outRow_240 : decode cX14_outRow 240 = .ok (.goto 153, 3) := by decide +kernel
theorem dX14_outRow_243 : decode cX14_outRow 243 = .ok (.iload_n 2, 1) := by decide +kernel
theorem dX14_outRow_244 : decode cX14_outRow 244 = .ok (.sipush 132, 3) := by decide +kernel
theorem dX14_outRow_247 : decode cX14_outRow 247 = .ok (.if_icmp .ne 32, 3) := by decide +kernel
theorem dX14_outRow_250 : decode cX14_outRow 250 = .ok (.aload_n 0, 1) := by decide +kernel
theorem dX14_outRow_251 : decode cX14_outRow 251 = .ok (.ldc2_w 917, 3) := by decide +kernel
theorem dX14_outRow_254 : decode cX14_outRow 254 = .ok (.iconst 2, 1) := by decide +kernel
theorem dX14_outRow_255 : decode cX14_outRow 255 = .ok (.invokevirtual 908, 3) := by decide +kernel
theorem dX14_outRow_258 : decode cX14_outRow 258 = .ok (.aload_n 0, 1) := by decide +kernel
theorem dX14_outRow_259 : decode cX14_outRow 259 = .ok (.iload_n 3, 1) := by decide +kernel
theorem dX14_outRow_260 : decode cX14_outRow 260 = .ok (.i2l, 1) := by decide +kernel
theorem dX14_outRow_261 : decode cX14_outRow 261 = .ok (.iconst 2, 1) := by decide +kernel
theorem dX14_outRow_262 : decode cX14_outRow 262 = .ok (.invokevirtual 908, 3) := by decide +kernel
theorem dX14_outRow_265 : decode cX14_outRow 265 = .ok (.aload_n 0, 1) := by decide +kernel
theorem dX14_outRow_266 : decode cX14_outRow 266 = .ok (.aload_n 0, 1) := by decide +kernel
theorem dX14_outRow_267 : decode cX14_outRow 267 = .ok (.iload_n 1, 1) := by decide +kernel
theorem dX14_outRow_268 : decode cX14_outRow 268 = .ok (.invokevirtual 694, 3) := by decide +kernel
theorem dX14_outRow_271 : decode cX14_outRow 271 = .ok (.i2l, 1) := by decide +kernel
theorem dX14_outRow_272 : decode cX14_outRow 272 = .ok (.iconst 2, 1) := by decide +kernel
theorem dX14_outRow_273 : decode cX14_outRow 273 = .ok (.invokevirtual 908, 3) := by decide +kernel
theorem dX14_outRow_276 : decode cX14_outRow 276 = .ok (.goto 117, 3) := by decide +kernel
theorem dX14_outRow_279 : decode cX14_outRow 279 = .ok (.iload_n 2, 1) := by decide +kernel
theorem dX14_outRow_280 : decode cX14_outRow 280 = .ok (.invokestatic 691, 3) := by decide +kernel
theorem dX14_outRow_283 : decode cX14_outRow 283 = .ok (.ifCond .eq 13, 3) := by decide +kernel
theorem dX14_outRow_286 : decode cX14_outRow 286 = .ok (.aload_n 0, 1) := by decide +kernel
theorem dX14_outRow_287 : decode cX14_outRow 287 = .ok (.iload_n 1, 1) := by decide +kernel
theorem dX14_outRow_288 : decode cX14_outRow 288 = .ok (.iload 4, 2) := by decide +kernel
theorem dX14_outRow_290 : decode cX14_outRow 290 = .ok (.invokevirtual 919, 3) := by decide +kernel
theorem dX14_outRow_293 : decode cX14_outRow 293 = .ok (.goto 100, 3) := by decide +kernel
theorem dX14_outRow_296 : decode cX14_outRow 296 = .ok (.iload_n 2, 1) := by decide +kernel
theorem dX14_outRow_297 : decode cX14_outRow 297 = .ok (.invokestatic 688, 3) := by decide +kernel
theorem dX14_outRow_300 : decode cX14_outRow 300 = .ok (.ifCond .eq 28, 3) := by decide +kernel
theorem dX14_outRow_303 : decode cX14_outRow 303 = .ok (.aload_n 0, 1) := by decide +kernel
theorem dX14_outRow_304 : decode cX14_outRow 304 = .ok (.iload_n 2, 1) := by decide +kernel
theorem dX14_outRow_305 : decode cX14_outRow 305 = .ok (.i2l, 1) := by decide +kernel
theorem dX14_outRow_306 : decode cX14_outRow 306 = .ok (.iconst 1, 1) := by decide +kernel
theorem dX14_outRow_307 : decode cX14_outRow 307 = .ok (.invokevirtual 908, 3) := by decide +kernel
theorem dX14_outRow_310 : decode cX14_outRow 310 = .ok (.aload_n 0, 1) := by decide +kernel
theorem dX14_outRow_311 : decode cX14_outRow 311 = .ok (.aload_n 0, 1) := by decide +kernel
theorem dX14_outRow_312 : decode cX14_outRow 312 = .ok (.getfield 143, 3) := by decide +kernel
theorem dX14_outRow_315 : decode cX14_outRow 315 = .ok (.iload_n 3, 1) := by decide +kernel
theorem dX14_outRow_316 : decode cX14_outRow 316 = .ok (.iaload, 1) := by decide +kernel
theorem dX14_outRow_317 : decode cX14_outRow 317 = .ok (.iload 4, 2) := by decide +kernel
theorem dX14_outRow_319 : decode cX14_outRow 319 = .ok (.isub, 1) := by decide +kernel
theorem dX14_outRow_320 : decode cX14_outRow 320 = .ok (.i2l, 1) := by decide +kernel
theorem dX14_outRow_321 : decode cX14_outRow 321 = .ok (.iconst 2, 1) := by decide +kernel
theorem dX14_outRow_322 : decode cX14_outRow 322 = .ok (.invokevirtual 908, 3) := by decide +kernel
theorem dX14_outRow_325 : decode cX14_outRow 325 = .ok (.goto 68, 3) := by decide +kernel
theorem dX14_outRow_328 : decode cX14_outRow 328 = .ok (.iload_n 2, 1) := by decide +kernel
theorem dX14_outRow_329 : decode cX14_outRow 329 = .ok (.sipush 178, 3) := by decide +kernel
theorem dX14_outRow_332 : decode cX14_outRow 332 = .ok (.if_icmp .eq 17, 3) := by decide +kernel
theorem dX14_outRow_335 : decode cX14_outRow 335 = .ok (.iload_n 2, 1) := by decide +kernel
theorem dX14_outRow_336 : decode cX14_outRow 336 = .ok (.sipush 179, 3) := by decide +kernel
theorem dX14_outRow_339 : decode cX14_outRow 339 = .ok (.if_icmp .eq 10, 3) := by decide +kernel
theorem dX14_outRow_342 : decode cX14_outRow 342 = .ok (.iload_n 2, 1) := by decide +kernel
theorem dX14_outRow_343 : decode cX14_outRow 343 = .ok (.sipush 184, 3) := by decide +kernel
theorem dX14_outRow_346 : decode cX14_outRow 346 = .ok (.if_icmp .ne 22, 3) := by decide +kernel
theorem dX14_outRow_349 : decode cX14_outRow 349 = .ok (.aload_n 0, 1) := by decide +kernel
theorem dX14_outRow_350 : decode cX14_outRow 350 = .ok (.iload_n 2, 1) := by decide +kernel
theorem dX14_outRow_351 : decode cX14_outRow 351 = .ok (.bipush 16, 2) := by decide +kernel
theorem dX14_outRow_353 : decode cX14_outRow 353 = .ok (.ishl, 1) := by decide +kernel
theorem dX14_outRow_354 : decode cX14_outRow 354 = .ok (.aload_n 0, 1) := by decide +kernel
theorem dX14_outRow_355 : decode cX14_outRow 355 = .ok (.iload_n 1, 1) := by decide +kernel
theorem dX14_outRow_356 : decode cX14_outRow 356 = .ok (.invokevirtual 894, 3) := by decide +kernel
theorem dX14_outRow_359 : decode cX14_outRow 359 = .ok (.ior, 1) := by decide +kernel
theorem dX14_outRow_360 : decode cX14_outRow 360 = .ok (.i2l, 1) := by decide +kernel
theorem dX14_outRow_361 : decode cX14_outRow 361 = .ok (.iconst 3, 1) := by decide +kernel
theorem dX14_outRow_362 : decode cX14_outRow 362 = .ok (.invokevirtual 908, 3) := by decide +kernel
theorem dX14_outRow_365 : decode cX14_outRow 365 = .ok (.goto 28, 3) := by decide +kernel
theorem dX14_outRow_368 : decode cX14_outRow 368 = .ok (.iload_n 2, 1) := by decide +kernel
theorem dX14_outRow_369 : decode cX14_outRow 369 = .ok (.sipush 188, 3) := by decide +kernel
theorem dX14_outRow_372 : decode cX14_outRow 372 = .ok (.if_icmp .ne 14, 3) := by decide +kernel
theorem dX14_outRow_375 : decode cX14_outRow 375 = .ok (.aload_n 0, 1) := by decide +kernel
theorem dX14_outRow_376 : decode cX14_outRow 376 = .ok (.ldc2_w 922, 3) := by decide +kernel
theorem dX14_outRow_379 : decode cX14_outRow 379 = .ok (.iconst 2, 1) := by decide +kernel
theorem dX14_outRow_380 : decode cX14_outRow 380 = .ok (.invokevirtual 908, 3) := by decide +kernel
theorem dX14_outRow_383 : decode cX14_outRow 383 = .ok (.goto 10, 3) := by decide +kernel
theorem dX14_outRow_386 : decode cX14_outRow 386 = .ok (.aload_n 0, 1) := by decide +kernel
theorem dX14_outRow_387 : decode cX14_outRow 387 = .ok (.iload_n 2, 1) := by decide +kernel
theorem dX14_outRow_388 : decode cX14_outRow 388 = .ok (.i2l, 1) := by decide +kernel
theorem dX14_outRow_389 : decode cX14_outRow 389 = .ok (.iconst 1, 1) := by decide +kernel
theorem dX14_outRow_390 : decode cX14_outRow 390 = .ok (.invokevirtual 908, 3) := by decide +kernel
theorem dX14_outRow_393 : decode cX14_outRow 393 = .ok (.return_, 1) := by decide +kernel
theorem dX14_outSwitch_0 : decode cX14_outSwitch 0 = .ok (.aload_n 0, 1) := by decide +kernel
theorem dX14_outSwitch_1 : decode cX14_outSwitch 1 = .ok (.aload_n 0, 1) := by decide +kernel
theorem dX14_outSwitch_2 : decode cX14_outSwitch 2 = .ok (.iload_n 1, 1) := by decide +kernel
theorem dX14_outSwitch_3 : decode cX14_outSwitch 3 = .ok (.invokevirtual 685, 3) := by decide +kernel
theorem dX14_outSwitch_6 : decode cX14_outSwitch 6 = .ok (.i2l, 1) := by decide +kernel
theorem dX14_outSwitch_7 : decode cX14_outSwitch 7 = .ok (.iconst 1, 1) := by decide +kernel
theorem dX14_outSwitch_8 : decode cX14_outSwitch 8 = .ok (.invokevirtual 908, 3) := by decide +kernel
theorem dX14_outSwitch_11 : decode cX14_outSwitch 11 = .ok (.aload_n 0, 1) := by decide +kernel
theorem dX14_outSwitch_12 : decode cX14_outSwitch 12 = .ok (.lconst 0, 1) := by decide +kernel
theorem dX14_outSwitch_13 : decode cX14_outSwitch 13 = .ok (.iload_n 2, 1) := by decide +kernel
theorem dX14_outSwitch_14 : decode cX14_outSwitch 14 = .ok (.invokestatic 442, 3) := by decide +kernel
theorem dX14_outSwitch_17 : decode cX14_outSwitch 17 = .ok (.iload_n 2, 1) := by decide +kernel
theorem dX14_outSwitch_18 : decode cX14_outSwitch 18 = .ok (.isub, 1) := by decide +kernel
theorem dX14_outSwitch_19 : decode cX14_outSwitch 19 = .ok (.iconst 1, 1) := by decide +kernel
theorem dX14_outSwitch_20 : decode cX14_outSwitch 20 = .ok (.isub, 1) := by decide +kernel
theorem dX14_outSwitch_21 : decode cX14_outSwitch 21 = .ok (.invokevirtual 908, 3) := by decide +kernel
theorem dX14_outSwitch_24 : decode cX14_outSwitch 24 = .ok (.aload_n 0, 1) := by decide +kernel
theorem dX14_outSwitch_25 : decode cX14_outSwitch 25 = .ok (.iload_n 1, 1) := by decide +kernel
theorem dX14_outSwitch_26 : decode cX14_outSwitch 26 = .ok (.invokevirtual 697, 3) := by decide +kernel
theorem dX14_outSwitch_29 : decode cX14_outSwitch 29 = .ok (.istore_n 3, 1) := by decide +kernel
theorem dX14_outSwitch_30 : decode cX14_outSwitch 30 = .ok (.aload_n 0, 1) := by decide +kernel
theorem dX14_outSwitch_31 : decode cX14_outSwitch 31 = .ok (.iload_n 1, 1) := by decide +kernel
theorem dX14_outSwitch_32 : decode cX14_outSwitch 32 = .ok (.invokevirtual 694, 3) := by decide +kernel
theorem dX14_outSwitch_35 : decode cX14_outSwitch 35 = .ok (.istore 4, 2) := by decide +kernel
theorem dX14_outSwitch_37 : decode cX14_outSwitch 37 = .ok (.aload_n 0, 1) := by decide +kernel
theorem dX14_outSwitch_38 : decode cX14_outSwitch 38 = .ok (.aload_n 0, 1) := by decide +kernel
theorem dX14_outSwitch_39 : decode cX14_outSwitch 39 = .ok (.getfield 143, 3) := by decide +kernel
theorem dX14_outSwitch_42 : decode cX14_outSwitch 42 = .ok (.aload_n 0, 1) := by decide +kernel
theorem dX14_outSwitch_43 : decode cX14_outSwitch 43 = .ok (.getfield 668, 3) := by decide +kernel
theorem dX14_outSwitch_46 : decode cX14_outSwitch 46 = .ok (.iload_n 3, 1) := by decide +kernel
theorem dX14_outSwitch_47 : decode cX14_outSwitch 47 = .ok (.iaload, 1) := by decide +kernel
theorem dX14_outSwitch_48 : decode cX14_outSwitch 48 = .ok (.iaload, 1) := by decide +kernel
theorem dX14_outSwitch_49 : decode cX14_outSwitch 49 = .ok (.iload_n 2, 1) := by decide +kernel
theorem dX14_outSwitch_50 : decode cX14_outSwitch 50 = .ok (.isub, 1) := by decide +kernel
theorem dX14_outSwitch_51 : decode cX14_outSwitch 51 = .ok (.i2l, 1) := by decide +kernel
theorem dX14_outSwitch_52 : decode cX14_outSwitch 52 = .ok (.iconst 4, 1) := by decide +kernel
theorem dX14_outSwitch_53 : decode cX14_outSwitch 53 = .ok (.invokevirtual 908, 3) := by decide +kernel
theorem dX14_outSwitch_56 : decode cX14_outSwitch 56 = .ok (.aload_n 0, 1) := by decide +kernel
theorem dX14_outSwitch_57 : decode cX14_outSwitch 57 = .ok (.iload_n 1, 1) := by decide +kernel
theorem dX14_outSwitch_58 : decode cX14_outSwitch 58 = .ok (.invokevirtual 685, 3) := by decide +kernel
theorem dX14_outSwitch_61 : decode cX14_outSwitch 61 = .ok (.sipush 170, 3) := by decide +kernel
theorem dX14_outSwitch_64 : decode cX14_outSwitch 64 = .ok (.if_icmp .ne 39, 3) := by decide +kernel
theorem dX14_outSwitch_67 : decode cX14_outSwitch 67 = .ok (.aload_n 0, 1) := by decide +kernel
theorem dX14_outSwitch_68 : decode cX14_outSwitch 68 = .ok (.aload_n 0, 1) := by decide +kernel
theorem dX14_outSwitch_69 : decode cX14_outSwitch 69 = .ok (.getfield 668, 3) := by decide +kernel
theorem dX14_outSwitch_72 : decode cX14_outSwitch 72 = .ok (.iload_n 3, 1) := by decide +kernel
theorem dX14_outSwitch_73 : decode cX14_outSwitch 73 = .ok (.iconst 1, 1) := by decide +kernel
theorem dX14_outSwitch_74 : decode cX14_outSwitch 74 = .ok (.iadd, 1) := by decide +kernel
theorem dX14_outSwitch_75 : decode cX14_outSwitch 75 = .ok (.iaload, 1) := by decide +kernel
theorem dX14_outSwitch_76 : decode cX14_outSwitch 76 = .ok (.i2l, 1) := by decide +kernel
theorem dX14_outSwitch_77 : decode cX14_outSwitch 77 = .ok (.iconst 4, 1) := by decide +kernel
theorem dX14_outSwitch_78 : decode cX14_outSwitch 78 = .ok (.invokevirtual 908, 3) := by decide +kernel
theorem dX14_outSwitch_81 : decode cX14_outSwitch 81 = .ok (.aload_n 0, 1) := by decide +kernel
theorem dX14_outSwitch_82 : decode cX14_outSwitch 82 = .ok (.aload_n 0, 1) := by decide +kernel
theorem dX14_outSwitch_83 : decode cX14_outSwitch 83 = .ok (.getfield 668, 3) := by decide +kernel
theorem dX14_outSwitch_86 : decode cX14_outSwitch 86 = .ok (.iload_n 3, 1) := by decide +kernel
theorem dX14_outSwitch_87 : decode cX14_outSwitch 87 = .ok (.iconst 1, 1) := by decide +kernel
theorem dX14_outSwitch_88 : decode cX14_outSwitch 88 = .ok (.iadd, 1) := by decide +kernel
theorem dX14_outSwitch_89 : decode cX14_outSwitch 89 = .ok (.iaload, 1) := by decide +kernel
theorem dX14_outSwitch_90 : decode cX14_outSwitch 90 = .ok (.iload 4, 2) := by decide +kernel
theorem dX14_outSwitch_92 : decode cX14_outSwitch 92 = .ok (.iadd, 1) := by decide +kernel
theorem dX14_outSwitch_93 : decode cX14_outSwitch 93 = .ok (.iconst 1, 1) := by decide +kernel
theorem dX14_outSwitch_94 : decode cX14_outSwitch 94 = .ok (.isub, 1) := by decide +kernel
theorem dX14_outSwitch_95 : decode cX14_outSwitch 95 = .ok (.i2l, 1) := by decide +kernel
theorem dX14_outSwitch_96 : decode cX14_outSwitch 96 = .ok (.iconst 4, 1) := by decide +kernel
theorem dX14_outSwitch_97 : decode cX14_outSwitch 97 = .ok (.invokevirtual 908, 3) := by decide +kernel
theorem dX14_outSwitch_100 : decode cX14_outSwitch 100 = .ok (.goto 11, 3) := by decide +kernel
theorem dX14_outSwitch_103 : decode cX14_outSwitch 103 = .ok (.aload_n 0, 1) := by decide +kernel
theorem dX14_outSwitch_104 : decode cX14_outSwitch 104 = .ok (.iload 4, 2) := by decide +kernel
theorem dX14_outSwitch_106 : decode cX14_outSwitch 106 = .ok (.i2l, 1) := by decide +kernel
theorem dX14_outSwitch_107 : decode cX14_outSwitch 107 = .ok (.iconst 4, 1) := by decide +kernel
theorem dX14_outSwitch_108 : decode cX14_outSwitch 108 = .ok (.invokevirtual 908, 3) := by decide +kernel
theorem dX14_outSwitch_111 : decode cX14_outSwitch 111 = .ok (.iconst 0, 1) := by decide +kernel
theorem dX14_outSwitch_112 : decode cX14_outSwitch 112 = .ok (.istore 5, 2) := by decide +kernel
theorem dX14_outSwitch_114 : decode cX14_outSwitch 114 = .ok (.iload 5, 2) := by decide +kernel
theorem dX14_outSwitch_116 : decode cX14_outSwitch 116 = .ok (.iload 4, 2) := by decide +kernel
theorem dX14_outSwitch_118 : decode cX14_outSwitch 118 = .ok (.if_icmp .ge 65, 3) := by decide +kernel
theorem dX14_outSwitch_121 : decode cX14_outSwitch 121 = .ok (.aload_n 0, 1) := by decide +kernel
theorem dX14_outSwitch_122 : decode cX14_outSwitch 122 = .ok (.iload_n 1, 1) := by decide +kernel
theorem dX14_outSwitch_123 : decode cX14_outSwitch 123 = .ok (.invokevirtual 685, 3) := by decide +kernel
theorem dX14_outSwitch_126 : decode cX14_outSwitch 126 = .ok (.sipush 171, 3) := by decide +kernel
theorem dX14_outSwitch_129 : decode cX14_outSwitch 129 = .ok (.if_icmp .ne 22, 3) := by decide +kernel
theorem dX14_outSwitch_132 : decode cX14_outSwitch 132 = .ok (.aload_n 0, 1) := by decide +kernel
theorem dX14_outSwitch_133 : decode cX14_outSwitch 133 = .ok (.aload_n 0, 1) := by decide +kernel
theorem dX14_outSwitch_134 : decode cX14_outSwitch 134 = .ok (.getfield 668, 3) := by decide +kernel
theorem dX14_outSwitch_137 : decode cX14_outSwitch 137 = .ok (.iload_n 3, 1) := by decide +kernel
theorem dX14_outSwitch_138 : decode cX14_outSwitch 138 = .ok (.iconst 1, 1) := by decide +kernel
theorem dX14_outSwitch_139 : decode cX14_outSwitch 139 = .ok (.iadd, 1) := by decide +kernel
theorem dX14_outSwitch_140 : decode cX14_outSwitch 140 = .ok (.iconst 2, 1) := by decide +kernel
theorem dX14_outSwitch_141 : decode cX14_outSwitch 141 = .ok (.iload 5, 2) := by decide +kernel
theorem dX14_outSwitch_143 : decode cX14_outSwitch 143 = .ok (.imul, 1) := by decide +kernel
theorem dX14_outSwitch_144 : decode cX14_outSwitch 144 = .ok (.iadd, 1) := by decide +kernel
theorem dX14_outSwitch_145 : decode cX14_outSwitch 145 = .ok (.iaload, 1) := by decide +kernel
theorem dX14_outSwitch_146 : decode cX14_outSwitch 146 = .ok (.i2l, 1) := by decide +kernel
theorem dX14_outSwitch_147 : decode cX14_outSwitch 147 = .ok (.iconst 4, 1) := by decide +kernel
theorem dX14_outSwitch_148 : decode cX14_outSwitch 148 = .ok (.invokevirtual 908, 3) := by decide +kernel
theorem dX14_outSwitch_151 : decode cX14_outSwitch 151 = .ok (.aload_n 0, 1) := by decide +kernel
theorem dX14_outSwitch_152 : decode cX14_outSwitch 152 = .ok (.aload_n 0, 1) := by decide +kernel
theorem dX14_outSwitch_153 : decode cX14_outSwitch 153 = .ok (.getfield 143, 3) := by decide +kernel
theorem dX14_outSwitch_156 : decode cX14_outSwitch 156 = .ok (.aload_n 0, 1) := by decide +kernel
theorem dX14_outSwitch_157 : decode cX14_outSwitch 157 = .ok (.getfield 668, 3) := by decide +kernel
theorem dX14_outSwitch_160 : decode cX14_outSwitch 160 = .ok (.iload_n 3, 1) := by decide +kernel
theorem dX14_outSwitch_161 : decode cX14_outSwitch 161 = .ok (.iconst 2, 1) := by decide +kernel
theorem dX14_outSwitch_162 : decode cX14_outSwitch 162 = .ok (.iadd, 1) := by decide +kernel
theorem dX14_outSwitch_163 : decode cX14_outSwitch 163 = .ok (.iconst 2, 1) := by decide +kernel
theorem dX14_outSwitch_164 : decode cX14_outSwitch 164 = .ok (.iload 5, 2) := by decide +kernel
theorem dX14_outSwitch_166 : decode cX14_outSwitch 166 = .ok (.imul, 1) := by decide +kernel
theorem dX14_outSwitch_167 : decode cX14_outSwitch 167 = .ok (.iadd, 1) := by decide +kernel
theorem dX14_outSwitch_168 : decode cX14_outSwitch 168 = .ok (.iaload, 1) := by decide +kernel
theorem dX14_outSwitch_169 : decode cX14_outSwitch 169 = .ok (.iaload, 1) := by decide +kernel
theorem dX14_outSwitch_170 : decode cX14_outSwitch 170 = .ok (.iload_n 2, 1) := by decide +kernel
theorem dX14_outSwitch_171 : decode cX14_outSwitch 171 = .ok (.isub, 1) := by decide +kernel
theorem dX14_outSwitch_172 : decode cX14_outSwitch 172 = .ok (.i2l, 1) := by decide +kernel
theorem dX14_outSwitch_173 : decode cX14_outSwitch 173 = .ok (.iconst 4, 1) := by decide +kernel
theorem dX14_outSwitch_174 : decode cX14_outSwitch 174 = .ok (.invokevirtual 908, 3) := by decide +kernel
theorem dX14_outSwitch_177 : decode cX14_outSwitch 177 = .ok (.iinc 5 1, 3) := by decide +kernel
theorem dX14_outSwitch_180 : decode cX14_outSwitch 180 = .ok (.goto (-66), 3) := by decide +kernel
theorem dX14_outSwitch_183 : decode cX14_outSwitch 183 = .ok (.return_, 1) := by decide +kernel
theorem dX14_over_0 : decode cX14_over 0 = .ok (.aload_n 0, 1) := by decide +kernel
theorem dX14_over_1 : decode cX14_over 1 = .ok (.getfield 319, 3) := by decide +kernel
theorem dX14_over_4 : decode cX14_over 4 = .ok (.i2l, 1) := by decide +kernel
theorem dX14_over_5 : decode cX14_over 5 = .ok (.lload_n 1, 1) := by decide +kernel
theorem dX14_over_6 : decode cX14_over 6 = .ok (.ladd, 1) := by decide +kernel
theorem dX14_over_7 : decode cX14_over 7 = .ok (.aload_n 0, 1) := by decide +kernel
theorem dX14_over_8 : decode cX14_over 8 = .ok (.getfield 322, 3) := by decide +kernel
theorem dX14_over_11 : decode cX14_over 11 = .ok (.i2l, 1) := by decide +kernel
theorem dX14_over_12 : decode cX14_over 12 = .ok (.lcmp, 1) := by decide +kernel
theorem dX14_over_13 : decode cX14_over 13 = .ok (.ifCond .le 13, 3) := by decide +kernel
theorem dX14_over_16 : decode cX14_over 16 = .ok (.aload_n 0, 1) := by decide +kernel
theorem dX14_over_17 : decode cX14_over 17 = .ok (.iconst 2, 1) := by decide +kernel
theorem dX14_over_18 : decode cX14_over 18 = .ok (.aload_n 0, 1) := by decide +kernel
theorem dX14_over_19 : decode cX14_over 19 = .ok (.getfield 322, 3) := by decide +kernel
theorem dX14_over_22 : decode cX14_over 22 = .ok (.invokevirtual 302, 3) := by decide +kernel
theorem dX14_over_25 : decode cX14_over 25 = .ok (.athrow, 1) := by decide +kernel
theorem dX14_over_26 : decode cX14_over 26 = .ok (.aload_n 0, 1) := by decide +kernel
theorem dX14_over_27 : decode cX14_over 27 = .ok (.getfield 319, 3) := by decide +kernel
theorem dX14_over_30 : decode cX14_over 30 = .ok (.istore_n 3, 1) := by decide +kernel
theorem dX14_over_31 : decode cX14_over 31 = .ok (.aload_n 0, 1) := by decide +kernel
theorem dX14_over_32 : decode cX14_over 32 = .ok (.dup, 1) := by decide +kernel
theorem dX14_over_33 : decode cX14_over 33 = .ok (.getfield 319, 3) := by decide +kernel
theorem dX14_over_36 : decode cX14_over 36 = .ok (.lload_n 1, 1) := by decide +kernel
theorem dX14_over_37 : decode cX14_over 37 = .ok (.l2i, 1) := by decide +kernel
theorem dX14_over_38 : decode cX14_over 38 = .ok (.iadd, 1) := by decide +kernel
theorem dX14_over_39 : decode cX14_over 39 = .ok (.putfield 319, 3) := by decide +kernel
theorem dX14_over_42 : decode cX14_over 42 = .ok (.iload_n 3, 1) := by decide +kernel
theorem dX14_over_43 : decode cX14_over 43 = .ok (.ireturn, 1) := by decide +kernel
theorem dX14_parameterPlaces_0 : decode cX14_parameterPlaces 0 = .ok (.aload_n 0, 1) := by decide +kernel
theorem dX14_parameterPlaces_1 : decode cX14_parameterPlaces 1 = .ok (.iload_n 1, 1) := by decide +kernel
theorem dX14_parameterPlaces_2 : decode cX14_parameterPlaces 2 = .ok (.iconst 0, 1) := by decide +kernel
theorem dX14_parameterPlaces_3 : decode cX14_parameterPlaces 3 = .ok (.invokevirtual 387, 3) := by decide +kernel
theorem dX14_parameterPlaces_6 : decode cX14_parameterPlaces 6 = .ok (.bipush 40, 2) := by decide +kernel
theorem dX14_parameterPlaces_8 : decode cX14_parameterPlaces 8 = .ok (.if_icmp .eq 5, 3) := by decide +kernel
theorem dX14_parameterPlaces_11 : decode cX14_parameterPlaces 11 = .ok (.iconst (-1), 1) := by decide +kernel
theorem dX14_parameterPlaces_12 : decode cX14_parameterPlaces 12 = .ok (.ireturn, 1) := by decide +kernel
theorem dX14_parameterPlaces_13 : decode cX14_parameterPlaces 13 = .ok (.iconst 1, 1) := by decide +kernel
theorem dX14_parameterPlaces_14 : decode cX14_parameterPlaces 14 = .ok (.istore_n 2, 1) := by decide +kernel
theorem dX14_parameterPlaces_15 : decode cX14_parameterPlaces 15 = .ok (.iconst 0, 1) := by decide +kernel
theorem dX14_parameterPlaces_16 : decode cX14_parameterPlaces 16 = .ok (.istore_n 3, 1) := by decide +kernel
theorem dX14_parameterPlaces_17 : decode cX14_parameterPlaces 17 = .ok (.aload_n 0, 1) := by decide +kernel
theorem dX14_parameterPlaces_18 : decode cX14_parameterPlaces 18 = .ok (.iload_n 1, 1) := by decide +kernel
theorem dX14_parameterPlaces_19 : decode cX14_parameterPlaces 19 = .ok (.iload_n 2, 1) := by decide +kernel
theorem dX14_parameterPlaces_20 : decode cX14_parameterPlaces 20 = .ok (.invokevirtual 391, 3) := by decide +kernel
theorem dX14_parameterPlaces_23 : decode cX14_parameterPlaces 23 = .ok (.ifCond .le 34, 3) := by decide +kernel
theorem dX14_parameterPlaces_26 : decode cX14_parameterPlaces 26 = .ok (.iload_n 3, 1) := by decide +kernel
theorem dX14_parameterPlaces_27 : decode cX14_parameterPlaces 27 = .ok (.aload_n 0, 1) := by decide +kernel
theorem dX14_parameterPlaces_28 : decode cX14_parameterPlaces 28 = .ok (.iload_n 1, 1) := by decide +kernel
theorem dX14_parameterPlaces_29 : decode cX14_parameterPlaces 29 = .ok (.iload_n 2, 1) := by decide +kernel
theorem dX14_parameterPlaces_30 : decode cX14_parameterPlaces 30 = .ok (.invokevirtual 387, 3) := by decide +kernel
theorem dX14_parameterPlaces_33 : decode cX14_parameterPlaces 33 = .ok (.bipush 74, 2) := by decide +kernel
theorem dX14_parameterPlaces_35 : decode cX14_parameterPlaces 35 = .ok (.if_icmp .ne 7, 3) := by decide +kernel
theorem dX14_parameterPlaces_38 : decode cX14_parameterPlaces 38 = .ok (.iconst 2, 1) := by decide +kernel
theorem dX14_parameterPlaces_39 : decode cX14_parameterPlaces 39 = .ok (.goto 4, 3) := by decide +kernel
theorem dX14_parameterPlaces_42 : decode cX14_parameterPlaces 42 = .ok (.iconst 1, 1) := by decide +kernel
theorem dX14_parameterPlaces_43 : decode cX14_parameterPlaces 43 = .ok (.iadd, 1) := by decide +kernel
theorem dX14_parameterPlaces_44 : decode cX14_parameterPlaces 44 = .ok (.istore_n 3, 1) := by decide +kernel
theorem dX14_parameterPlaces_45 : decode cX14_parameterPlaces 45 = .ok (.iload_n 2, 1) := by decide +kernel
theorem dX14_parameterPlaces_46 : decode cX14_parameterPlaces 46 = .ok (.aload_n 0, 1) := by decide +kernel
theorem dX14_parameterPlaces_47 : decode cX14_parameterPlaces 47 = .ok (.iload_n 1, 1) := by decide +kernel
theorem dX14_parameterPlaces_48 : decode cX14_parameterPlaces 48 = .ok (.iload_n 2, 1) := by decide +kernel
theorem dX14_parameterPlaces_49 : decode cX14_parameterPlaces 49 = .ok (.invokevirtual 391, 3) := by decide +kernel
theorem dX14_parameterPlaces_52 : decode cX14_parameterPlaces 52 = .ok (.iadd, 1) := by decide +kernel
theorem dX14_parameterPlaces_53 : decode cX14_parameterPlaces 53 = .ok (.istore_n 2, 1) := by decide +kernel
theorem dX14_parameterPlaces_54 : decode cX14_parameterPlaces 54 = .ok (.goto (-37), 3) := by decide +kernel
theorem dX14_parameterPlaces_57 : decode cX14_parameterPlaces 57 = .ok (.aload_n 0, 1) := by decide +kernel
theorem dX14_parameterPlaces_58 : decode cX14_parameterPlaces 58 = .ok (.iload_n 1, 1) := by decide +kernel
theorem dX14_parameterPlaces_59 : decode cX14_parameterPlaces 59 = .ok (.iload_n 2, 1) := by decide +kernel
theorem dX14_parameterPlaces_60 : decode cX14_parameterPlaces 60 = .ok (.invokevirtual 387, 3) := by decide +kernel
theorem dX14_parameterPlaces_63 : decode cX14_parameterPlaces 63 = .ok (.bipush 41, 2) := by decide +kernel
theorem dX14_parameterPlaces_65 : decode cX14_parameterPlaces 65 = .ok (.if_icmp .eq 5, 3) := by decide +kernel
theorem dX14_parameterPlaces_68 : decode cX14_parameterPlaces 68 = .ok (.iconst (-1), 1) := by decide +kernel
theorem dX14_parameterPlaces_69 : decode cX14_parameterPlaces 69 = .ok (.ireturn, 1) := by decide +kernel
theorem dX14_parameterPlaces_70 : decode cX14_parameterPlaces 70 = .ok (.iinc 2 1, 3) := by decide +kernel
theorem dX14_parameterPlaces_73 : decode cX14_parameterPlaces 73 = .ok (.aload_n 0, 1) := by decide +kernel
theorem dX14_parameterPlaces_74 : decode cX14_parameterPlaces 74 = .ok (.iload_n 1, 1) := by decide +kernel
theorem dX14_parameterPlaces_75 : decode cX14_parameterPlaces 75 = .ok (.iload_n 2, 1) := by decide +kernel
theorem dX14_parameterPlaces_76 : decode cX14_parameterPlaces 76 = .ok (.invokevirtual 387, 3) := by decide +kernel
theorem dX14_parameterPlaces_79 : decode cX14_parameterPlaces 79 = .ok (.bipush 86, 2) := by decide +kernel
theorem dX14_parameterPlaces_81 : decode cX14_parameterPlaces 81 = .ok (.if_icmp .ne 7, 3) := by decide +kernel
theorem dX14_parameterPlaces_84 : decode cX14_parameterPlaces 84 = .ok (.iconst 1, 1) := by decide +kernel
theorem dX14_parameterPlaces_85 : decode cX14_parameterPlaces 85 = .ok (.goto 9, 3) := by decide +kernel
theorem dX14_parameterPlaces_88 : decode cX14_parameterPlaces 88 = .ok (.aload_n 0, 1) := by decide +kernel
theorem dX14_parameterPlaces_89 : decode cX14_parameterPlaces 89 = .ok (.iload_n 1, 1) := by decide +kernel
theorem dX14_parameterPlaces_90 : decode cX14_parameterPlaces 90 = .ok (.iload_n 2, 1) := by decide +kernel
theorem dX14_parameterPlaces_91 : decode cX14_parameterPlaces 91 = .ok (.invokevirtual 391, 3) := by decide +kernel
theorem dX14_parameterPlaces_94 : decode cX14_parameterPlaces 94 = .ok (.istore 4, 2) := by decide +kernel
theorem dX14_parameterPlaces_96 : decode cX14_parameterPlaces 96 = .ok (.iload 4, 2) := by decide +kernel
theorem dX14_parameterPlaces_98 : decode cX14_parameterPlaces 98 = .ok (.ifCond .le 20, 3) := by decide +kernel
theorem dX14_parameterPlaces_101 : decode cX14_parameterPlaces 101 = .ok (.iload_n 2, 1) := by decide +kernel
theorem dX14_parameterPlaces_102 : decode cX14_parameterPlaces 102 = .ok (.iload 4, 2) := by decide +kernel
theorem dX14_parameterPlaces_104 : decode cX14_parameterPlaces 104 = .ok (.iadd, 1) := by decide +kernel
theorem dX14_parameterPlaces_105 : decode cX14_parameterPlaces 105 = .ok (.aload_n 0, 1) := by decide +kernel
theorem dX14_parameterPlaces_106 : decode cX14_parameterPlaces 106 = .ok (.getfield 40, 3) := by decide +kernel
theorem dX14_parameterPlaces_109 : decode cX14_parameterPlaces 109 = .ok (.iload_n 1, 1) := by decide +kernel
theorem dX14_parameterPlaces_110 : decode cX14_parameterPlaces 110 = .ok (.iaload, 1) := by decide +kernel
theorem dX14_parameterPlaces_111 : decode cX14_parameterPlaces 111 = .ok (.if_icmp .ne 7, 3) := by decide +kernel
theorem dX14_parameterPlaces_114 : decode cX14_parameterPlaces 114 = .ok (.iload_n 3, 1) := by decide +kernel
theorem dX14_parameterPlaces_115 : decode cX14_parameterPlaces 115 = .ok (.goto 4, 3) := by decide +kernel
theorem dX14_parameterPlaces_118 : decode cX14_parameterPlaces 118 = .ok (.iconst (-1), 1) := by decide +kernel
theorem dX14_parameterPlaces_119 : decode cX14_parameterPlaces 119 = .ok (.ireturn, 1) := by decide +kernel
theorem dX14_pass_0 : decode cX14_pass 0 = .ok (.aload_n 0, 1) := by decide +kernel
theorem dX14_pass_1 : decode cX14_pass 1 = .ok (.invokevirtual 1148, 3) := by decide +kernel
theorem dX14_pass_4 : decode cX14_pass 4 = .ok (.iload_n 1, 1) := by decide +kernel
theorem dX14_pass_5 : decode cX14_pass 5 = .ok (.iconst 1, 1) := by decide +kernel
theorem dX14_pass_6 : decode cX14_pass 6 = .ok (.if_icmp .ne 8, 3) := by decide +kernel
theorem dX14_pass_9 : decode cX14_pass 9 = .ok (.aload_n 0, 1) := by decide +kernel
theorem dX14_pass_10 : decode cX14_pass 10 = .ok (.invokevirtual 1151, 3) := by decide +kernel
theorem dX14_pass_13 : decode cX14_pass 13 = .ok (.ireturn, 1) := by decide +kernel
theorem dX14_pass_14 : decode cX14_pass 14 = .ok (.iload_n 1, 1) := by decide +kernel
theorem dX14_pass_15 : decode cX14_pass 15 = .ok (.bipush 10, 2) := by decide +kernel
theorem dX14_pass_17 : decode cX14_pass 17 = .ok (.if_icmp .lt 7, 3) := by decide +kernel
theorem dX14_pass_20 : decode cX14_pass 20 = .ok (.aload_n 0, 1) := by decide +kernel
theorem dX14_pass_21 : decode cX14_pass 21 = .ok (.invokevirtual 1155, 3) := by decide +kernel
theorem dX14_pass_24 : decode cX14_pass 24 = .ok (.iconst 0, 1) := by decide +kernel
theorem dX14_pass_25 : decode cX14_pass 25 = .ok (.istore_n 2, 1) := by decide +kernel

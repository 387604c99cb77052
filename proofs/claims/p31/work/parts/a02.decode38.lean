theorem dX2_pointersHold_114 : decode cX2_pointersHold 114 = .ok (.imul, 1) := by decide +kernel
theorem dX2_pointersHold_115 : decode cX2_pointersHold 115 = .ok (.iadd, 1) := by decide +kernel
theorem dX2_pointersHold_116 : decode cX2_pointersHold 116 = .ok (.invokevirtual 86, 3) := by decide +kernel
theorem dX2_pointersHold_119 : decode cX2_pointersHold 119 = .ok (.ireturn, 1) := by decide +kernel
theorem dX2_pointersHold_120 : decode cX2_pointersHold 120 = .ok (.iinc 2 1, 3) := by decide +kernel
theorem dX2_pointersHold_123 : decode cX2_pointersHold 123 = .ok (.goto (-46), 3) := by decide +kernel
theorem dX2_pointersHold_126 : decode cX2_pointersHold 126 = .ok (.iinc 1 1, 3) := by decide +kernel
theorem dX2_pointersHold_129 : decode cX2_pointersHold 129 = .ok (.goto (-127), 3) := by decide +kernel
theorem dX2_pointersHold_132 : decode cX2_pointersHold 132 = .ok (.iconst 1, 1) := by decide +kernel
theorem dX2_pointersHold_133 : decode cX2_pointersHold 133 = .ok (.ireturn, 1) := by decide +kernel
theorem dX2_pointsWell_0 : decode cX2_pointsWell 0 = .ok (.aload_n 0, 1) := by decide +kernel
theorem dX2_pointsWell_1 : decode cX2_pointsWell 1 = .ok (.getfield 169, 3) := by decide +kernel
theorem dX2_pointsWell_4 : decode cX2_pointsWell 4 = .ok (.invokestatic 181, 3) := by decide +kernel
theorem dX2_pointsWell_7 : decode cX2_pointsWell 7 = .ok (.ifCond .eq 12, 3) := by decide +kernel
theorem dX2_pointsWell_10 : decode cX2_pointsWell 10 = .ok (.aload_n 0, 1) := by decide +kernel
theorem dX2_pointsWell_11 : decode cX2_pointsWell 11 = .ok (.aload_n 0, 1) := by decide +kernel
theorem dX2_pointsWell_12 : decode cX2_pointsWell 12 = .ok (.getfield 172, 3) := by decide +kernel
theorem dX2_pointsWell_15 : decode cX2_pointsWell 15 = .ok (.invokevirtual 221, 3) := by decide +kernel
theorem dX2_pointsWell_18 : decode cX2_pointsWell 18 = .ok (.ireturn, 1) := by decide +kernel
theorem dX2_pointsWell_19 : decode cX2_pointsWell 19 = .ok (.aload_n 0, 1) := by decide +kernel
theorem dX2_pointsWell_20 : decode cX2_pointsWell 20 = .ok (.getfield 169, 3) := by decide +kernel
theorem dX2_pointsWell_23 : decode cX2_pointsWell 23 = .ok (.invokestatic 184, 3) := by decide +kernel
theorem dX2_pointsWell_26 : decode cX2_pointsWell 26 = .ok (.ifCond .eq 8, 3) := by decide +kernel
theorem dX2_pointsWell_29 : decode cX2_pointsWell 29 = .ok (.aload_n 0, 1) := by decide +kernel
theorem dX2_pointsWell_30 : decode cX2_pointsWell 30 = .ok (.invokevirtual 225, 3) := by decide +kernel
theorem dX2_pointsWell_33 : decode cX2_pointsWell 33 = .ok (.ireturn, 1) := by decide +kernel
theorem dX2_pointsWell_34 : decode cX2_pointsWell 34 = .ok (.aload_n 0, 1) := by decide +kernel
theorem dX2_pointsWell_35 : decode cX2_pointsWell 35 = .ok (.getfield 169, 3) := by decide +kernel
theorem dX2_pointsWell_38 : decode cX2_pointsWell 38 = .ok (.invokestatic 192, 3) := by decide +kernel
theorem dX2_pointsWell_41 : decode cX2_pointsWell 41 = .ok (.ifCond .eq 33, 3) := by decide +kernel
theorem dX2_pointsWell_44 : decode cX2_pointsWell 44 = .ok (.aload_n 0, 1) := by decide +kernel
theorem dX2_pointsWell_45 : decode cX2_pointsWell 45 = .ok (.getfield 172, 3) := by decide +kernel
theorem dX2_pointsWell_48 : decode cX2_pointsWell 48 = .ok (.l2i, 1) := by decide +kernel
theorem dX2_pointsWell_49 : decode cX2_pointsWell 49 = .ok (.sipush 255, 3) := by decide +kernel
theorem dX2_pointsWell_52 : decode cX2_pointsWell 52 = .ok (.iand, 1) := by decide +kernel
theorem dX2_pointsWell_53 : decode cX2_pointsWell 53 = .ok (.aload_n 0, 1) := by decide +kernel
theorem dX2_pointsWell_54 : decode cX2_pointsWell 54 = .ok (.getfield 169, 3) := by decide +kernel
theorem dX2_pointsWell_57 : decode cX2_pointsWell 57 = .ok (.invokestatic 228, 3) := by decide +kernel
theorem dX2_pointsWell_60 : decode cX2_pointsWell 60 = .ok (.iadd, 1) := by decide +kernel
theorem dX2_pointsWell_61 : decode cX2_pointsWell 61 = .ok (.aload_n 0, 1) := by decide +kernel
theorem dX2_pointsWell_62 : decode cX2_pointsWell 62 = .ok (.getfield 108, 3) := by decide +kernel
theorem dX2_pointsWell_65 : decode cX2_pointsWell 65 = .ok (.if_icmp .gt 7, 3) := by decide +kernel
theorem dX2_pointsWell_68 : decode cX2_pointsWell 68 = .ok (.iconst 1, 1) := by decide +kernel
theorem dX2_pointsWell_69 : decode cX2_pointsWell 69 = .ok (.goto 4, 3) := by decide +kernel
theorem dX2_pointsWell_72 : decode cX2_pointsWell 72 = .ok (.iconst 0, 1) := by decide +kernel
theorem dX2_pointsWell_73 : decode cX2_pointsWell 73 = .ok (.ireturn, 1) := by decide +kernel
theorem dX2_pointsWell_74 : decode cX2_pointsWell 74 = .ok (.aload_n 0, 1) := by decide +kernel
theorem dX2_pointsWell_75 : decode cX2_pointsWell 75 = .ok (.getfield 169, 3) := by decide +kernel
theorem dX2_pointsWell_78 : decode cX2_pointsWell 78 = .ok (.lookupswitch 134 #[(19, 50), (20, 72), (178, 94), (179, 94), (184, 114)], 50) := by decide +kernel
theorem dX2_pointsWell_128 : decode cX2_pointsWell 128 = .ok (.aload_n 0, 1) := by decide +kernel
theorem dX2_pointsWell_129 : decode cX2_pointsWell 129 = .ok (.getfield 12, 3) := by decide +kernel
theorem dX2_pointsWell_132 : decode cX2_pointsWell 132 = .ok (.aload_n 0, 1) := by decide +kernel
theorem dX2_pointsWell_133 : decode cX2_pointsWell 133 = .ok (.getfield 172, 3) := by decide +kernel
theorem dX2_pointsWell_136 : decode cX2_pointsWell 136 = .ok (.l2i, 1) := by decide +kernel
theorem dX2_pointsWell_137 : decode cX2_pointsWell 137 = .ok (.invokevirtual 231, 3) := by decide +kernel
theorem dX2_pointsWell_140 : decode cX2_pointsWell 140 = .ok (.iconst 3, 1) := by decide +kernel
theorem dX2_pointsWell_141 : decode cX2_pointsWell 141 = .ok (.if_icmp .ne 7, 3) := by decide +kernel
theorem dX2_pointsWell_144 : decode cX2_pointsWell 144 = .ok (.iconst 1, 1) := by decide +kernel
theorem dX2_pointsWell_145 : decode cX2_pointsWell 145 = .ok (.goto 4, 3) := by decide +kernel
theorem dX2_pointsWell_148 : decode cX2_pointsWell 148 = .ok (.iconst 0, 1) := by decide +kernel
theorem dX2_pointsWell_149 : decode cX2_pointsWell 149 = .ok (.ireturn, 1) := by decide +kernel
theorem dX2_pointsWell_150 : decode cX2_pointsWell 150 = .ok (.aload_n 0, 1) := by decide +kernel
theorem dX2_pointsWell_151 : decode cX2_pointsWell 151 = .ok (.getfield 12, 3) := by decide +kernel
theorem dX2_pointsWell_154 : decode cX2_pointsWell 154 = .ok (.aload_n 0, 1) := by decide +kernel
theorem dX2_pointsWell_155 : decode cX2_pointsWell 155 = .ok (.getfield 172, 3) := by decide +kernel
theorem dX2_pointsWell_158 : decode cX2_pointsWell 158 = .ok (.l2i, 1) := by decide +kernel
theorem dX2_pointsWell_159 : decode cX2_pointsWell 159 = .ok (.invokevirtual 231, 3) := by decide +kernel
theorem dX2_pointsWell_162 : decode cX2_pointsWell 162 = .ok (.iconst 5, 1) := by decide +kernel
theorem dX2_pointsWell_163 : decode cX2_pointsWell 163 = .ok (.if_icmp .ne 7, 3) := by decide +kernel
theorem dX2_pointsWell_166 : decode cX2_pointsWell 166 = .ok (.iconst 1, 1) := by decide +kernel
theorem dX2_pointsWell_167 : decode cX2_pointsWell 167 = .ok (.goto 4, 3) := by decide +kernel
theorem dX2_pointsWell_170 : decode cX2_pointsWell 170 = .ok (.iconst 0, 1) := by decide +kernel
theorem dX2_pointsWell_171 : decode cX2_pointsWell 171 = .ok (.ireturn, 1) := by decide +kernel
theorem dX2_pointsWell_172 : decode cX2_pointsWell 172 = .ok (.aload_n 0, 1) := by decide +kernel
theorem dX2_pointsWell_173 : decode cX2_pointsWell 173 = .ok (.aload_n 0, 1) := by decide +kernel
theorem dX2_pointsWell_174 : decode cX2_pointsWell 174 = .ok (.getfield 172, 3) := by decide +kernel
theorem dX2_pointsWell_177 : decode cX2_pointsWell 177 = .ok (.l2i, 1) := by decide +kernel
theorem dX2_pointsWell_178 : decode cX2_pointsWell 178 = .ok (.bipush 9, 2) := by decide +kernel
theorem dX2_pointsWell_180 : decode cX2_pointsWell 180 = .ok (.invokevirtual 234, 3) := by decide +kernel
theorem dX2_pointsWell_183 : decode cX2_pointsWell 183 = .ok (.ifCond .lt 7, 3) := by decide +kernel
theorem dX2_pointsWell_186 : decode cX2_pointsWell 186 = .ok (.iconst 1, 1) := by decide +kernel
theorem dX2_pointsWell_187 : decode cX2_pointsWell 187 = .ok (.goto 4, 3) := by decide +kernel
theorem dX2_pointsWell_190 : decode cX2_pointsWell 190 = .ok (.iconst 0, 1) := by decide +kernel
theorem dX2_pointsWell_191 : decode cX2_pointsWell 191 = .ok (.ireturn, 1) := by decide +kernel
theorem dX2_pointsWell_192 : decode cX2_pointsWell 192 = .ok (.aload_n 0, 1) := by decide +kernel
theorem dX2_pointsWell_193 : decode cX2_pointsWell 193 = .ok (.aload_n 0, 1) := by decide +kernel
theorem dX2_pointsWell_194 : decode cX2_pointsWell 194 = .ok (.getfield 172, 3) := by decide +kernel
theorem dX2_pointsWell_197 : decode cX2_pointsWell 197 = .ok (.l2i, 1) := by decide +kernel
theorem dX2_pointsWell_198 : decode cX2_pointsWell 198 = .ok (.bipush 10, 2) := by decide +kernel
theorem dX2_pointsWell_200 : decode cX2_pointsWell 200 = .ok (.invokevirtual 234, 3) := by decide +kernel
theorem dX2_pointsWell_203 : decode cX2_pointsWell 203 = .ok (.ifCond .lt 7, 3) := by decide +kernel
theorem dX2_pointsWell_206 : decode cX2_pointsWell 206 = .ok (.iconst 1, 1) := by decide +kernel
theorem dX2_pointsWell_207 : decode cX2_pointsWell 207 = .ok (.goto 4, 3) := by decide +kernel
theorem dX2_pointsWell_210 : decode cX2_pointsWell 210 = .ok (.iconst 0, 1) := by decide +kernel
theorem dX2_pointsWell_211 : decode cX2_pointsWell 211 = .ok (.ireturn, 1) := by decide +kernel
theorem dX2_pointsWell_212 : decode cX2_pointsWell 212 = .ok (.iconst 1, 1) := by decide +kernel
theorem dX2_pointsWell_213 : decode cX2_pointsWell 213 = .ok (.ireturn, 1) := by decide +kernel
theorem dX2_rowOf_0 : decode cX2_rowOf 0 = .ok (.aload_n 0, 1) := by decide +kernel
theorem dX2_rowOf_1 : decode cX2_rowOf 1 = .ok (.iload_n 1, 1) := by decide +kernel
theorem dX2_rowOf_2 : decode cX2_rowOf 2 = .ok (.invokevirtual 129, 3) := by decide +kernel
theorem dX2_rowOf_5 : decode cX2_rowOf 5 = .ok (.aload_n 0, 1) := by decide +kernel
theorem dX2_rowOf_6 : decode cX2_rowOf 6 = .ok (.invokevirtual 195, 3) := by decide +kernel
theorem dX2_rowOf_9 : decode cX2_rowOf 9 = .ok (.new 55, 3) := by decide +kernel
theorem dX2_rowOf_12 : decode cX2_rowOf 12 = .ok (.dup, 1) := by decide +kernel
theorem dX2_rowOf_13 : decode cX2_rowOf 13 = .ok (.aload_n 0, 1) := by decide +kernel
theorem dX2_rowOf_14 : decode cX2_rowOf 14 = .ok (.getfield 216, 3) := by decide +kernel
theorem dX2_rowOf_17 : decode cX2_rowOf 17 = .ok (.aload_n 0, 1) := by decide +kernel
theorem dX2_rowOf_18 : decode cX2_rowOf 18 = .ok (.invokevirtual 327, 3) := by decide +kernel
theorem dX2_rowOf_21 : decode cX2_rowOf 21 = .ok (.aload_n 0, 1) := by decide +kernel
theorem dX2_rowOf_22 : decode cX2_rowOf 22 = .ok (.getfield 126, 3) := by decide +kernel
theorem dX2_rowOf_25 : decode cX2_rowOf 25 = .ok (.invokespecial 331, 3) := by decide +kernel
theorem dX2_rowOf_28 : decode cX2_rowOf 28 = .ok (.astore_n 2, 1) := by decide +kernel
theorem dX2_rowOf_29 : decode cX2_rowOf 29 = .ok (.aload_n 2, 1) := by decide +kernel
theorem dX2_rowOf_30 : decode cX2_rowOf 30 = .ok (.iload_n 1, 1) := by decide +kernel
theorem dX2_rowOf_31 : decode cX2_rowOf 31 = .ok (.putfield 334, 3) := by decide +kernel
theorem dX2_rowOf_34 : decode cX2_rowOf 34 = .ok (.aload_n 2, 1) := by decide +kernel
theorem dX2_rowOf_35 : decode cX2_rowOf 35 = .ok (.aload_n 0, 1) := by decide +kernel
theorem dX2_rowOf_36 : decode cX2_rowOf 36 = .ok (.getfield 105, 3) := by decide +kernel
theorem dX2_rowOf_39 : decode cX2_rowOf 39 = .ok (.putfield 337, 3) := by decide +kernel
theorem dX2_rowOf_42 : decode cX2_rowOf 42 = .ok (.iconst 0, 1) := by decide +kernel
theorem dX2_rowOf_43 : decode cX2_rowOf 43 = .ok (.istore_n 3, 1) := by decide +kernel
theorem dX2_rowOf_44 : decode cX2_rowOf 44 = .ok (.iload_n 3, 1) := by decide +kernel
theorem dX2_rowOf_45 : decode cX2_rowOf 45 = .ok (.aload_n 0, 1) := by decide +kernel
theorem dX2_rowOf_46 : decode cX2_rowOf 46 = .ok (.getfield 117, 3) := by decide +kernel
theorem dX2_rowOf_49 : decode cX2_rowOf 49 = .ok (.if_icmp .ge 28, 3) := by decide +kernel
theorem dX2_rowOf_52 : decode cX2_rowOf 52 = .ok (.aload_n 0, 1) := by decide +kernel
theorem dX2_rowOf_53 : decode cX2_rowOf 53 = .ok (.iload_n 3, 1) := by decide +kernel
theorem dX2_rowOf_54 : decode cX2_rowOf 54 = .ok (.invokevirtual 198, 3) := by decide +kernel
theorem dX2_rowOf_57 : decode cX2_rowOf 57 = .ok (.aload_n 0, 1) := by decide +kernel
theorem dX2_rowOf_58 : decode cX2_rowOf 58 = .ok (.aload_n 2, 1) := by decide +kernel
theorem dX2_rowOf_59 : decode cX2_rowOf 59 = .ok (.invokevirtual 338, 3) := by decide +kernel
theorem dX2_rowOf_62 : decode cX2_rowOf 62 = .ok (.iload_n 3, 1) := by decide +kernel
theorem dX2_rowOf_63 : decode cX2_rowOf 63 = .ok (.iconst 1, 1) := by decide +kernel
theorem dX2_rowOf_64 : decode cX2_rowOf 64 = .ok (.aload_n 0, 1) := by decide +kernel
theorem dX2_rowOf_65 : decode cX2_rowOf 65 = .ok (.iload_n 3, 1) := by decide +kernel
theorem dX2_rowOf_66 : decode cX2_rowOf 66 = .ok (.invokevirtual 133, 3) := by decide +kernel
theorem dX2_rowOf_69 : decode cX2_rowOf 69 = .ok (.invokestatic 204, 3) := by decide +kernel
theorem dX2_rowOf_72 : decode cX2_rowOf 72 = .ok (.iadd, 1) := by decide +kernel
theorem dX2_rowOf_73 : decode cX2_rowOf 73 = .ok (.istore_n 3, 1) := by decide +kernel
theorem dX2_rowOf_74 : decode cX2_rowOf 74 = .ok (.goto (-30), 3) := by decide +kernel
theorem dX2_rowOf_77 : decode cX2_rowOf 77 = .ok (.iconst 0, 1) := by decide +kernel
theorem dX2_rowOf_78 : decode cX2_rowOf 78 = .ok (.istore_n 3, 1) := by decide +kernel
theorem dX2_rowOf_79 : decode cX2_rowOf 79 = .ok (.iload_n 3, 1) := by decide +kernel
theorem dX2_rowOf_80 : decode cX2_rowOf 80 = .ok (.aload_n 0, 1) := by decide +kernel
theorem dX2_rowOf_81 : decode cX2_rowOf 81 = .ok (.getfield 126, 3) := by decide +kernel
theorem dX2_rowOf_84 : decode cX2_rowOf 84 = .ok (.if_icmp .ge 86, 3) := by decide +kernel
theorem dX2_rowOf_87 : decode cX2_rowOf 87 = .ok (.aload_n 0, 1) := by decide +kernel
theorem dX2_rowOf_88 : decode cX2_rowOf 88 = .ok (.getfield 123, 3) := by decide +kernel
theorem dX2_rowOf_91 : decode cX2_rowOf 91 = .ok (.bipush 8, 2) := by decide +kernel
theorem dX2_rowOf_93 : decode cX2_rowOf 93 = .ok (.iload_n 3, 1) := by decide +kernel
theorem dX2_rowOf_94 : decode cX2_rowOf 94 = .ok (.imul, 1) := by decide +kernel
theorem dX2_rowOf_95 : decode cX2_rowOf 95 = .ok (.iadd, 1) := by decide +kernel
theorem dX2_rowOf_96 : decode cX2_rowOf 96 = .ok (.istore 4, 2) := by decide +kernel
theorem dX2_rowOf_98 : decode cX2_rowOf 98 = .ok (.aload_n 2, 1) := by decide +kernel
theorem dX2_rowOf_99 : decode cX2_rowOf 99 = .ok (.aload_n 0, 1) := by decide +kernel
theorem dX2_rowOf_100 : decode cX2_rowOf 100 = .ok (.aload_n 0, 1) := by decide +kernel
theorem dX2_rowOf_101 : decode cX2_rowOf 101 = .ok (.getfield 12, 3) := by decide +kernel
theorem dX2_rowOf_104 : decode cX2_rowOf 104 = .ok (.iload 4, 2) := by decide +kernel
theorem dX2_rowOf_106 : decode cX2_rowOf 106 = .ok (.invokevirtual 90, 3) := by decide +kernel
theorem dX2_rowOf_109 : decode cX2_rowOf 109 = .ok (.i2l, 1) := by decide +kernel
theorem dX2_rowOf_110 : decode cX2_rowOf 110 = .ok (.invokevirtual 217, 3) := by decide +kernel
theorem dX2_rowOf_113 : decode cX2_rowOf 113 = .ok (.aload_n 0, 1) := by decide +kernel
theorem dX2_rowOf_114 : decode cX2_rowOf 114 = .ok (.aload_n 0, 1) := by decide +kernel
theorem dX2_rowOf_115 : decode cX2_rowOf 115 = .ok (.getfield 12, 3) := by decide +kernel
theorem dX2_rowOf_118 : decode cX2_rowOf 118 = .ok (.iload 4, 2) := by decide +kernel
theorem dX2_rowOf_120 : decode cX2_rowOf 120 = .ok (.iconst 2, 1) := by decide +kernel
theorem dX2_rowOf_121 : decode cX2_rowOf 121 = .ok (.iadd, 1) := by decide +kernel
theorem dX2_rowOf_122 : decode cX2_rowOf 122 = .ok (.invokevirtual 90, 3) := by decide +kernel
theorem dX2_rowOf_125 : decode cX2_rowOf 125 = .ok (.i2l, 1) := by decide +kernel
theorem dX2_rowOf_126 : decode cX2_rowOf 126 = .ok (.invokevirtual 217, 3) := by decide +kernel
theorem dX2_rowOf_129 : decode cX2_rowOf 129 = .ok (.aload_n 0, 1) := by decide +kernel
theorem dX2_rowOf_130 : decode cX2_rowOf 130 = .ok (.aload_n 0, 1) := by decide +kernel
theorem dX2_rowOf_131 : decode cX2_rowOf 131 = .ok (.getfield 12, 3) := by decide +kernel
theorem dX2_rowOf_134 : decode cX2_rowOf 134 = .ok (.iload 4, 2) := by decide +kernel
theorem dX2_rowOf_136 : decode cX2_rowOf 136 = .ok (.iconst 4, 1) := by decide +kernel
theorem dX2_rowOf_137 : decode cX2_rowOf 137 = .ok (.iadd, 1) := by decide +kernel
theorem dX2_rowOf_138 : decode cX2_rowOf 138 = .ok (.invokevirtual 90, 3) := by decide +kernel
theorem dX2_rowOf_141 : decode cX2_rowOf 141 = .ok (.i2l, 1) := by decide +kernel
theorem dX2_rowOf_142 : decode cX2_rowOf 142 = .ok (.invokevirtual 217, 3) := by decide +kernel
theorem dX2_rowOf_145 : decode cX2_rowOf 145 = .ok (.aload_n 0, 1) := by decide +kernel
theorem dX2_rowOf_146 : decode cX2_rowOf 146 = .ok (.aload_n 0, 1) := by decide +kernel
theorem dX2_rowOf_147 : decode cX2_rowOf 147 = .ok (.getfield 12, 3) := by decide +kernel
theorem dX2_rowOf_150 : decode cX2_rowOf 150 = .ok (.iload 4, 2) := by decide +kernel
theorem dX2_rowOf_152 : decode cX2_rowOf 152 = .ok (.bipush 6, 2) := by decide +kernel
theorem dX2_rowOf_154 : decode cX2_rowOf 154 = .ok (.iadd, 1) := by decide +kernel
theorem dX2_rowOf_155 : decode cX2_rowOf 155 = .ok (.invokevirtual 90, 3) := by decide +kernel
theorem dX2_rowOf_158 : decode cX2_rowOf 158 = .ok (.invokevirtual 244, 3) := by decide +kernel
theorem dX2_rowOf_161 : decode cX2_rowOf 161 = .ok (.invokevirtual 342, 3) := by decide +kernel
theorem dX2_rowOf_164 : decode cX2_rowOf 164 = .ok (.iinc 3 1, 3) := by decide +kernel
theorem dX2_rowOf_167 : decode cX2_rowOf 167 = .ok (.goto (-88), 3) := by decide +kernel
theorem dX2_rowOf_170 : decode cX2_rowOf 170 = .ok (.aload_n 2, 1) := by decide +kernel
theorem dX2_rowOf_171 : decode cX2_rowOf 171 = .ok (.areturn, 1) := by decide +kernel
theorem dX2_s4_0 : decode cX2_s4 0 = .ok (.iload_n 1, 1) := by decide +kernel
theorem dX2_s4_1 : decode cX2_s4 1 = .ok (.ifCond .lt 13, 3) := by decide +kernel
theorem dX2_s4_4 : decode cX2_s4 4 = .ok (.iload_n 1, 1) := by decide +kernel
theorem dX2_s4_5 : decode cX2_s4 5 = .ok (.aload_n 0, 1) := by decide +kernel
theorem dX2_s4_6 : decode cX2_s4 6 = .ok (.getfield 117, 3) := by decide +kernel
theorem dX2_s4_9 : decode cX2_s4 9 = .ok (.iconst 4, 1) := by decide +kernel
theorem dX2_s4_10 : decode cX2_s4 10 = .ok (.isub, 1) := by decide +kernel
theorem dX2_s4_11 : decode cX2_s4 11 = .ok (.if_icmp .le 7, 3) := by decide +kernel
theorem dX2_s4_14 : decode cX2_s4 14 = .ok (.iconst 0, 1) := by decide +kernel
theorem dX2_s4_15 : decode cX2_s4 15 = .ok (.goto 16, 3) := by decide +kernel
theorem dX2_s4_18 : decode cX2_s4 18 = .ok (.aload_n 0, 1) := by decide +kernel
theorem dX2_s4_19 : decode cX2_s4 19 = .ok (.getfield 12, 3) := by decide +kernel
theorem dX2_s4_22 : decode cX2_s4 22 = .ok (.aload_n 0, 1) := by decide +kernel
theorem dX2_s4_23 : decode cX2_s4 23 = .ok (.getfield 120, 3) := by decide +kernel
theorem dX2_s4_26 : decode cX2_s4 26 = .ok (.iload_n 1, 1) := by decide +kernel
theorem dX2_s4_27 : decode cX2_s4 27 = .ok (.iadd, 1) := by decide +kernel
theorem dX2_s4_28 : decode cX2_s4 28 = .ok (.invokevirtual 102, 3) := by decide +kernel
theorem dX2_s4_31 : decode cX2_s4 31 = .ok (.ireturn, 1) := by decide +kernel
theorem dX2_set_0 : decode cX2_set 0 = .ok (.aload_n 0, 1) := by decide +kernel
theorem dX2_set_1 : decode cX2_set 1 = .ok (.iload_n 1, 1) := by decide +kernel
theorem dX2_set_2 : decode cX2_set 2 = .ok (.putfield 169, 3) := by decide +kernel
theorem dX2_set_5 : decode cX2_set 5 = .ok (.aload_n 0, 1) := by decide +kernel
theorem dX2_set_6 : decode cX2_set 6 = .ok (.lload_n 2, 1) := by decide +kernel
theorem dX2_set_7 : decode cX2_set 7 = .ok (.putfield 172, 3) := by decide +kernel
theorem dX2_set_10 : decode cX2_set 10 = .ok (.return_, 1) := by decide +kernel
theorem dX2_switchCount_0 : decode cX2_switchCount 0 = .ok (.aload_n 0, 1) := by decide +kernel
theorem dX2_switchCount_1 : decode cX2_switchCount 1 = .ok (.getfield 169, 3) := by decide +kernel
theorem dX2_switchCount_4 : decode cX2_switchCount 4 = .ok (.sipush 170, 3) := by decide +kernel
theorem dX2_switchCount_7 : decode cX2_switchCount 7 = .ok (.if_icmp .ne 24, 3) := by decide +kernel
theorem dX2_switchCount_10 : decode cX2_switchCount 10 = .ok (.aload_n 0, 1) := by decide +kernel
theorem dX2_switchCount_11 : decode cX2_switchCount 11 = .ok (.iload_n 1, 1) := by decide +kernel
theorem dX2_switchCount_12 : decode cX2_switchCount 12 = .ok (.bipush 8, 2) := by decide +kernel
theorem dX2_switchCount_14 : decode cX2_switchCount 14 = .ok (.iadd, 1) := by decide +kernel
theorem dX2_switchCount_15 : decode cX2_switchCount 15 = .ok (.invokevirtual 163, 3) := by decide +kernel
theorem dX2_switchCount_18 : decode cX2_switchCount 18 = .ok (.aload_n 0, 1) := by decide +kernel
theorem dX2_switchCount_19 : decode cX2_switchCount 19 = .ok (.iload_n 1, 1) := by decide +kernel
theorem dX2_switchCount_20 : decode cX2_switchCount 20 = .ok (.iconst 4, 1) := by decide +kernel
theorem dX2_switchCount_21 : decode cX2_switchCount 21 = .ok (.iadd, 1) := by decide +kernel
theorem dX2_switchCount_22 : decode cX2_switchCount 22 = .ok (.invokevirtual 163, 3) := by decide +kernel
theorem dX2_switchCount_25 : decode cX2_switchCount 25 = .ok (.isub, 1) := by decide +kernel
theorem dX2_switchCount_26 : decode cX2_switchCount 26 = .ok (.iconst 1, 1) := by decide +kernel
theorem dX2_switchCount_27 : decode cX2_switchCount 27 = .ok (.iadd, 1) := by decide +kernel
theorem dX2_switchCount_28 : decode cX2_switchCount 28 = .ok (.goto 10, 3) := by decide +kernel
theorem dX2_switchCount_31 : decode cX2_switchCount 31 = .ok (.aload_n 0, 1) := by decide +kernel
theorem dX2_switchCount_32 : decode cX2_switchCount 32 = .ok (.iload_n 1, 1) := by decide +kernel
theorem dX2_switchCount_33 : decode cX2_switchCount 33 = .ok (.iconst 4, 1) := by decide +kernel
theorem dX2_switchCount_34 : decode cX2_switchCount 34 = .ok (.iadd, 1) := by decide +kernel
theorem dX2_switchCount_35 : decode cX2_switchCount 35 = .ok (.invokevirtual 163, 3) := by decide +kernel
theorem dX2_switchCount_38 : decode cX2_switchCount 38 = .ok (.ireturn, 1) := by decide +kernel
theorem dX2_switchTarget_0 : decode cX2_switchTarget 0 = .ok (.iload_n 2, 1) := by decide +kernel
theorem dX2_switchTarget_1 : decode cX2_switchTarget 1 = .ok (.ifCond .ge 16, 3) := by decide +kernel
theorem dX2_switchTarget_4 : decode cX2_switchTarget 4 = .ok (.aload_n 0, 1) := by decide +kernel
theorem dX2_switchTarget_5 : decode cX2_switchTarget 5 = .ok (.getfield 166, 3) := by decide +kernel
theorem dX2_switchTarget_8 : decode cX2_switchTarget 8 = .ok (.i2l, 1) := by decide +kernel
theorem dX2_switchTarget_9 : decode cX2_switchTarget 9 = .ok (.aload_n 0, 1) := by decide +kernel
theorem dX2_switchTarget_10 : decode cX2_switchTarget 10 = .ok (.iload_n 1, 1) := by decide +kernel
theorem dX2_switchTarget_11 : decode cX2_switchTarget 11 = .ok (.invokevirtual 163, 3) := by decide +kernel
theorem dX2_switchTarget_14 : decode cX2_switchTarget 14 = .ok (.i2l, 1) := by decide +kernel
theorem dX2_switchTarget_15 : decode cX2_switchTarget 15 = .ok (.ladd, 1) := by decide +kernel
theorem dX2_switchTarget_16 : decode cX2_switchTarget 16 = .ok (.lreturn, 1) := by decide +kernel
theorem dX2_switchTarget_17 : decode cX2_switchTarget 17 = .ok (.aload_n 0, 1) := by decide +kernel
theorem dX2_switchTarget_18 : decode cX2_switchTarget 18 = .ok (.getfield 166, 3) := by decide +kernel
theorem dX2_switchTarget_21 : decode cX2_switchTarget 21 = .ok (.i2l, 1) := by decide +kernel
theorem dX2_switchTarget_22 : decode cX2_switchTarget 22 = .ok (.aload_n 0, 1) := by decide +kernel
theorem dX2_switchTarget_23 : decode cX2_switchTarget 23 = .ok (.aload_n 0, 1) := by decide +kernel
theorem dX2_switchTarget_24 : decode cX2_switchTarget 24 = .ok (.getfield 169, 3) := by decide +kernel
theorem dX2_switchTarget_27 : decode cX2_switchTarget 27 = .ok (.sipush 170, 3) := by decide +kernel
theorem dX2_switchTarget_30 : decode cX2_switchTarget 30 = .ok (.if_icmp .ne 14, 3) := by decide +kernel
theorem dX2_switchTarget_33 : decode cX2_switchTarget 33 = .ok (.iload_n 1, 1) := by decide +kernel
theorem dX2_switchTarget_34 : decode cX2_switchTarget 34 = .ok (.bipush 12, 2) := by decide +kernel
theorem dX2_switchTarget_36 : decode cX2_switchTarget 36 = .ok (.iadd, 1) := by decide +kernel
theorem dX2_switchTarget_37 : decode cX2_switchTarget 37 = .ok (.iconst 4, 1) := by decide +kernel
theorem dX2_switchTarget_38 : decode cX2_switchTarget 38 = .ok (.iload_n 2, 1) := by decide +kernel
theorem dX2_switchTarget_39 : decode cX2_switchTarget 39 = .ok (.imul, 1) := by decide +kernel
theorem dX2_switchTarget_40 : decode cX2_switchTarget 40 = .ok (.iadd, 1) := by decide +kernel
theorem dX2_switchTarget_41 : decode cX2_switchTarget 41 = .ok (.goto 12, 3) := by decide +kernel
theorem dX2_switchTarget_44 : decode cX2_switchTarget 44 = .ok (.iload_n 1, 1) := by decide +kernel
theorem dX2_switchTarget_45 : decode cX2_switchTarget 45 = .ok (.bipush 12, 2) := by decide +kernel
theorem dX2_switchTarget_47 : decode cX2_switchTarget 47 = .ok (.iadd, 1) := by decide +kernel
theorem dX2_switchTarget_48 : decode cX2_switchTarget 48 = .ok (.bipush 8, 2) := by decide +kernel
theorem dX2_switchTarget_50 : decode cX2_switchTarget 50 = .ok (.iload_n 2, 1) := by decide +kernel
theorem dX2_switchTarget_51 : decode cX2_switchTarget 51 = .ok (.imul, 1) := by decide +kernel
theorem dX2_switchTarget_52 : decode cX2_switchTarget 52 = .ok (.iadd, 1) := by decide +kernel
theorem dX2_switchTarget_53 : decode cX2_switchTarget 53 = .ok (.invokevirtual 163, 3) := by decide +kernel
theorem dX2_switchTarget_56 : decode cX2_switchTarget 56 = .ok (.i2l, 1) := by decide +kernel
theorem dX2_switchTarget_57 : decode cX2_switchTarget 57 = .ok (.ladd, 1) := by decide +kernel
theorem dX2_switchTarget_58 : decode cX2_switchTarget 58 = .ok (.lreturn, 1) := by decide +kernel
theorem dX2_tableLength_0 : decode cX2_tableLength 0 = .ok (.iload_n 1, 1) := by decide +kernel
theorem dX2_tableLength_1 : decode cX2_tableLength 1 = .ok (.invokestatic 160, 3) := by decide +kernel
theorem dX2_tableLength_4 : decode cX2_tableLength 4 = .ok (.istore_n 2, 1) := by decide +kernel
theorem dX2_tableLength_5 : decode cX2_tableLength 5 = .ok (.aload_n 0, 1) := by decide +kernel
theorem dX2_tableLength_6 : decode cX2_tableLength 6 = .ok (.iload_n 2, 1) := by decide +kernel
theorem dX2_tableLength_7 : decode cX2_tableLength 7 = .ok (.bipush 8, 2) := by decide +kernel
theorem dX2_tableLength_9 : decode cX2_tableLength 9 = .ok (.iadd, 1) := by decide +kernel
theorem dX2_tableLength_10 : decode cX2_tableLength 10 = .ok (.invokevirtual 163, 3) := by decide +kernel
theorem dX2_tableLength_13 : decode cX2_tableLength 13 = .ok (.i2l, 1) := by decide +kernel
theorem dX2_tableLength_14 : decode cX2_tableLength 14 = .ok (.aload_n 0, 1) := by decide +kernel
theorem dX2_tableLength_15 : decode cX2_tableLength 15 = .ok (.iload_n 2, 1) := by decide +kernel
theorem dX2_tableLength_16 : decode cX2_tableLength 16 = .ok (.iconst 4, 1) := by decide +kernel
theorem dX2_tableLength_17 : decode cX2_tableLength 17 = .ok (.iadd, 1) := by decide +kernel
theorem dX2_tableLength_18 : decode cX2_tableLength 18 = .ok (.invokevirtual 163, 3) := by decide +kernel
theorem dX2_tableLength_21 : decode cX2_tableLength 21 = .ok (.i2l, 1) := by decide +kernel
theorem dX2_tableLength_22 : decode cX2_tableLength 22 = .ok (.lsub, 1) := by decide +kernel
theorem dX2_tableLength_23 : decode cX2_tableLength 23 = .ok (.lstore_n 3, 1) := by decide +kernel
theorem dX2_tableLength_24 : decode cX2_tableLength 24 = .ok (.iload_n 2, 1) := by decide +kernel
theorem dX2_tableLength_25 : decode cX2_tableLength 25 = .ok (.bipush 12, 2) := by decide +kernel
theorem dX2_tableLength_27 : decode cX2_tableLength 27 = .ok (.iadd, 1) := by decide +kernel
theorem dX2_tableLength_28 : decode cX2_tableLength 28 = .ok (.aload_n 0, 1) := by decide +kernel
theorem dX2_tableLength_29 : decode cX2_tableLength 29 = .ok (.getfield 117, 3) := by decide +kernel
theorem dX2_tableLength_32 : decode cX2_tableLength 32 = .ok (.if_icmp .gt 17, 3) := by decide +kernel
theorem dX2_tableLength_35 : decode cX2_tableLength 35 = .ok (.lload_n 3, 1) := by decide +kernel
theorem dX2_tableLength_36 : decode cX2_tableLength 36 = .ok (.lconst 0, 1) := by decide +kernel
theorem dX2_tableLength_37 : decode cX2_tableLength 37 = .ok (.lcmp, 1) := by decide +kernel
theorem dX2_tableLength_38 : decode cX2_tableLength 38 = .ok (.ifCond .lt 11, 3) := by decide +kernel
theorem dX2_tableLength_41 : decode cX2_tableLength 41 = .ok (.lload_n 3, 1) := by decide +kernel
theorem dX2_tableLength_42 : decode cX2_tableLength 42 = .ok (.ldc2_w 164, 3) := by decide +kernel
theorem dX2_tableLength_45 : decode cX2_tableLength 45 = .ok (.lcmp, 1) := by decide +kernel
theorem dX2_tableLength_46 : decode cX2_tableLength 46 = .ok (.ifCond .le 5, 3) := by decide +kernel
theorem dX2_tableLength_49 : decode cX2_tableLength 49 = .ok (.iconst 0, 1) := by decide +kernel
theorem dX2_tableLength_50 : decode cX2_tableLength 50 = .ok (.ireturn, 1) := by decide +kernel
theorem dX2_tableLength_51 : decode cX2_tableLength 51 = .ok (.iload_n 2, 1) := by decide +kernel
theorem dX2_tableLength_52 : decode cX2_tableLength 52 = .ok (.bipush 16, 2) := by decide +kernel
theorem dX2_tableLength_54 : decode cX2_tableLength 54 = .ok (.iadd, 1) := by decide +kernel
theorem dX2_tableLength_55 : decode cX2_tableLength 55 = .ok (.iconst 4, 1) := by decide +kernel
theorem dX2_tableLength_56 : decode cX2_tableLength 56 = .ok (.lload_n 3, 1) := by decide +kernel
theorem dX2_tableLength_57 : decode cX2_tableLength 57 = .ok (.l2i, 1) := by decide +kernel
theorem dX2_tableLength_58 : decode cX2_tableLength 58 = .ok (.imul, 1) := by decide +kernel
theorem dX2_tableLength_59 : decode cX2_tableLength 59 = .ok (.iadd, 1) := by decide +kernel
theorem dX2_tableLength_60 : decode cX2_tableLength 60 = .ok (.iload_n 1, 1) := by decide +kernel
theorem dX2_tableLength_61 : decode cX2_tableLength 61 = .ok (.isub, 1) := by decide +kernel
theorem dX2_tableLength_62 : decode cX2_tableLength 62 = .ok (.ireturn, 1) := by decide +kernel
theorem dX2_tableRoom_0 : decode cX2_tableRoom 0 = .ok (.iconst 0, 1) := by decide +kernel
theorem dX2_tableRoom_1 : decode cX2_tableRoom 1 = .ok (.istore_n 1, 1) := by decide +kernel
theorem dX2_tableRoom_2 : decode cX2_tableRoom 2 = .ok (.iconst 0, 1) := by decide +kernel
theorem dX2_tableRoom_3 : decode cX2_tableRoom 3 = .ok (.istore_n 2, 1) := by decide +kernel
theorem dX2_tableRoom_4 : decode cX2_tableRoom 4 = .ok (.iload_n 2, 1) := by decide +kernel
theorem dX2_tableRoom_5 : decode cX2_tableRoom 5 = .ok (.aload_n 0, 1) := by decide +kernel
theorem dX2_tableRoom_6 : decode cX2_tableRoom 6 = .ok (.getfield 117, 3) := by decide +kernel
theorem dX2_tableRoom_9 : decode cX2_tableRoom 9 = .ok (.if_icmp .ge 65, 3) := by decide +kernel
theorem dX2_tableRoom_12 : decode cX2_tableRoom 12 = .ok (.aload_n 0, 1) := by decide +kernel
theorem dX2_tableRoom_13 : decode cX2_tableRoom 13 = .ok (.iload_n 2, 1) := by decide +kernel
theorem dX2_tableRoom_14 : decode cX2_tableRoom 14 = .ok (.invokevirtual 198, 3) := by decide +kernel
theorem dX2_tableRoom_17 : decode cX2_tableRoom 17 = .ok (.aload_n 0, 1) := by decide +kernel
theorem dX2_tableRoom_18 : decode cX2_tableRoom 18 = .ok (.getfield 169, 3) := by decide +kernel
theorem dX2_tableRoom_21 : decode cX2_tableRoom 21 = .ok (.invokestatic 184, 3) := by decide +kernel
theorem dX2_tableRoom_24 : decode cX2_tableRoom 24 = .ok (.ifCond .eq 35, 3) := by decide +kernel
theorem dX2_tableRoom_27 : decode cX2_tableRoom 27 = .ok (.aload_n 0, 1) := by decide +kernel
theorem dX2_tableRoom_28 : decode cX2_tableRoom 28 = .ok (.aload_n 0, 1) := by decide +kernel
theorem dX2_tableRoom_29 : decode cX2_tableRoom 29 = .ok (.getfield 172, 3) := by decide +kernel
theorem dX2_tableRoom_32 : decode cX2_tableRoom 32 = .ok (.l2i, 1) := by decide +kernel
theorem dX2_tableRoom_33 : decode cX2_tableRoom 33 = .ok (.invokevirtual 237, 3) := by decide +kernel
theorem dX2_tableRoom_36 : decode cX2_tableRoom 36 = .ok (.istore_n 3, 1) := by decide +kernel
theorem dX2_tableRoom_37 : decode cX2_tableRoom 37 = .ok (.iload_n 1, 1) := by decide +kernel
theorem dX2_tableRoom_38 : decode cX2_tableRoom 38 = .ok (.iconst 3, 1) := by decide +kernel
theorem dX2_tableRoom_39 : decode cX2_tableRoom 39 = .ok (.aload_n 0, 1) := by decide +kernel
theorem dX2_tableRoom_40 : decode cX2_tableRoom 40 = .ok (.getfield 169, 3) := by decide +kernel
theorem dX2_tableRoom_43 : decode cX2_tableRoom 43 = .ok (.sipush 170, 3) := by decide +kernel
theorem dX2_tableRoom_46 : decode cX2_tableRoom 46 = .ok (.if_icmp .ne 7, 3) := by decide +kernel
theorem dX2_tableRoom_49 : decode cX2_tableRoom 49 = .ok (.iload_n 3, 1) := by decide +kernel
theorem dX2_tableRoom_50 : decode cX2_tableRoom 50 = .ok (.goto 6, 3) := by decide +kernel
theorem dX2_tableRoom_53 : decode cX2_tableRoom 53 = .ok (.iconst 2, 1) := by decide +kernel
theorem dX2_tableRoom_54 : decode cX2_tableRoom 54 = .ok (.iload_n 3, 1) := by decide +kernel
theorem dX2_tableRoom_55 : decode cX2_tableRoom 55 = .ok (.imul, 1) := by decide +kernel
theorem dX2_tableRoom_56 : decode cX2_tableRoom 56 = .ok (.iadd, 1) := by decide +kernel
theorem dX2_tableRoom_57 : decode cX2_tableRoom 57 = .ok (.iadd, 1) := by decide +kernel
theorem dX2_tableRoom_58 : decode cX2_tableRoom 58 = .ok (.istore_n 1, 1) := by decide +kernel
theorem dX2_tableRoom_59 : decode cX2_tableRoom 59 = .ok (.iload_n 2, 1) := by decide +kernel
theorem dX2_tableRoom_60 : decode cX2_tableRoom 60 = .ok (.iconst 1, 1) := by decide +kernel
theorem dX2_tableRoom_61 : decode cX2_tableRoom 61 = .ok (.aload_n 0, 1) := by decide +kernel
theorem dX2_tableRoom_62 : decode cX2_tableRoom 62 = .ok (.iload_n 2, 1) := by decide +kernel
theorem dX2_tableRoom_63 : decode cX2_tableRoom 63 = .ok (.invokevirtual 133, 3) := by decide +kernel
theorem dX2_tableRoom_66 : decode cX2_tableRoom 66 = .ok (.invokestatic 204, 3) := by decide +kernel
theorem dX2_tableRoom_69 : decode cX2_tableRoom 69 = .ok (.iadd, 1) := by decide +kernel
theorem dX2_tableRoom_70 : decode cX2_tableRoom 70 = .ok (.istore_n 2, 1) := by decide +kernel
theorem dX2_tableRoom_71 : decode cX2_tableRoom 71 = .ok (.goto (-67), 3) := by decide +kernel
theorem dX2_tableRoom_74 : decode cX2_tableRoom 74 = .ok (.iconst 0, 1) := by decide +kernel
theorem dX2_tableRoom_75 : decode cX2_tableRoom 75 = .ok (.iload_n 1, 1) := by decide +kernel
theorem dX2_tableRoom_76 : decode cX2_tableRoom 76 = .ok (.invokestatic 204, 3) := by decide +kernel
theorem dX2_tableRoom_79 : decode cX2_tableRoom 79 = .ok (.ireturn, 1) := by decide +kernel
theorem dX2_targetsHold_0 : decode cX2_targetsHold 0 = .ok (.aload_n 0, 1) := by decide +kernel
theorem dX2_targetsHold_1 : decode cX2_targetsHold 1 = .ok (.getfield 172, 3) := by decide +kernel
theorem dX2_targetsHold_4 : decode cX2_targetsHold 4 = .ok (.l2i, 1) := by decide +kernel
theorem dX2_targetsHold_5 : decode cX2_targetsHold 5 = .ok (.istore_n 1, 1) := by decide +kernel
theorem dX2_targetsHold_6 : decode cX2_targetsHold 6 = .ok (.aload_n 0, 1) := by decide +kernel
theorem dX2_targetsHold_7 : decode cX2_targetsHold 7 = .ok (.iload_n 1, 1) := by decide +kernel
theorem dX2_targetsHold_8 : decode cX2_targetsHold 8 = .ok (.invokevirtual 237, 3) := by decide +kernel
theorem dX2_targetsHold_11 : decode cX2_targetsHold 11 = .ok (.istore_n 2, 1) := by decide +kernel
theorem dX2_targetsHold_12 : decode cX2_targetsHold 12 = .ok (.iconst (-1), 1) := by decide +kernel
theorem dX2_targetsHold_13 : decode cX2_targetsHold 13 = .ok (.istore_n 3, 1) := by decide +kernel
theorem dX2_targetsHold_14 : decode cX2_targetsHold 14 = .ok (.iload_n 3, 1) := by decide +kernel
theorem dX2_targetsHold_15 : decode cX2_targetsHold 15 = .ok (.iload_n 2, 1) := by decide +kernel
theorem dX2_targetsHold_16 : decode cX2_targetsHold 16 = .ok (.if_icmp .ge 24, 3) := by decide +kernel
theorem dX2_targetsHold_19 : decode cX2_targetsHold 19 = .ok (.aload_n 0, 1) := by decide +kernel
theorem dX2_targetsHold_20 : decode cX2_targetsHold 20 = .ok (.aload_n 0, 1) := by decide +kernel
theorem dX2_targetsHold_21 : decode cX2_targetsHold 21 = .ok (.iload_n 1, 1) := by decide +kernel
theorem dX2_targetsHold_22 : decode cX2_targetsHold 22 = .ok (.iload_n 3, 1) := by decide +kernel
theorem dX2_targetsHold_23 : decode cX2_targetsHold 23 = .ok (.invokevirtual 240, 3) := by decide +kernel
theorem dX2_targetsHold_26 : decode cX2_targetsHold 26 = .ok (.invokevirtual 221, 3) := by decide +kernel
theorem dX2_targetsHold_29 : decode cX2_targetsHold 29 = .ok (.ifCond .ne 5, 3) := by decide +kernel
theorem dX2_targetsHold_32 : decode cX2_targetsHold 32 = .ok (.iconst 0, 1) := by decide +kernel
theorem dX2_targetsHold_33 : decode cX2_targetsHold 33 = .ok (.ireturn, 1) := by decide +kernel
theorem dX2_targetsHold_34 : decode cX2_targetsHold 34 = .ok (.iinc 3 1, 3) := by decide +kernel
theorem dX2_targetsHold_37 : decode cX2_targetsHold 37 = .ok (.goto (-23), 3) := by decide +kernel
theorem dX2_targetsHold_40 : decode cX2_targetsHold 40 = .ok (.iconst 1, 1) := by decide +kernel
theorem dX2_targetsHold_41 : decode cX2_targetsHold 41 = .ok (.ireturn, 1) := by decide +kernel
theorem dX2_u1_0 : decode cX2_u1 0 = .ok (.iload_n 1, 1) := by decide +kernel
theorem dX2_u1_1 : decode cX2_u1 1 = .ok (.ifCond .lt 11, 3) := by decide +kernel
theorem dX2_u1_4 : decode cX2_u1 4 = .ok (.iload_n 1, 1) := by decide +kernel
theorem dX2_u1_5 : decode cX2_u1 5 = .ok (.aload_n 0, 1) := by decide +kernel
theorem dX2_u1_6 : decode cX2_u1 6 = .ok (.getfield 117, 3) := by decide +kernel
theorem dX2_u1_9 : decode cX2_u1 9 = .ok (.if_icmp .lt 7, 3) := by decide +kernel
theorem dX2_u1_12 : decode cX2_u1 12 = .ok (.iconst 0, 1) := by decide +kernel
theorem dX2_u1_13 : decode cX2_u1 13 = .ok (.goto 16, 3) := by decide +kernel
theorem dX2_u1_16 : decode cX2_u1 16 = .ok (.aload_n 0, 1) := by decide +kernel
theorem dX2_u1_17 : decode cX2_u1 17 = .ok (.getfield 12, 3) := by decide +kernel
theorem dX2_u1_20 : decode cX2_u1 20 = .ok (.aload_n 0, 1) := by decide +kernel
theorem dX2_u1_21 : decode cX2_u1 21 = .ok (.getfield 120, 3) := by decide +kernel
theorem dX2_u1_24 : decode cX2_u1 24 = .ok (.iload_n 1, 1) := by decide +kernel
theorem dX2_u1_25 : decode cX2_u1 25 = .ok (.iadd, 1) := by decide +kernel
theorem dX2_u1_26 : decode cX2_u1 26 = .ok (.invokevirtual 136, 3) := by decide +kernel
theorem dX2_u1_29 : decode cX2_u1 29 = .ok (.ireturn, 1) := by decide +kernel
theorem dX2_u2_0 : decode cX2_u2 0 = .ok (.iload_n 1, 1) := by decide +kernel
theorem dX2_u2_1 : decode cX2_u2 1 = .ok (.ifCond .lt 13, 3) := by decide +kernel
theorem dX2_u2_4 : decode cX2_u2 4 = .ok (.iload_n 1, 1) := by decide +kernel
theorem dX2_u2_5 : decode cX2_u2 5 = .ok (.aload_n 0, 1) := by decide +kernel
theorem dX2_u2_6 : decode cX2_u2 6 = .ok (.getfield 117, 3) := by decide +kernel
theorem dX2_u2_9 : decode cX2_u2 9 = .ok (.iconst 2, 1) := by decide +kernel
theorem dX2_u2_10 : decode cX2_u2 10 = .ok (.isub, 1) := by decide +kernel
theorem dX2_u2_11 : decode cX2_u2 11 = .ok (.if_icmp .le 7, 3) := by decide +kernel
theorem dX2_u2_14 : decode cX2_u2 14 = .ok (.iconst 0, 1) := by decide +kernel
theorem dX2_u2_15 : decode cX2_u2 15 = .ok (.goto 16, 3) := by decide +kernel
theorem dX2_u2_18 : decode cX2_u2 18 = .ok (.aload_n 0, 1) := by decide +kernel
theorem dX2_u2_19 : decode cX2_u2 19 = .ok (.getfield 12, 3) := by decide +kernel
theorem dX2_u2_22 : decode cX2_u2 22 = .ok (.aload_n 0, 1) := by decide +kernel
theorem dX2_u2_23 : decode cX2_u2 23 = .ok (.getfield 120, 3) := by decide +kernel
theorem dX2_u2_26 : decode cX2_u2 26 = .ok (.iload_n 1, 1) := by decide +kernel
theorem dX2_u2_27 : decode cX2_u2 27 = .ok (.iadd, 1) := by decide +kernel
theorem dX2_u2_28 : decode cX2_u2 28 = .ok (.invokevirtual 90, 3) := by decide +kernel
theorem dX2_u2_31 : decode cX2_u2 31 = .ok (.ireturn, 1) := by decide +kernel
theorem dX2_unitOf_0 : decode cX2_unitOf 0 = .ok (.aload_n 0, 1) := by decide +kernel
theorem dX2_unitOf_1 : decode cX2_unitOf 1 = .ok (.getfield 12, 3) := by decide +kernel
theorem dX2_unitOf_4 : decode cX2_unitOf 4 = .ok (.aload_n 1, 1) := by decide +kernel
theorem dX2_unitOf_5 : decode cX2_unitOf 5 = .ok (.invokevirtual 22, 3) := by decide +kernel
theorem dX2_unitOf_8 : decode cX2_unitOf 8 = .ok (.ifCond .eq 24, 3) := by decide +kernel
theorem dX2_unitOf_11 : decode cX2_unitOf 11 = .ok (.aload_n 0, 1) := by decide +kernel
theorem dX2_unitOf_12 : decode cX2_unitOf 12 = .ok (.invokevirtual 26, 3) := by decide +kernel
theorem dX2_unitOf_15 : decode cX2_unitOf 15 = .ok (.ifCond .eq 17, 3) := by decide +kernel
theorem dX2_unitOf_18 : decode cX2_unitOf 18 = .ok (.aload_n 0, 1) := by decide +kernel
theorem dX2_unitOf_19 : decode cX2_unitOf 19 = .ok (.invokevirtual 30, 3) := by decide +kernel
theorem dX2_unitOf_22 : decode cX2_unitOf 22 = .ok (.ifCond .eq 10, 3) := by decide +kernel
theorem dX2_unitOf_25 : decode cX2_unitOf 25 = .ok (.aload_n 0, 1) := by decide +kernel
theorem dX2_unitOf_26 : decode cX2_unitOf 26 = .ok (.invokevirtual 33, 3) := by decide +kernel
theorem dX2_unitOf_29 : decode cX2_unitOf 29 = .ok (.ifCond .ne 5, 3) := by decide +kernel
theorem dX2_unitOf_32 : decode cX2_unitOf 32 = .ok (.aconst_null, 1) := by decide +kernel
theorem dX2_unitOf_33 : decode cX2_unitOf 33 = .ok (.areturn, 1) := by decide +kernel
theorem dX2_unitOf_34 : decode cX2_unitOf 34 = .ok (.aload_n 0, 1) := by decide +kernel
theorem dX2_unitOf_35 : decode cX2_unitOf 35 = .ok (.invokevirtual 36, 3) := by decide +kernel
theorem dX2_unitOf_38 : decode cX2_unitOf 38 = .ok (.astore_n 2, 1) := by decide +kernel
theorem dX2_unitOf_39 : decode cX2_unitOf 39 = .ok (.iconst 0, 1) := by decide +kernel
theorem dX2_unitOf_40 : decode cX2_unitOf 40 = .ok (.istore_n 3, 1) := by decide +kernel
theorem dX2_unitOf_41 : decode cX2_unitOf 41 = .ok (.iload_n 3, 1) := by decide +kernel
theorem dX2_unitOf_42 : decode cX2_unitOf 42 = .ok (.aload_n 2, 1) := by decide +kernel
theorem dX2_unitOf_43 : decode cX2_unitOf 43 = .ok (.getfield 40, 3) := by decide +kernel
theorem dX2_unitOf_46 : decode cX2_unitOf 46 = .ok (.arraylength, 1) := by decide +kernel
theorem dX2_unitOf_47 : decode cX2_unitOf 47 = .ok (.if_icmp .ge 38, 3) := by decide +kernel
theorem dX2_unitOf_50 : decode cX2_unitOf 50 = .ok (.aload_n 2, 1) := by decide +kernel
theorem dX2_unitOf_51 : decode cX2_unitOf 51 = .ok (.getfield 40, 3) := by decide +kernel
theorem dX2_unitOf_54 : decode cX2_unitOf 54 = .ok (.iload_n 3, 1) := by decide +kernel
theorem dX2_unitOf_55 : decode cX2_unitOf 55 = .ok (.aload_n 0, 1) := by decide +kernel
theorem dX2_unitOf_56 : decode cX2_unitOf 56 = .ok (.iload_n 3, 1) := by decide +kernel
theorem dX2_unitOf_57 : decode cX2_unitOf 57 = .ok (.invokevirtual 46, 3) := by decide +kernel
theorem dX2_unitOf_60 : decode cX2_unitOf 60 = .ok (.aastore, 1) := by decide +kernel
theorem dX2_unitOf_61 : decode cX2_unitOf 61 = .ok (.aload_n 2, 1) := by decide +kernel
theorem dX2_unitOf_62 : decode cX2_unitOf 62 = .ok (.dup, 1) := by decide +kernel
theorem dX2_unitOf_63 : decode cX2_unitOf 63 = .ok (.getfield 50, 3) := by decide +kernel
theorem dX2_unitOf_66 : decode cX2_unitOf 66 = .ok (.aload_n 2, 1) := by decide +kernel
theorem dX2_unitOf_67 : decode cX2_unitOf 67 = .ok (.getfield 40, 3) := by decide +kernel
theorem dX2_unitOf_70 : decode cX2_unitOf 70 = .ok (.iload_n 3, 1) := by decide +kernel
theorem dX2_unitOf_71 : decode cX2_unitOf 71 = .ok (.aaload, 1) := by decide +kernel
theorem dX2_unitOf_72 : decode cX2_unitOf 72 = .ok (.getfield 54, 3) := by decide +kernel
theorem dX2_unitOf_75 : decode cX2_unitOf 75 = .ok (.iadd, 1) := by decide +kernel
theorem dX2_unitOf_76 : decode cX2_unitOf 76 = .ok (.putfield 50, 3) := by decide +kernel
theorem dX2_unitOf_79 : decode cX2_unitOf 79 = .ok (.iinc 3 1, 3) := by decide +kernel
theorem dX2_unitOf_82 : decode cX2_unitOf 82 = .ok (.goto (-41), 3) := by decide +kernel
theorem dX2_unitOf_85 : decode cX2_unitOf 85 = .ok (.aload_n 2, 1) := by decide +kernel
theorem dX2_unitOf_86 : decode cX2_unitOf 86 = .ok (.areturn, 1) := by decide +kernel
theorem dX2_wideLength_0 : decode cX2_wideLength 0 = .ok (.iload_n 0, 1) := by decide +kernel
theorem dX2_wideLength_1 : decode cX2_wideLength 1 = .ok (.sipush 132, 3) := by decide +kernel
theorem dX2_wideLength_4 : decode cX2_wideLength 4 = .ok (.if_icmp .ne 6, 3) := by decide +kernel
theorem dX2_wideLength_7 : decode cX2_wideLength 7 = .ok (.bipush 6, 2) := by decide +kernel
theorem dX2_wideLength_9 : decode cX2_wideLength 9 = .ok (.ireturn, 1) := by decide +kernel
theorem dX2_wideLength_10 : decode cX2_wideLength 10 = .ok (.iload_n 0, 1) := by decide +kernel
theorem dX2_wideLength_11 : decode cX2_wideLength 11 = .ok (.invokestatic 154, 3) := by decide +kernel
theorem dX2_wideLength_14 : decode cX2_wideLength 14 = .ok (.ifCond .ne 10, 3) := by decide +kernel
theorem dX2_wideLength_17 : decode cX2_wideLength 17 = .ok (.iload_n 0, 1) := by decide +kernel
theorem dX2_wideLength_18 : decode cX2_wideLength 18 = .ok (.invokestatic 157, 3) := by decide +kernel
theorem dX2_wideLength_21 : decode cX2_wideLength 21 = .ok (.ifCond .eq 7, 3) := by decide +kernel
theorem dX2_wideLength_24 : decode cX2_wideLength 24 = .ok (.iconst 4, 1) := by decide +kernel
theorem dX2_wideLength_25 : decode cX2_wideLength 25 = .ok (.goto 4, 3) := by decide +kernel
theorem dX2_wideLength_28 : decode cX2_wideLength 28 = .ok (.iconst 0, 1) := by decide +kernel
theorem dX2_wideLength_29 : decode cX2_wideLength 29 = .ok (.ireturn, 1) := by decide +kernel
theorem dX3_addEdge_0 : decode cX3_addEdge 0 = .ok (.iload_n 2, 1) := by decide +kernel
theorem dX3_addEdge_1 : decode cX3_addEdge 1 = .ok (.ifCond .lt 29, 3) := by decide +kernel
theorem dX3_addEdge_4 : decode cX3_addEdge 4 = .ok (.iload_n 2, 1) := by decide +kernel
theorem dX3_addEdge_5 : decode cX3_addEdge 5 = .ok (.aload_n 0, 1) := by decide +kernel
theorem dX3_addEdge_6 : decode cX3_addEdge 6 = .ok (.getfield 53, 3) := by decide +kernel
theorem dX3_addEdge_9 : decode cX3_addEdge 9 = .ok (.getfield 82, 3) := by decide +kernel
theorem dX3_addEdge_12 : decode cX3_addEdge 12 = .ok (.if_icmp .ge 18, 3) := by decide +kernel
theorem dX3_addEdge_15 : decode cX3_addEdge 15 = .ok (.aload_n 0, 1) := by decide +kernel
theorem dX3_addEdge_16 : decode cX3_addEdge 16 = .ok (.getfield 47, 3) := by decide +kernel
theorem dX3_addEdge_19 : decode cX3_addEdge 19 = .ok (.aload_n 0, 1) := by decide +kernel
theorem dX3_addEdge_20 : decode cX3_addEdge 20 = .ok (.getfield 15, 3) := by decide +kernel
theorem dX3_addEdge_23 : decode cX3_addEdge 23 = .ok (.iload_n 2, 1) := by decide +kernel
theorem dX3_addEdge_24 : decode cX3_addEdge 24 = .ok (.iaload, 1) := by decide +kernel
theorem dX3_addEdge_25 : decode cX3_addEdge 25 = .ok (.iaload, 1) := by decide +kernel
theorem dX3_addEdge_26 : decode cX3_addEdge 26 = .ok (.iload_n 1, 1) := by decide +kernel
theorem dX3_addEdge_27 : decode cX3_addEdge 27 = .ok (.if_icmp .ne 5, 3) := by decide +kernel
theorem dX3_addEdge_30 : decode cX3_addEdge 30 = .ok (.iload_n 3, 1) := by decide +kernel
theorem dX3_addEdge_31 : decode cX3_addEdge 31 = .ok (.ireturn, 1) := by decide +kernel
theorem dX3_addEdge_32 : decode cX3_addEdge 32 = .ok (.iload_n 3, 1) := by decide +kernel
theorem dX3_addEdge_33 : decode cX3_addEdge 33 = .ok (.aload_n 0, 1) := by decide +kernel
theorem dX3_addEdge_34 : decode cX3_addEdge 34 = .ok (.getfield 21, 3) := by decide +kernel
theorem dX3_addEdge_37 : decode cX3_addEdge 37 = .ok (.arraylength, 1) := by decide +kernel
theorem dX3_addEdge_38 : decode cX3_addEdge 38 = .ok (.if_icmp .lt 21, 3) := by decide +kernel
theorem dX3_addEdge_41 : decode cX3_addEdge 41 = .ok (.aload_n 0, 1) := by decide +kernel
theorem dX3_addEdge_42 : decode cX3_addEdge 42 = .ok (.aload_n 0, 1) := by decide +kernel
theorem dX3_addEdge_43 : decode cX3_addEdge 43 = .ok (.getfield 21, 3) := by decide +kernel
theorem dX3_addEdge_46 : decode cX3_addEdge 46 = .ok (.iconst 2, 1) := by decide +kernel
theorem dX3_addEdge_47 : decode cX3_addEdge 47 = .ok (.aload_n 0, 1) := by decide +kernel
theorem dX3_addEdge_48 : decode cX3_addEdge 48 = .ok (.getfield 21, 3) := by decide +kernel
theorem dX3_addEdge_51 : decode cX3_addEdge 51 = .ok (.arraylength, 1) := by decide +kernel
theorem dX3_addEdge_52 : decode cX3_addEdge 52 = .ok (.imul, 1) := by decide +kernel
theorem dX3_addEdge_53 : decode cX3_addEdge 53 = .ok (.invokestatic 138, 3) := by decide +kernel
theorem dX3_addEdge_56 : decode cX3_addEdge 56 = .ok (.putfield 21, 3) := by decide +kernel
theorem dX3_addEdge_59 : decode cX3_addEdge 59 = .ok (.aload_n 0, 1) := by decide +kernel
theorem dX3_addEdge_60 : decode cX3_addEdge 60 = .ok (.getfield 47, 3) := by decide +kernel
theorem dX3_addEdge_63 : decode cX3_addEdge 63 = .ok (.aload_n 0, 1) := by decide +kernel
theorem dX3_addEdge_64 : decode cX3_addEdge 64 = .ok (.getfield 15, 3) := by decide +kernel
theorem dX3_addEdge_67 : decode cX3_addEdge 67 = .ok (.iload_n 2, 1) := by decide +kernel
theorem dX3_addEdge_68 : decode cX3_addEdge 68 = .ok (.iaload, 1) := by decide +kernel
theorem dX3_addEdge_69 : decode cX3_addEdge 69 = .ok (.iload_n 1, 1) := by decide +kernel
theorem dX3_addEdge_70 : decode cX3_addEdge 70 = .ok (.iastore, 1) := by decide +kernel
theorem dX3_addEdge_71 : decode cX3_addEdge 71 = .ok (.aload_n 0, 1) := by decide +kernel
theorem dX3_addEdge_72 : decode cX3_addEdge 72 = .ok (.getfield 21, 3) := by decide +kernel
theorem dX3_addEdge_75 : decode cX3_addEdge 75 = .ok (.iload_n 3, 1) := by decide +kernel
theorem dX3_addEdge_76 : decode cX3_addEdge 76 = .ok (.aload_n 0, 1) := by decide +kernel
theorem dX3_addEdge_77 : decode cX3_addEdge 77 = .ok (.getfield 15, 3) := by decide +kernel
theorem dX3_addEdge_80 : decode cX3_addEdge 80 = .ok (.iload_n 2, 1) := by decide +kernel
theorem dX3_addEdge_81 : decode cX3_addEdge 81 = .ok (.iaload, 1) := by decide +kernel
theorem dX3_addEdge_82 : decode cX3_addEdge 82 = .ok (.iastore, 1) := by decide +kernel
theorem dX3_addEdge_83 : decode cX3_addEdge 83 = .ok (.iload_n 3, 1) := by decide +kernel
theorem dX3_addEdge_84 : decode cX3_addEdge 84 = .ok (.iconst 1, 1) := by decide +kernel
theorem dX3_addEdge_85 : decode cX3_addEdge 85 = .ok (.iadd, 1) := by decide +kernel
theorem dX3_addEdge_86 : decode cX3_addEdge 86 = .ok (.ireturn, 1) := by decide +kernel
theorem dX3_addLoop_0 : decode cX3_addLoop 0 = .ok (.aload_n 0, 1) := by decide +kernel
theorem dX3_addLoop_1 : decode cX3_addLoop 1 = .ok (.getfield 47, 3) := by decide +kernel
theorem dX3_addLoop_4 : decode cX3_addLoop 4 = .ok (.iload_n 1, 1) := by decide +kernel
theorem dX3_addLoop_5 : decode cX3_addLoop 5 = .ok (.iload_n 1, 1) := by decide +kernel
theorem dX3_addLoop_6 : decode cX3_addLoop 6 = .ok (.iastore, 1) := by decide +kernel
theorem dX3_addLoop_7 : decode cX3_addLoop 7 = .ok (.aload_n 0, 1) := by decide +kernel
theorem dX3_addLoop_8 : decode cX3_addLoop 8 = .ok (.getfield 44, 3) := by decide +kernel
theorem dX3_addLoop_11 : decode cX3_addLoop 11 = .ok (.iload_n 1, 1) := by decide +kernel
theorem dX3_addLoop_12 : decode cX3_addLoop 12 = .ok (.dup2, 1) := by decide +kernel
theorem dX3_addLoop_13 : decode cX3_addLoop 13 = .ok (.iaload, 1) := by decide +kernel
theorem dX3_addLoop_14 : decode cX3_addLoop 14 = .ok (.iconst 1, 1) := by decide +kernel
theorem dX3_addLoop_15 : decode cX3_addLoop 15 = .ok (.iadd, 1) := by decide +kernel
theorem dX3_addLoop_16 : decode cX3_addLoop 16 = .ok (.iastore, 1) := by decide +kernel
theorem dX3_addLoop_17 : decode cX3_addLoop 17 = .ok (.iconst 0, 1) := by decide +kernel
theorem dX3_addLoop_18 : decode cX3_addLoop 18 = .ok (.istore_n 2, 1) := by decide +kernel
theorem dX3_addLoop_19 : decode cX3_addLoop 19 = .ok (.aload_n 0, 1) := by decide +kernel
theorem dX3_addLoop_20 : decode cX3_addLoop 20 = .ok (.getfield 24, 3) := by decide +kernel
theorem dX3_addLoop_23 : decode cX3_addLoop 23 = .ok (.iload_n 1, 1) := by decide +kernel
theorem dX3_addLoop_24 : decode cX3_addLoop 24 = .ok (.iaload, 1) := by decide +kernel
theorem dX3_addLoop_25 : decode cX3_addLoop 25 = .ok (.istore_n 3, 1) := by decide +kernel
theorem dX3_addLoop_26 : decode cX3_addLoop 26 = .ok (.iload_n 3, 1) := by decide +kernel
theorem dX3_addLoop_27 : decode cX3_addLoop 27 = .ok (.aload_n 0, 1) := by decide +kernel
theorem dX3_addLoop_28 : decode cX3_addLoop 28 = .ok (.getfield 24, 3) := by decide +kernel
theorem dX3_addLoop_31 : decode cX3_addLoop 31 = .ok (.iload_n 1, 1) := by decide +kernel
theorem dX3_addLoop_32 : decode cX3_addLoop 32 = .ok (.iconst 1, 1) := by decide +kernel
theorem dX3_addLoop_33 : decode cX3_addLoop 33 = .ok (.iadd, 1) := by decide +kernel
theorem dX3_addLoop_34 : decode cX3_addLoop 34 = .ok (.iaload, 1) := by decide +kernel
theorem dX3_addLoop_35 : decode cX3_addLoop 35 = .ok (.if_icmp .ge 50, 3) := by decide +kernel
theorem dX3_addLoop_38 : decode cX3_addLoop 38 = .ok (.aload_n 0, 1) := by decide +kernel
theorem dX3_addLoop_39 : decode cX3_addLoop 39 = .ok (.getfield 30, 3) := by decide +kernel
theorem dX3_addLoop_42 : decode cX3_addLoop 42 = .ok (.aload_n 0, 1) := by decide +kernel
theorem dX3_addLoop_43 : decode cX3_addLoop 43 = .ok (.getfield 27, 3) := by decide +kernel
theorem dX3_addLoop_46 : decode cX3_addLoop 46 = .ok (.iload_n 3, 1) := by decide +kernel
theorem dX3_addLoop_47 : decode cX3_addLoop 47 = .ok (.iaload, 1) := by decide +kernel
theorem dX3_addLoop_48 : decode cX3_addLoop 48 = .ok (.baload, 1) := by decide +kernel
theorem dX3_addLoop_49 : decode cX3_addLoop 49 = .ok (.ifCond .eq 30, 3) := by decide +kernel
theorem dX3_addLoop_52 : decode cX3_addLoop 52 = .ok (.aload_n 0, 1) := by decide +kernel
theorem dX3_addLoop_53 : decode cX3_addLoop 53 = .ok (.iload_n 1, 1) := by decide +kernel
theorem dX3_addLoop_54 : decode cX3_addLoop 54 = .ok (.aload_n 0, 1) := by decide +kernel
theorem dX3_addLoop_55 : decode cX3_addLoop 55 = .ok (.getfield 27, 3) := by decide +kernel
theorem dX3_addLoop_58 : decode cX3_addLoop 58 = .ok (.iload_n 3, 1) := by decide +kernel
theorem dX3_addLoop_59 : decode cX3_addLoop 59 = .ok (.iaload, 1) := by decide +kernel
theorem dX3_addLoop_60 : decode cX3_addLoop 60 = .ok (.invokevirtual 169, 3) := by decide +kernel
theorem dX3_addLoop_63 : decode cX3_addLoop 63 = .ok (.ifCond .eq 16, 3) := by decide +kernel
theorem dX3_addLoop_66 : decode cX3_addLoop 66 = .ok (.aload_n 0, 1) := by decide +kernel
theorem dX3_addLoop_67 : decode cX3_addLoop 67 = .ok (.iload_n 1, 1) := by decide +kernel
theorem dX3_addLoop_68 : decode cX3_addLoop 68 = .ok (.aload_n 0, 1) := by decide +kernel
theorem dX3_addLoop_69 : decode cX3_addLoop 69 = .ok (.getfield 27, 3) := by decide +kernel
theorem dX3_addLoop_72 : decode cX3_addLoop 72 = .ok (.iload_n 3, 1) := by decide +kernel
theorem dX3_addLoop_73 : decode cX3_addLoop 73 = .ok (.iaload, 1) := by decide +kernel
theorem dX3_addLoop_74 : decode cX3_addLoop 74 = .ok (.iload_n 2, 1) := by decide +kernel
theorem dX3_addLoop_75 : decode cX3_addLoop 75 = .ok (.invokevirtual 175, 3) := by decide +kernel
theorem dX3_addLoop_78 : decode cX3_addLoop 78 = .ok (.istore_n 2, 1) := by decide +kernel
theorem dX3_addLoop_79 : decode cX3_addLoop 79 = .ok (.iinc 3 1, 3) := by decide +kernel
theorem dX3_addLoop_82 : decode cX3_addLoop 82 = .ok (.goto (-56), 3) := by decide +kernel
theorem dX3_addLoop_85 : decode cX3_addLoop 85 = .ok (.iconst 0, 1) := by decide +kernel
theorem dX3_addLoop_86 : decode cX3_addLoop 86 = .ok (.istore_n 3, 1) := by decide +kernel
theorem dX3_addLoop_87 : decode cX3_addLoop 87 = .ok (.iload_n 2, 1) := by decide +kernel
theorem dX3_addLoop_88 : decode cX3_addLoop 88 = .ok (.ifCond .le 71, 3) := by decide +kernel
theorem dX3_addLoop_91 : decode cX3_addLoop 91 = .ok (.iload_n 3, 1) := by decide +kernel
theorem dX3_addLoop_92 : decode cX3_addLoop 92 = .ok (.aload_n 0, 1) := by decide +kernel
theorem dX3_addLoop_93 : decode cX3_addLoop 93 = .ok (.getfield 78, 3) := by decide +kernel
theorem dX3_addLoop_96 : decode cX3_addLoop 96 = .ok (.if_icmp .ge 63, 3) := by decide +kernel
theorem dX3_addLoop_99 : decode cX3_addLoop 99 = .ok (.iinc 2 (-1), 3) := by decide +kernel
theorem dX3_addLoop_102 : decode cX3_addLoop 102 = .ok (.aload_n 0, 1) := by decide +kernel
theorem dX3_addLoop_103 : decode cX3_addLoop 103 = .ok (.getfield 50, 3) := by decide +kernel
theorem dX3_addLoop_106 : decode cX3_addLoop 106 = .ok (.iload_n 2, 1) := by decide +kernel
theorem dX3_addLoop_107 : decode cX3_addLoop 107 = .ok (.iaload, 1) := by decide +kernel
theorem dX3_addLoop_108 : decode cX3_addLoop 108 = .ok (.istore 4, 2) := by decide +kernel
theorem dX3_addLoop_110 : decode cX3_addLoop 110 = .ok (.aload_n 0, 1) := by decide +kernel
theorem dX3_addLoop_111 : decode cX3_addLoop 111 = .ok (.getfield 24, 3) := by decide +kernel
theorem dX3_addLoop_114 : decode cX3_addLoop 114 = .ok (.iload 4, 2) := by decide +kernel
theorem dX3_addLoop_116 : decode cX3_addLoop 116 = .ok (.iaload, 1) := by decide +kernel
theorem dX3_addLoop_117 : decode cX3_addLoop 117 = .ok (.istore 5, 2) := by decide +kernel
theorem dX3_addLoop_119 : decode cX3_addLoop 119 = .ok (.iload 5, 2) := by decide +kernel
theorem dX3_addLoop_121 : decode cX3_addLoop 121 = .ok (.aload_n 0, 1) := by decide +kernel
theorem dX3_addLoop_122 : decode cX3_addLoop 122 = .ok (.getfield 24, 3) := by decide +kernel
theorem dX3_addLoop_125 : decode cX3_addLoop 125 = .ok (.iload 4, 2) := by decide +kernel
theorem dX3_addLoop_127 : decode cX3_addLoop 127 = .ok (.iconst 1, 1) := by decide +kernel
theorem dX3_addLoop_128 : decode cX3_addLoop 128 = .ok (.iadd, 1) := by decide +kernel
theorem dX3_addLoop_129 : decode cX3_addLoop 129 = .ok (.iaload, 1) := by decide +kernel
theorem dX3_addLoop_130 : decode cX3_addLoop 130 = .ok (.if_icmp .ge 23, 3) := by decide +kernel
theorem dX3_addLoop_133 : decode cX3_addLoop 133 = .ok (.aload_n 0, 1) := by decide +kernel
theorem dX3_addLoop_134 : decode cX3_addLoop 134 = .ok (.iload_n 1, 1) := by decide +kernel
theorem dX3_addLoop_135 : decode cX3_addLoop 135 = .ok (.aload_n 0, 1) := by decide +kernel
theorem dX3_addLoop_136 : decode cX3_addLoop 136 = .ok (.getfield 27, 3) := by decide +kernel
theorem dX3_addLoop_139 : decode cX3_addLoop 139 = .ok (.iload 5, 2) := by decide +kernel
theorem dX3_addLoop_141 : decode cX3_addLoop 141 = .ok (.iaload, 1) := by decide +kernel
theorem dX3_addLoop_142 : decode cX3_addLoop 142 = .ok (.iload_n 2, 1) := by decide +kernel
theorem dX3_addLoop_143 : decode cX3_addLoop 143 = .ok (.invokevirtual 175, 3) := by decide +kernel
theorem dX3_addLoop_146 : decode cX3_addLoop 146 = .ok (.istore_n 2, 1) := by decide +kernel
theorem dX3_addLoop_147 : decode cX3_addLoop 147 = .ok (.iinc 5 1, 3) := by decide +kernel
theorem dX3_addLoop_150 : decode cX3_addLoop 150 = .ok (.goto (-31), 3) := by decide +kernel
theorem dX3_addLoop_153 : decode cX3_addLoop 153 = .ok (.iinc 3 1, 3) := by decide +kernel
theorem dX3_addLoop_156 : decode cX3_addLoop 156 = .ok (.goto (-69), 3) := by decide +kernel
theorem dX3_addLoop_159 : decode cX3_addLoop 159 = .ok (.return_, 1) := by decide +kernel
theorem dX3_addToLoop_0 : decode cX3_addToLoop 0 = .ok (.aload_n 0, 1) := by decide +kernel
theorem dX3_addToLoop_1 : decode cX3_addToLoop 1 = .ok (.getfield 30, 3) := by decide +kernel
theorem dX3_addToLoop_4 : decode cX3_addToLoop 4 = .ok (.iload_n 2, 1) := by decide +kernel
theorem dX3_addToLoop_5 : decode cX3_addToLoop 5 = .ok (.baload, 1) := by decide +kernel
theorem dX3_addToLoop_6 : decode cX3_addToLoop 6 = .ok (.ifCond .eq 22, 3) := by decide +kernel
theorem dX3_addToLoop_9 : decode cX3_addToLoop 9 = .ok (.aload_n 0, 1) := by decide +kernel
theorem dX3_addToLoop_10 : decode cX3_addToLoop 10 = .ok (.getfield 47, 3) := by decide +kernel
theorem dX3_addToLoop_13 : decode cX3_addToLoop 13 = .ok (.iload_n 2, 1) := by decide +kernel
theorem dX3_addToLoop_14 : decode cX3_addToLoop 14 = .ok (.iaload, 1) := by decide +kernel
theorem dX3_addToLoop_15 : decode cX3_addToLoop 15 = .ok (.iload_n 1, 1) := by decide +kernel
theorem dX3_addToLoop_16 : decode cX3_addToLoop 16 = .ok (.if_icmp .eq 12, 3) := by decide +kernel
theorem dX3_addToLoop_19 : decode cX3_addToLoop 19 = .ok (.iload_n 3, 1) := by decide +kernel
theorem dX3_addToLoop_20 : decode cX3_addToLoop 20 = .ok (.aload_n 0, 1) := by decide +kernel
theorem dX3_addToLoop_21 : decode cX3_addToLoop 21 = .ok (.getfield 50, 3) := by decide +kernel
theorem dX3_addToLoop_24 : decode cX3_addToLoop 24 = .ok (.arraylength, 1) := by decide +kernel
theorem dX3_addToLoop_25 : decode cX3_addToLoop 25 = .ok (.if_icmp .lt 5, 3) := by decide +kernel
theorem dX3_addToLoop_28 : decode cX3_addToLoop 28 = .ok (.iload_n 3, 1) := by decide +kernel
theorem dX3_addToLoop_29 : decode cX3_addToLoop 29 = .ok (.ireturn, 1) := by decide +kernel
theorem dX3_addToLoop_30 : decode cX3_addToLoop 30 = .ok (.aload_n 0, 1) := by decide +kernel
theorem dX3_addToLoop_31 : decode cX3_addToLoop 31 = .ok (.getfield 47, 3) := by decide +kernel
theorem dX3_addToLoop_34 : decode cX3_addToLoop 34 = .ok (.iload_n 2, 1) := by decide +kernel
theorem dX3_addToLoop_35 : decode cX3_addToLoop 35 = .ok (.iload_n 1, 1) := by decide +kernel
theorem dX3_addToLoop_36 : decode cX3_addToLoop 36 = .ok (.iastore, 1) := by decide +kernel
theorem dX3_addToLoop_37 : decode cX3_addToLoop 37 = .ok (.aload_n 0, 1) := by decide +kernel
theorem dX3_addToLoop_38 : decode cX3_addToLoop 38 = .ok (.getfield 44, 3) := by decide +kernel
theorem dX3_addToLoop_41 : decode cX3_addToLoop 41 = .ok (.iload_n 2, 1) := by decide +kernel
theorem dX3_addToLoop_42 : decode cX3_addToLoop 42 = .ok (.dup2, 1) := by decide +kernel
theorem dX3_addToLoop_43 : decode cX3_addToLoop 43 = .ok (.iaload, 1) := by decide +kernel
theorem dX3_addToLoop_44 : decode cX3_addToLoop 44 = .ok (.iconst 1, 1) := by decide +kernel
theorem dX3_addToLoop_45 : decode cX3_addToLoop 45 = .ok (.iadd, 1) := by decide +kernel
theorem dX3_addToLoop_46 : decode cX3_addToLoop 46 = .ok (.iastore, 1) := by decide +kernel
theorem dX3_addToLoop_47 : decode cX3_addToLoop 47 = .ok (.aload_n 0, 1) := by decide +kernel
theorem dX3_addToLoop_48 : decode cX3_addToLoop 48 = .ok (.getfield 50, 3) := by decide +kernel
theorem dX3_addToLoop_51 : decode cX3_addToLoop 51 = .ok (.iload_n 3, 1) := by decide +kernel
theorem dX3_addToLoop_52 : decode cX3_addToLoop 52 = .ok (.iload_n 2, 1) := by decide +kernel
theorem dX3_addToLoop_53 : decode cX3_addToLoop 53 = .ok (.iastore, 1) := by decide +kernel
theorem dX3_addToLoop_54 : decode cX3_addToLoop 54 = .ok (.iload_n 3, 1) := by decide +kernel
theorem dX3_addToLoop_55 : decode cX3_addToLoop 55 = .ok (.iconst 1, 1) := by decide +kernel
theorem dX3_addToLoop_56 : decode cX3_addToLoop 56 = .ok (.iadd, 1) := by decide +kernel
theorem dX3_addToLoop_57 : decode cX3_addToLoop 57 = .ok (.ireturn, 1) := by decide +kernel
theorem dX3_begin_0 : decode cX3_begin 0 = .ok (.iload_n 1, 1) := by decide +kernel
theorem dX3_begin_1 : decode cX3_begin 1 = .ok (.ifCond .lt 21, 3) := by decide +kernel
theorem dX3_begin_4 : decode cX3_begin 4 = .ok (.iload_n 1, 1) := by decide +kernel
theorem dX3_begin_5 : decode cX3_begin 5 = .ok (.aload_n 0, 1) := by decide +kernel
theorem dX3_begin_6 : decode cX3_begin 6 = .ok (.getfield 53, 3) := by decide +kernel
theorem dX3_begin_9 : decode cX3_begin 9 = .ok (.getfield 82, 3) := by decide +kernel
theorem dX3_begin_12 : decode cX3_begin 12 = .ok (.if_icmp .ge 10, 3) := by decide +kernel
theorem dX3_begin_15 : decode cX3_begin 15 = .ok (.aload_n 0, 1) := by decide +kernel
theorem dX3_begin_16 : decode cX3_begin 16 = .ok (.getfield 15, 3) := by decide +kernel
theorem dX3_begin_19 : decode cX3_begin 19 = .ok (.iload_n 1, 1) := by decide +kernel
theorem dX3_begin_20 : decode cX3_begin 20 = .ok (.iconst 1, 1) := by decide +kernel
theorem dX3_begin_21 : decode cX3_begin 21 = .ok (.iastore, 1) := by decide +kernel
theorem dX3_begin_22 : decode cX3_begin 22 = .ok (.return_, 1) := by decide +kernel
theorem dX3_blockAt_0 : decode cX3_blockAt 0 = .ok (.iload_n 1, 1) := by decide +kernel
theorem dX3_blockAt_1 : decode cX3_blockAt 1 = .ok (.ifCond .lt 23, 3) := by decide +kernel
theorem dX3_blockAt_4 : decode cX3_blockAt 4 = .ok (.iload_n 1, 1) := by decide +kernel
theorem dX3_blockAt_5 : decode cX3_blockAt 5 = .ok (.aload_n 0, 1) := by decide +kernel
theorem dX3_blockAt_6 : decode cX3_blockAt 6 = .ok (.getfield 15, 3) := by decide +kernel
theorem dX3_blockAt_9 : decode cX3_blockAt 9 = .ok (.arraylength, 1) := by decide +kernel
theorem dX3_blockAt_10 : decode cX3_blockAt 10 = .ok (.if_icmp .ge 14, 3) := by decide +kernel
theorem dX3_blockAt_13 : decode cX3_blockAt 13 = .ok (.iload_n 1, 1) := by decide +kernel
theorem dX3_blockAt_14 : decode cX3_blockAt 14 = .ok (.aload_n 0, 1) := by decide +kernel
theorem dX3_blockAt_15 : decode cX3_blockAt 15 = .ok (.getfield 53, 3) := by decide +kernel
theorem dX3_blockAt_18 : decode cX3_blockAt 18 = .ok (.getfield 82, 3) := by decide +kernel
theorem dX3_blockAt_21 : decode cX3_blockAt 21 = .ok (.if_icmp .lt 5, 3) := by decide +kernel
theorem dX3_blockAt_24 : decode cX3_blockAt 24 = .ok (.iconst (-1), 1) := by decide +kernel
theorem dX3_blockAt_25 : decode cX3_blockAt 25 = .ok (.ireturn, 1) := by decide +kernel
theorem dX3_blockAt_26 : decode cX3_blockAt 26 = .ok (.aload_n 0, 1) := by decide +kernel
theorem dX3_blockAt_27 : decode cX3_blockAt 27 = .ok (.getfield 15, 3) := by decide +kernel
theorem dX3_blockAt_30 : decode cX3_blockAt 30 = .ok (.iload_n 1, 1) := by decide +kernel
theorem dX3_blockAt_31 : decode cX3_blockAt 31 = .ok (.iaload, 1) := by decide +kernel
theorem dX3_blockAt_32 : decode cX3_blockAt 32 = .ok (.istore_n 2, 1) := by decide +kernel
theorem dX3_blockAt_33 : decode cX3_blockAt 33 = .ok (.iload_n 2, 1) := by decide +kernel
theorem dX3_blockAt_34 : decode cX3_blockAt 34 = .ok (.ifCond .lt 25, 3) := by decide +kernel
theorem dX3_blockAt_37 : decode cX3_blockAt 37 = .ok (.iload_n 2, 1) := by decide +kernel
theorem dX3_blockAt_38 : decode cX3_blockAt 38 = .ok (.aload_n 0, 1) := by decide +kernel
theorem dX3_blockAt_39 : decode cX3_blockAt 39 = .ok (.getfield 78, 3) := by decide +kernel
theorem dX3_blockAt_42 : decode cX3_blockAt 42 = .ok (.if_icmp .ge 17, 3) := by decide +kernel
theorem dX3_blockAt_45 : decode cX3_blockAt 45 = .ok (.aload_n 0, 1) := by decide +kernel
theorem dX3_blockAt_46 : decode cX3_blockAt 46 = .ok (.getfield 9, 3) := by decide +kernel
theorem dX3_blockAt_49 : decode cX3_blockAt 49 = .ok (.iload_n 2, 1) := by decide +kernel
theorem dX3_blockAt_50 : decode cX3_blockAt 50 = .ok (.iaload, 1) := by decide +kernel
theorem dX3_blockAt_51 : decode cX3_blockAt 51 = .ok (.iload_n 1, 1) := by decide +kernel
theorem dX3_blockAt_52 : decode cX3_blockAt 52 = .ok (.if_icmp .ne 7, 3) := by decide +kernel
theorem dX3_blockAt_55 : decode cX3_blockAt 55 = .ok (.iload_n 2, 1) := by decide +kernel
theorem dX3_blockAt_56 : decode cX3_blockAt 56 = .ok (.goto 4, 3) := by decide +kernel
theorem dX3_blockAt_59 : decode cX3_blockAt 59 = .ok (.iconst (-1), 1) := by decide +kernel
theorem dX3_blockAt_60 : decode cX3_blockAt 60 = .ok (.ireturn, 1) := by decide +kernel
theorem dX3_dominates_0 : decode cX3_dominates 0 = .ok (.aload_n 0, 1) := by decide +kernel
theorem dX3_dominates_1 : decode cX3_dominates 1 = .ok (.getfield 34, 3) := by decide +kernel
theorem dX3_dominates_4 : decode cX3_dominates 4 = .ok (.iload_n 2, 1) := by decide +kernel
theorem dX3_dominates_5 : decode cX3_dominates 5 = .ok (.aload_n 0, 1) := by decide +kernel
theorem dX3_dominates_6 : decode cX3_dominates 6 = .ok (.getfield 124, 3) := by decide +kernel
theorem dX3_dominates_9 : decode cX3_dominates 9 = .ok (.imul, 1) := by decide +kernel
theorem dX3_dominates_10 : decode cX3_dominates 10 = .ok (.iload_n 1, 1) := by decide +kernel
theorem dX3_dominates_11 : decode cX3_dominates 11 = .ok (.bipush 6, 2) := by decide +kernel
theorem dX3_dominates_13 : decode cX3_dominates 13 = .ok (.ishr, 1) := by decide +kernel
theorem dX3_dominates_14 : decode cX3_dominates 14 = .ok (.iadd, 1) := by decide +kernel
theorem dX3_dominates_15 : decode cX3_dominates 15 = .ok (.laload, 1) := by decide +kernel
theorem dX3_dominates_16 : decode cX3_dominates 16 = .ok (.iload_n 1, 1) := by decide +kernel
theorem dX3_dominates_17 : decode cX3_dominates 17 = .ok (.bipush 63, 2) := by decide +kernel
theorem dX3_dominates_19 : decode cX3_dominates 19 = .ok (.iand, 1) := by decide +kernel
theorem dX3_dominates_20 : decode cX3_dominates 20 = .ok (.lushr, 1) := by decide +kernel
theorem dX3_dominates_21 : decode cX3_dominates 21 = .ok (.lconst 1, 1) := by decide +kernel
theorem dX3_dominates_22 : decode cX3_dominates 22 = .ok (.land, 1) := by decide +kernel
theorem dX3_dominates_23 : decode cX3_dominates 23 = .ok (.lconst 0, 1) := by decide +kernel
theorem dX3_dominates_24 : decode cX3_dominates 24 = .ok (.lcmp, 1) := by decide +kernel
theorem dX3_dominates_25 : decode cX3_dominates 25 = .ok (.ifCond .eq 7, 3) := by decide +kernel
theorem dX3_dominates_28 : decode cX3_dominates 28 = .ok (.iconst 1, 1) := by decide +kernel
theorem dX3_dominates_29 : decode cX3_dominates 29 = .ok (.goto 4, 3) := by decide +kernel
theorem dX3_dominates_32 : decode cX3_dominates 32 = .ok (.iconst 0, 1) := by decide +kernel
theorem dX3_dominates_33 : decode cX3_dominates 33 = .ok (.ireturn, 1) := by decide +kernel
theorem dX3_dominatorCount_0 : decode cX3_dominatorCount 0 = .ok (.iconst 0, 1) := by decide +kernel
theorem dX3_dominatorCount_1 : decode cX3_dominatorCount 1 = .ok (.istore_n 2, 1) := by decide +kernel
theorem dX3_dominatorCount_2 : decode cX3_dominatorCount 2 = .ok (.iconst 0, 1) := by decide +kernel
theorem dX3_dominatorCount_3 : decode cX3_dominatorCount 3 = .ok (.istore_n 3, 1) := by decide +kernel
theorem dX3_dominatorCount_4 : decode cX3_dominatorCount 4 = .ok (.iload_n 3, 1) := by decide +kernel
theorem dX3_dominatorCount_5 : decode cX3_dominatorCount 5 = .ok (.aload_n 0, 1) := by decide +kernel
theorem dX3_dominatorCount_6 : decode cX3_dominatorCount 6 = .ok (.getfield 124, 3) := by decide +kernel
theorem dX3_dominatorCount_9 : decode cX3_dominatorCount 9 = .ok (.if_icmp .ge 28, 3) := by decide +kernel
theorem dX3_dominatorCount_12 : decode cX3_dominatorCount 12 = .ok (.iload_n 2, 1) := by decide +kernel
theorem dX3_dominatorCount_13 : decode cX3_dominatorCount 13 = .ok (.aload_n 0, 1) := by decide +kernel
theorem dX3_dominatorCount_14 : decode cX3_dominatorCount 14 = .ok (.getfield 34, 3) := by decide +kernel
theorem dX3_dominatorCount_17 : decode cX3_dominatorCount 17 = .ok (.iload_n 1, 1) := by decide +kernel
theorem dX3_dominatorCount_18 : decode cX3_dominatorCount 18 = .ok (.aload_n 0, 1) := by decide +kernel
theorem dX3_dominatorCount_19 : decode cX3_dominatorCount 19 = .ok (.getfield 124, 3) := by decide +kernel
theorem dX3_dominatorCount_22 : decode cX3_dominatorCount 22 = .ok (.imul, 1) := by decide +kernel
theorem dX3_dominatorCount_23 : decode cX3_dominatorCount 23 = .ok (.iload_n 3, 1) := by decide +kernel
theorem dX3_dominatorCount_24 : decode cX3_dominatorCount 24 = .ok (.iadd, 1) := by decide +kernel
theorem dX3_dominatorCount_25 : decode cX3_dominatorCount 25 = .ok (.laload, 1) := by decide +kernel
theorem dX3_dominatorCount_26 : decode cX3_dominatorCount 26 = .ok (.invokestatic 160, 3) := by decide +kernel
theorem dX3_dominatorCount_29 : decode cX3_dominatorCount 29 = .ok (.iadd, 1) := by decide +kernel
theorem dX3_dominatorCount_30 : decode cX3_dominatorCount 30 = .ok (.istore_n 2, 1) := by decide +kernel
theorem dX3_dominatorCount_31 : decode cX3_dominatorCount 31 = .ok (.iinc 3 1, 3) := by decide +kernel
theorem dX3_dominatorCount_34 : decode cX3_dominatorCount 34 = .ok (.goto (-30), 3) := by decide +kernel
theorem dX3_dominatorCount_37 : decode cX3_dominatorCount 37 = .ok (.iload_n 2, 1) := by decide +kernel
theorem dX3_dominatorCount_38 : decode cX3_dominatorCount 38 = .ok (.ireturn, 1) := by decide +kernel
theorem dX3_draw_0 : decode cX3_draw 0 = .ok (.aload_n 1, 1) := by decide +kernel
theorem dX3_draw_1 : decode cX3_draw 1 = .ok (.ifnull 11, 3) := by decide +kernel
theorem dX3_draw_4 : decode cX3_draw 4 = .ok (.aload_n 1, 1) := by decide +kernel
theorem dX3_draw_5 : decode cX3_draw 5 = .ok (.aload_n 0, 1) := by decide +kernel
theorem dX3_draw_6 : decode cX3_draw 6 = .ok (.getfield 53, 3) := by decide +kernel
theorem dX3_draw_9 : decode cX3_draw 9 = .ok (.if_acmp .ne 4, 3) := by decide +kernel
theorem dX3_draw_12 : decode cX3_draw 12 = .ok (.return_, 1) := by decide +kernel
theorem dX3_draw_13 : decode cX3_draw 13 = .ok (.aload_n 0, 1) := by decide +kernel
theorem dX3_draw_14 : decode cX3_draw 14 = .ok (.aload_n 1, 1) := by decide +kernel
theorem dX3_draw_15 : decode cX3_draw 15 = .ok (.putfield 53, 3) := by decide +kernel
theorem dX3_draw_18 : decode cX3_draw 18 = .ok (.aload_n 0, 1) := by decide +kernel
theorem dX3_draw_19 : decode cX3_draw 19 = .ok (.invokevirtual 57, 3) := by decide +kernel
theorem dX3_draw_22 : decode cX3_draw 22 = .ok (.aload_n 0, 1) := by decide +kernel
theorem dX3_draw_23 : decode cX3_draw 23 = .ok (.invokevirtual 60, 3) := by decide +kernel
theorem dX3_draw_26 : decode cX3_draw 26 = .ok (.aload_n 0, 1) := by decide +kernel
theorem dX3_draw_27 : decode cX3_draw 27 = .ok (.invokevirtual 63, 3) := by decide +kernel
theorem dX3_draw_30 : decode cX3_draw 30 = .ok (.aload_n 0, 1) := by decide +kernel
theorem dX3_draw_31 : decode cX3_draw 31 = .ok (.invokevirtual 66, 3) := by decide +kernel
theorem dX3_draw_34 : decode cX3_draw 34 = .ok (.aload_n 0, 1) := by decide +kernel
theorem dX3_draw_35 : decode cX3_draw 35 = .ok (.invokevirtual 69, 3) := by decide +kernel
theorem dX3_draw_38 : decode cX3_draw 38 = .ok (.aload_n 0, 1) := by decide +kernel
theorem dX3_draw_39 : decode cX3_draw 39 = .ok (.invokevirtual 72, 3) := by decide +kernel
theorem dX3_draw_42 : decode cX3_draw 42 = .ok (.aload_n 0, 1) := by decide +kernel
theorem dX3_draw_43 : decode cX3_draw 43 = .ok (.invokevirtual 75, 3) := by decide +kernel
theorem dX3_draw_46 : decode cX3_draw 46 = .ok (.return_, 1) := by decide +kernel
theorem dX3_findBacks_0 : decode cX3_findBacks 0 = .ok (.aload_n 0, 1) := by decide +kernel
theorem dX3_findBacks_1 : decode cX3_findBacks 1 = .ok (.getfield 18, 3) := by decide +kernel
theorem dX3_findBacks_4 : decode cX3_findBacks 4 = .ok (.aload_n 0, 1) := by decide +kernel
theorem dX3_findBacks_5 : decode cX3_findBacks 5 = .ok (.getfield 78, 3) := by decide +kernel
theorem dX3_findBacks_8 : decode cX3_findBacks 8 = .ok (.iaload, 1) := by decide +kernel
theorem dX3_findBacks_9 : decode cX3_findBacks 9 = .ok (.istore_n 1, 1) := by decide +kernel
theorem dX3_findBacks_10 : decode cX3_findBacks 10 = .ok (.aload_n 0, 1) := by decide +kernel
theorem dX3_findBacks_11 : decode cX3_findBacks 11 = .ok (.getfield 27, 3) := by decide +kernel
theorem dX3_findBacks_14 : decode cX3_findBacks 14 = .ok (.arraylength, 1) := by decide +kernel
theorem dX3_findBacks_15 : decode cX3_findBacks 15 = .ok (.iload_n 1, 1) := by decide +kernel
theorem dX3_findBacks_16 : decode cX3_findBacks 16 = .ok (.if_icmp .ge 14, 3) := by decide +kernel
theorem dX3_findBacks_19 : decode cX3_findBacks 19 = .ok (.aload_n 0, 1) := by decide +kernel
theorem dX3_findBacks_20 : decode cX3_findBacks 20 = .ok (.aload_n 0, 1) := by decide +kernel
theorem dX3_findBacks_21 : decode cX3_findBacks 21 = .ok (.getfield 21, 3) := by decide +kernel
theorem dX3_findBacks_24 : decode cX3_findBacks 24 = .ok (.arraylength, 1) := by decide +kernel
theorem dX3_findBacks_25 : decode cX3_findBacks 25 = .ok (.newarray .int, 2) := by decide +kernel
theorem dX3_findBacks_27 : decode cX3_findBacks 27 = .ok (.putfield 27, 3) := by decide +kernel
theorem dX3_findBacks_30 : decode cX3_findBacks 30 = .ok (.aload_n 0, 1) := by decide +kernel
theorem dX3_findBacks_31 : decode cX3_findBacks 31 = .ok (.getfield 24, 3) := by decide +kernel
theorem dX3_findBacks_34 : decode cX3_findBacks 34 = .ok (.iconst 0, 1) := by decide +kernel
theorem dX3_findBacks_35 : decode cX3_findBacks 35 = .ok (.invokestatic 85, 3) := by decide +kernel
theorem dX3_findBacks_38 : decode cX3_findBacks 38 = .ok (.iconst 0, 1) := by decide +kernel
theorem dX3_findBacks_39 : decode cX3_findBacks 39 = .ok (.istore_n 2, 1) := by decide +kernel
theorem dX3_findBacks_40 : decode cX3_findBacks 40 = .ok (.iload_n 2, 1) := by decide +kernel
theorem dX3_findBacks_41 : decode cX3_findBacks 41 = .ok (.iload_n 1, 1) := by decide +kernel
theorem dX3_findBacks_42 : decode cX3_findBacks 42 = .ok (.if_icmp .ge 26, 3) := by decide +kernel
theorem dX3_findBacks_45 : decode cX3_findBacks 45 = .ok (.aload_n 0, 1) := by decide +kernel
theorem dX3_findBacks_46 : decode cX3_findBacks 46 = .ok (.getfield 24, 3) := by decide +kernel
theorem dX3_findBacks_49 : decode cX3_findBacks 49 = .ok (.aload_n 0, 1) := by decide +kernel
theorem dX3_findBacks_50 : decode cX3_findBacks 50 = .ok (.getfield 21, 3) := by decide +kernel
theorem dX3_findBacks_53 : decode cX3_findBacks 53 = .ok (.iload_n 2, 1) := by decide +kernel
theorem dX3_findBacks_54 : decode cX3_findBacks 54 = .ok (.iaload, 1) := by decide +kernel
theorem dX3_findBacks_55 : decode cX3_findBacks 55 = .ok (.iconst 1, 1) := by decide +kernel
theorem dX3_findBacks_56 : decode cX3_findBacks 56 = .ok (.iadd, 1) := by decide +kernel
theorem dX3_findBacks_57 : decode cX3_findBacks 57 = .ok (.dup2, 1) := by decide +kernel
theorem dX3_findBacks_58 : decode cX3_findBacks 58 = .ok (.iaload, 1) := by decide +kernel
theorem dX3_findBacks_59 : decode cX3_findBacks 59 = .ok (.iconst 1, 1) := by decide +kernel
theorem dX3_findBacks_60 : decode cX3_findBacks 60 = .ok (.iadd, 1) := by decide +kernel
theorem dX3_findBacks_61 : decode cX3_findBacks 61 = .ok (.iastore, 1) := by decide +kernel
theorem dX3_findBacks_62 : decode cX3_findBacks 62 = .ok (.iinc 2 1, 3) := by decide +kernel
theorem dX3_findBacks_65 : decode cX3_findBacks 65 = .ok (.goto (-25), 3) := by decide +kernel
theorem dX3_findBacks_68 : decode cX3_findBacks 68 = .ok (.iconst 0, 1) := by decide +kernel
theorem dX3_findBacks_69 : decode cX3_findBacks 69 = .ok (.istore_n 2, 1) := by decide +kernel
theorem dX3_findBacks_70 : decode cX3_findBacks 70 = .ok (.iload_n 2, 1) := by decide +kernel
theorem dX3_findBacks_71 : decode cX3_findBacks 71 = .ok (.aload_n 0, 1) := by decide +kernel
theorem dX3_findBacks_72 : decode cX3_findBacks 72 = .ok (.getfield 78, 3) := by decide +kernel
theorem dX3_findBacks_75 : decode cX3_findBacks 75 = .ok (.if_icmp .ge 26, 3) := by decide +kernel
theorem dX3_findBacks_78 : decode cX3_findBacks 78 = .ok (.aload_n 0, 1) := by decide +kernel
theorem dX3_findBacks_79 : decode cX3_findBacks 79 = .ok (.getfield 24, 3) := by decide +kernel
theorem dX3_findBacks_82 : decode cX3_findBacks 82 = .ok (.iload_n 2, 1) := by decide +kernel
theorem dX3_findBacks_83 : decode cX3_findBacks 83 = .ok (.iconst 1, 1) := by decide +kernel
theorem dX3_findBacks_84 : decode cX3_findBacks 84 = .ok (.iadd, 1) := by decide +kernel
theorem dX3_findBacks_85 : decode cX3_findBacks 85 = .ok (.dup2, 1) := by decide +kernel
theorem dX3_findBacks_86 : decode cX3_findBacks 86 = .ok (.iaload, 1) := by decide +kernel
theorem dX3_findBacks_87 : decode cX3_findBacks 87 = .ok (.aload_n 0, 1) := by decide +kernel
theorem dX3_findBacks_88 : decode cX3_findBacks 88 = .ok (.getfield 24, 3) := by decide +kernel
theorem dX3_findBacks_91 : decode cX3_findBacks 91 = .ok (.iload_n 2, 1) := by decide +kernel
theorem dX3_findBacks_92 : decode cX3_findBacks 92 = .ok (.iaload, 1) := by decide +kernel
theorem dX3_findBacks_93 : decode cX3_findBacks 93 = .ok (.iadd, 1) := by decide +kernel
theorem dX3_findBacks_94 : decode cX3_findBacks 94 = .ok (.iastore, 1) := by decide +kernel
theorem dX3_findBacks_95 : decode cX3_findBacks 95 = .ok (.iinc 2 1, 3) := by decide +kernel
theorem dX3_findBacks_98 : decode cX3_findBacks 98 = .ok (.goto (-28), 3) := by decide +kernel
theorem dX3_findBacks_101 : decode cX3_findBacks 101 = .ok (.aload_n 0, 1) := by decide +kernel
theorem dX3_findBacks_102 : decode cX3_findBacks 102 = .ok (.getfield 24, 3) := by decide +kernel
theorem dX3_findBacks_105 : decode cX3_findBacks 105 = .ok (.iconst 0, 1) := by decide +kernel
theorem dX3_findBacks_106 : decode cX3_findBacks 106 = .ok (.aload_n 0, 1) := by decide +kernel
theorem dX3_findBacks_107 : decode cX3_findBacks 107 = .ok (.getfield 47, 3) := by decide +kernel
theorem dX3_findBacks_110 : decode cX3_findBacks 110 = .ok (.iconst 0, 1) := by decide +kernel
theorem dX3_findBacks_111 : decode cX3_findBacks 111 = .ok (.aload_n 0, 1) := by decide +kernel
theorem dX3_findBacks_112 : decode cX3_findBacks 112 = .ok (.getfield 78, 3) := by decide +kernel
theorem dX3_findBacks_115 : decode cX3_findBacks 115 = .ok (.invokestatic 142, 3) := by decide +kernel
theorem dX3_findBacks_118 : decode cX3_findBacks 118 = .ok (.iconst 0, 1) := by decide +kernel
theorem dX3_findBacks_119 : decode cX3_findBacks 119 = .ok (.istore_n 2, 1) := by decide +kernel
theorem dX3_findBacks_120 : decode cX3_findBacks 120 = .ok (.iload_n 2, 1) := by decide +kernel
theorem dX3_findBacks_121 : decode cX3_findBacks 121 = .ok (.aload_n 0, 1) := by decide +kernel
theorem dX3_findBacks_122 : decode cX3_findBacks 122 = .ok (.getfield 78, 3) := by decide +kernel
theorem dX3_findBacks_125 : decode cX3_findBacks 125 = .ok (.if_icmp .ge 70, 3) := by decide +kernel
theorem dX3_findBacks_128 : decode cX3_findBacks 128 = .ok (.aload_n 0, 1) := by decide +kernel
theorem dX3_findBacks_129 : decode cX3_findBacks 129 = .ok (.getfield 18, 3) := by decide +kernel
theorem dX3_findBacks_132 : decode cX3_findBacks 132 = .ok (.iload_n 2, 1) := by decide +kernel
theorem dX3_findBacks_133 : decode cX3_findBacks 133 = .ok (.iaload, 1) := by decide +kernel
theorem dX3_findBacks_134 : decode cX3_findBacks 134 = .ok (.istore_n 3, 1) := by decide +kernel
theorem dX3_findBacks_135 : decode cX3_findBacks 135 = .ok (.iload_n 3, 1) := by decide +kernel
theorem dX3_findBacks_136 : decode cX3_findBacks 136 = .ok (.aload_n 0, 1) := by decide +kernel
theorem dX3_findBacks_137 : decode cX3_findBacks 137 = .ok (.getfield 18, 3) := by decide +kernel
theorem dX3_findBacks_140 : decode cX3_findBacks 140 = .ok (.iload_n 2, 1) := by decide +kernel
theorem dX3_findBacks_141 : decode cX3_findBacks 141 = .ok (.iconst 1, 1) := by decide +kernel
theorem dX3_findBacks_142 : decode cX3_findBacks 142 = .ok (.iadd, 1) := by decide +kernel
theorem dX3_findBacks_143 : decode cX3_findBacks 143 = .ok (.iaload, 1) := by decide +kernel
theorem dX3_findBacks_144 : decode cX3_findBacks 144 = .ok (.if_icmp .ge 45, 3) := by decide +kernel
theorem dX3_findBacks_147 : decode cX3_findBacks 147 = .ok (.aload_n 0, 1) := by decide +kernel
theorem dX3_findBacks_148 : decode cX3_findBacks 148 = .ok (.getfield 47, 3) := by decide +kernel
theorem dX3_findBacks_151 : decode cX3_findBacks 151 = .ok (.aload_n 0, 1) := by decide +kernel
theorem dX3_findBacks_152 : decode cX3_findBacks 152 = .ok (.getfield 21, 3) := by decide +kernel
theorem dX3_findBacks_155 : decode cX3_findBacks 155 = .ok (.iload_n 3, 1) := by decide +kernel
theorem dX3_findBacks_156 : decode cX3_findBacks 156 = .ok (.iaload, 1) := by decide +kernel
theorem dX3_findBacks_157 : decode cX3_findBacks 157 = .ok (.iaload, 1) := by decide +kernel
theorem dX3_findBacks_158 : decode cX3_findBacks 158 = .ok (.istore 4, 2) := by decide +kernel
theorem dX3_findBacks_160 : decode cX3_findBacks 160 = .ok (.aload_n 0, 1) := by decide +kernel
theorem dX3_findBacks_161 : decode cX3_findBacks 161 = .ok (.getfield 27, 3) := by decide +kernel
theorem dX3_findBacks_164 : decode cX3_findBacks 164 = .ok (.iload 4, 2) := by decide +kernel
theorem dX3_findBacks_166 : decode cX3_findBacks 166 = .ok (.iload_n 2, 1) := by decide +kernel
theorem dX3_findBacks_167 : decode cX3_findBacks 167 = .ok (.iastore, 1) := by decide +kernel
theorem dX3_findBacks_168 : decode cX3_findBacks 168 = .ok (.aload_n 0, 1) := by decide +kernel
theorem dX3_findBacks_169 : decode cX3_findBacks 169 = .ok (.getfield 47, 3) := by decide +kernel
theorem dX3_findBacks_172 : decode cX3_findBacks 172 = .ok (.aload_n 0, 1) := by decide +kernel
theorem dX3_findBacks_173 : decode cX3_findBacks 173 = .ok (.getfield 21, 3) := by decide +kernel
theorem dX3_findBacks_176 : decode cX3_findBacks 176 = .ok (.iload_n 3, 1) := by decide +kernel
theorem dX3_findBacks_177 : decode cX3_findBacks 177 = .ok (.iaload, 1) := by decide +kernel
theorem dX3_findBacks_178 : decode cX3_findBacks 178 = .ok (.dup2, 1) := by decide +kernel
theorem dX3_findBacks_179 : decode cX3_findBacks 179 = .ok (.iaload, 1) := by decide +kernel
theorem dX3_findBacks_180 : decode cX3_findBacks 180 = .ok (.iconst 1, 1) := by decide +kernel
theorem dX3_findBacks_181 : decode cX3_findBacks 181 = .ok (.iadd, 1) := by decide +kernel
theorem dX3_findBacks_182 : decode cX3_findBacks 182 = .ok (.iastore, 1) := by decide +kernel
theorem dX3_findBacks_183 : decode cX3_findBacks 183 = .ok (.iinc 3 1, 3) := by decide +kernel
theorem dX3_findBacks_186 : decode cX3_findBacks 186 = .ok (.goto (-51), 3) := by decide +kernel
theorem dX3_findBacks_189 : decode cX3_findBacks 189 = .ok (.iinc 2 1, 3) := by decide +kernel
theorem dX3_findBacks_192 : decode cX3_findBacks 192 = .ok (.goto (-72), 3) := by decide +kernel
theorem dX3_findBacks_195 : decode cX3_findBacks 195 = .ok (.return_, 1) := by decide +kernel
theorem dX3_findBlocks_0 : decode cX3_findBlocks 0 = .ok (.aload_n 0, 1) := by decide +kernel
theorem dX3_findBlocks_1 : decode cX3_findBlocks 1 = .ok (.getfield 15, 3) := by decide +kernel
theorem dX3_findBlocks_4 : decode cX3_findBlocks 4 = .ok (.arraylength, 1) := by decide +kernel
theorem dX3_findBlocks_5 : decode cX3_findBlocks 5 = .ok (.aload_n 0, 1) := by decide +kernel
theorem dX3_findBlocks_6 : decode cX3_findBlocks 6 = .ok (.getfield 53, 3) := by decide +kernel
theorem dX3_findBlocks_9 : decode cX3_findBlocks 9 = .ok (.getfield 82, 3) := by decide +kernel
theorem dX3_findBlocks_12 : decode cX3_findBlocks 12 = .ok (.if_icmp .ge 33, 3) := by decide +kernel
theorem dX3_findBlocks_15 : decode cX3_findBlocks 15 = .ok (.aload_n 0, 1) := by decide +kernel
theorem dX3_findBlocks_16 : decode cX3_findBlocks 16 = .ok (.iconst 2, 1) := by decide +kernel
theorem dX3_findBlocks_17 : decode cX3_findBlocks 17 = .ok (.aload_n 0, 1) := by decide +kernel
theorem dX3_findBlocks_18 : decode cX3_findBlocks 18 = .ok (.getfield 53, 3) := by decide +kernel
theorem dX3_findBlocks_21 : decode cX3_findBlocks 21 = .ok (.getfield 82, 3) := by decide +kernel
theorem dX3_findBlocks_24 : decode cX3_findBlocks 24 = .ok (.imul, 1) := by decide +kernel
theorem dX3_findBlocks_25 : decode cX3_findBlocks 25 = .ok (.newarray .int, 2) := by decide +kernel
theorem dX3_findBlocks_27 : decode cX3_findBlocks 27 = .ok (.putfield 15, 3) := by decide +kernel
theorem dX3_findBlocks_30 : decode cX3_findBlocks 30 = .ok (.aload_n 0, 1) := by decide +kernel
theorem dX3_findBlocks_31 : decode cX3_findBlocks 31 = .ok (.iconst 2, 1) := by decide +kernel
theorem dX3_findBlocks_32 : decode cX3_findBlocks 32 = .ok (.aload_n 0, 1) := by decide +kernel
theorem dX3_findBlocks_33 : decode cX3_findBlocks 33 = .ok (.getfield 53, 3) := by decide +kernel
theorem dX3_findBlocks_36 : decode cX3_findBlocks 36 = .ok (.getfield 82, 3) := by decide +kernel
theorem dX3_findBlocks_39 : decode cX3_findBlocks 39 = .ok (.imul, 1) := by decide +kernel
theorem dX3_findBlocks_40 : decode cX3_findBlocks 40 = .ok (.newarray .int, 2) := by decide +kernel
theorem dX3_findBlocks_42 : decode cX3_findBlocks 42 = .ok (.putfield 9, 3) := by decide +kernel
theorem dX3_findBlocks_45 : decode cX3_findBlocks 45 = .ok (.aload_n 0, 1) := by decide +kernel
theorem dX3_findBlocks_46 : decode cX3_findBlocks 46 = .ok (.getfield 15, 3) := by decide +kernel
theorem dX3_findBlocks_49 : decode cX3_findBlocks 49 = .ok (.iconst 0, 1) := by decide +kernel
theorem dX3_findBlocks_50 : decode cX3_findBlocks 50 = .ok (.invokestatic 85, 3) := by decide +kernel
theorem dX3_findBlocks_53 : decode cX3_findBlocks 53 = .ok (.aload_n 0, 1) := by decide +kernel
theorem dX3_findBlocks_54 : decode cX3_findBlocks 54 = .ok (.iconst 0, 1) := by decide +kernel
theorem dX3_findBlocks_55 : decode cX3_findBlocks 55 = .ok (.invokevirtual 91, 3) := by decide +kernel
theorem dX3_findBlocks_58 : decode cX3_findBlocks 58 = .ok (.iconst 0, 1) := by decide +kernel
theorem dX3_findBlocks_59 : decode cX3_findBlocks 59 = .ok (.istore_n 1, 1) := by decide +kernel
theorem dX3_findBlocks_60 : decode cX3_findBlocks 60 = .ok (.iload_n 1, 1) := by decide +kernel
theorem dX3_findBlocks_61 : decode cX3_findBlocks 61 = .ok (.aload_n 0, 1) := by decide +kernel
theorem dX3_findBlocks_62 : decode cX3_findBlocks 62 = .ok (.getfield 53, 3) := by decide +kernel
theorem dX3_findBlocks_65 : decode cX3_findBlocks 65 = .ok (.getfield 82, 3) := by decide +kernel
theorem dX3_findBlocks_68 : decode cX3_findBlocks 68 = .ok (.if_icmp .ge 69, 3) := by decide +kernel
theorem dX3_findBlocks_71 : decode cX3_findBlocks 71 = .ok (.aload_n 0, 1) := by decide +kernel
theorem dX3_findBlocks_72 : decode cX3_findBlocks 72 = .ok (.getfield 53, 3) := by decide +kernel
theorem dX3_findBlocks_75 : decode cX3_findBlocks 75 = .ok (.iload_n 1, 1) := by decide +kernel
theorem dX3_findBlocks_76 : decode cX3_findBlocks 76 = .ok (.invokevirtual 95, 3) := by decide +kernel
theorem dX3_findBlocks_79 : decode cX3_findBlocks 79 = .ok (.istore_n 2, 1) := by decide +kernel
theorem dX3_findBlocks_80 : decode cX3_findBlocks 80 = .ok (.iconst 0, 1) := by decide +kernel
theorem dX3_findBlocks_81 : decode cX3_findBlocks 81 = .ok (.istore_n 3, 1) := by decide +kernel
theorem dX3_findBlocks_82 : decode cX3_findBlocks 82 = .ok (.iload_n 3, 1) := by decide +kernel
theorem dX3_findBlocks_83 : decode cX3_findBlocks 83 = .ok (.iload_n 2, 1) := by decide +kernel
theorem dX3_findBlocks_84 : decode cX3_findBlocks 84 = .ok (.if_icmp .ge 22, 3) := by decide +kernel
theorem dX3_findBlocks_87 : decode cX3_findBlocks 87 = .ok (.aload_n 0, 1) := by decide +kernel
theorem dX3_findBlocks_88 : decode cX3_findBlocks 88 = .ok (.aload_n 0, 1) := by decide +kernel
theorem dX3_findBlocks_89 : decode cX3_findBlocks 89 = .ok (.getfield 53, 3) := by decide +kernel
theorem dX3_findBlocks_92 : decode cX3_findBlocks 92 = .ok (.iload_n 1, 1) := by decide +kernel
theorem dX3_findBlocks_93 : decode cX3_findBlocks 93 = .ok (.iload_n 3, 1) := by decide +kernel
theorem dX3_findBlocks_94 : decode cX3_findBlocks 94 = .ok (.invokevirtual 99, 3) := by decide +kernel
theorem dX3_findBlocks_97 : decode cX3_findBlocks 97 = .ok (.invokevirtual 91, 3) := by decide +kernel
theorem dX3_findBlocks_100 : decode cX3_findBlocks 100 = .ok (.iinc 3 1, 3) := by decide +kernel
theorem dX3_findBlocks_103 : decode cX3_findBlocks 103 = .ok (.goto (-21), 3) := by decide +kernel
theorem dX3_findBlocks_106 : decode cX3_findBlocks 106 = .ok (.iload_n 2, 1) := by decide +kernel
theorem dX3_findBlocks_107 : decode cX3_findBlocks 107 = .ok (.ifCond .gt 17, 3) := by decide +kernel
theorem dX3_findBlocks_110 : decode cX3_findBlocks 110 = .ok (.aload_n 0, 1) := by decide +kernel
theorem dX3_findBlocks_111 : decode cX3_findBlocks 111 = .ok (.getfield 53, 3) := by decide +kernel
theorem dX3_findBlocks_114 : decode cX3_findBlocks 114 = .ok (.iload_n 1, 1) := by decide +kernel
theorem dX3_findBlocks_115 : decode cX3_findBlocks 115 = .ok (.invokevirtual 103, 3) := by decide +kernel
theorem dX3_findBlocks_118 : decode cX3_findBlocks 118 = .ok (.invokestatic 106, 3) := by decide +kernel
theorem dX3_findBlocks_121 : decode cX3_findBlocks 121 = .ok (.ifCond .ne 10, 3) := by decide +kernel
theorem dX3_findBlocks_124 : decode cX3_findBlocks 124 = .ok (.aload_n 0, 1) := by decide +kernel
theorem dX3_findBlocks_125 : decode cX3_findBlocks 125 = .ok (.iload_n 1, 1) := by decide +kernel
theorem dX3_findBlocks_126 : decode cX3_findBlocks 126 = .ok (.iconst 1, 1) := by decide +kernel
theorem dX3_findBlocks_127 : decode cX3_findBlocks 127 = .ok (.iadd, 1) := by decide +kernel
theorem dX3_findBlocks_128 : decode cX3_findBlocks 128 = .ok (.invokevirtual 91, 3) := by decide +kernel
theorem dX3_findBlocks_131 : decode cX3_findBlocks 131 = .ok (.iinc 1 1, 3) := by decide +kernel
theorem dX3_findBlocks_134 : decode cX3_findBlocks 134 = .ok (.goto (-74), 3) := by decide +kernel
theorem dX3_findBlocks_137 : decode cX3_findBlocks 137 = .ok (.iconst 0, 1) := by decide +kernel
theorem dX3_findBlocks_138 : decode cX3_findBlocks 138 = .ok (.istore_n 1, 1) := by decide +kernel
theorem dX3_findBlocks_139 : decode cX3_findBlocks 139 = .ok (.iload_n 1, 1) := by decide +kernel
theorem dX3_findBlocks_140 : decode cX3_findBlocks 140 = .ok (.aload_n 0, 1) := by decide +kernel
theorem dX3_findBlocks_141 : decode cX3_findBlocks 141 = .ok (.getfield 53, 3) := by decide +kernel
theorem dX3_findBlocks_144 : decode cX3_findBlocks 144 = .ok (.getfield 112, 3) := by decide +kernel
theorem dX3_findBlocks_147 : decode cX3_findBlocks 147 = .ok (.if_icmp .ge 48, 3) := by decide +kernel
theorem dX3_findBlocks_150 : decode cX3_findBlocks 150 = .ok (.aload_n 0, 1) := by decide +kernel
theorem dX3_findBlocks_151 : decode cX3_findBlocks 151 = .ok (.aload_n 0, 1) := by decide +kernel
theorem dX3_findBlocks_152 : decode cX3_findBlocks 152 = .ok (.getfield 53, 3) := by decide +kernel
theorem dX3_findBlocks_155 : decode cX3_findBlocks 155 = .ok (.getfield 115, 3) := by decide +kernel
theorem dX3_findBlocks_158 : decode cX3_findBlocks 158 = .ok (.iload_n 1, 1) := by decide +kernel
theorem dX3_findBlocks_159 : decode cX3_findBlocks 159 = .ok (.iaload, 1) := by decide +kernel
theorem dX3_findBlocks_160 : decode cX3_findBlocks 160 = .ok (.invokevirtual 91, 3) := by decide +kernel
theorem dX3_findBlocks_163 : decode cX3_findBlocks 163 = .ok (.aload_n 0, 1) := by decide +kernel
theorem dX3_findBlocks_164 : decode cX3_findBlocks 164 = .ok (.aload_n 0, 1) := by decide +kernel
theorem dX3_findBlocks_165 : decode cX3_findBlocks 165 = .ok (.getfield 53, 3) := by decide +kernel
theorem dX3_findBlocks_168 : decode cX3_findBlocks 168 = .ok (.getfield 118, 3) := by decide +kernel
theorem dX3_findBlocks_171 : decode cX3_findBlocks 171 = .ok (.iload_n 1, 1) := by decide +kernel
theorem dX3_findBlocks_172 : decode cX3_findBlocks 172 = .ok (.iaload, 1) := by decide +kernel
theorem dX3_findBlocks_173 : decode cX3_findBlocks 173 = .ok (.invokevirtual 91, 3) := by decide +kernel
theorem dX3_findBlocks_176 : decode cX3_findBlocks 176 = .ok (.aload_n 0, 1) := by decide +kernel
theorem dX3_findBlocks_177 : decode cX3_findBlocks 177 = .ok (.aload_n 0, 1) := by decide +kernel
theorem dX3_findBlocks_178 : decode cX3_findBlocks 178 = .ok (.getfield 53, 3) := by decide +kernel
theorem dX3_findBlocks_181 : decode cX3_findBlocks 181 = .ok (.getfield 121, 3) := by decide +kernel
theorem dX3_findBlocks_184 : decode cX3_findBlocks 184 = .ok (.iload_n 1, 1) := by decide +kernel
theorem dX3_findBlocks_185 : decode cX3_findBlocks 185 = .ok (.iaload, 1) := by decide +kernel
theorem dX3_findBlocks_186 : decode cX3_findBlocks 186 = .ok (.invokevirtual 91, 3) := by decide +kernel
theorem dX3_findBlocks_189 : decode cX3_findBlocks 189 = .ok (.iinc 1 1, 3) := by decide +kernel
theorem dX3_findBlocks_192 : decode cX3_findBlocks 192 = .ok (.goto (-53), 3) := by decide +kernel
theorem dX3_findBlocks_195 : decode cX3_findBlocks 195 = .ok (.aload_n 0, 1) := by decide +kernel
theorem dX3_findBlocks_196 : decode cX3_findBlocks 196 = .ok (.iconst 0, 1) := by decide +kernel
theorem dX3_findBlocks_197 : decode cX3_findBlocks 197 = .ok (.putfield 78, 3) := by decide +kernel
theorem dX3_findBlocks_200 : decode cX3_findBlocks 200 = .ok (.iconst 0, 1) := by decide +kernel
theorem dX3_findBlocks_201 : decode cX3_findBlocks 201 = .ok (.istore_n 1, 1) := by decide +kernel
theorem dX3_findBlocks_202 : decode cX3_findBlocks 202 = .ok (.iload_n 1, 1) := by decide +kernel
theorem dX3_findBlocks_203 : decode cX3_findBlocks 203 = .ok (.aload_n 0, 1) := by decide +kernel
theorem dX3_findBlocks_204 : decode cX3_findBlocks 204 = .ok (.getfield 53, 3) := by decide +kernel
theorem dX3_findBlocks_207 : decode cX3_findBlocks 207 = .ok (.getfield 82, 3) := by decide +kernel
theorem dX3_findBlocks_210 : decode cX3_findBlocks 210 = .ok (.if_icmp .ge 50, 3) := by decide +kernel
theorem dX3_findBlocks_213 : decode cX3_findBlocks 213 = .ok (.aload_n 0, 1) := by decide +kernel
theorem dX3_findBlocks_214 : decode cX3_findBlocks 214 = .ok (.getfield 15, 3) := by decide +kernel
theorem dX3_findBlocks_217 : decode cX3_findBlocks 217 = .ok (.iload_n 1, 1) := by decide +kernel
theorem dX3_findBlocks_218 : decode cX3_findBlocks 218 = .ok (.iaload, 1) := by decide +kernel
theorem dX3_findBlocks_219 : decode cX3_findBlocks 219 = .ok (.ifCond .eq 23, 3) := by decide +kernel
theorem dX3_findBlocks_222 : decode cX3_findBlocks 222 = .ok (.aload_n 0, 1) := by decide +kernel
theorem dX3_findBlocks_223 : decode cX3_findBlocks 223 = .ok (.getfield 9, 3) := by decide +kernel
theorem dX3_findBlocks_226 : decode cX3_findBlocks 226 = .ok (.aload_n 0, 1) := by decide +kernel
theorem dX3_findBlocks_227 : decode cX3_findBlocks 227 = .ok (.getfield 78, 3) := by decide +kernel
theorem dX3_findBlocks_230 : decode cX3_findBlocks 230 = .ok (.iload_n 1, 1) := by decide +kernel
theorem dX3_findBlocks_231 : decode cX3_findBlocks 231 = .ok (.iastore, 1) := by decide +kernel
theorem dX3_findBlocks_232 : decode cX3_findBlocks 232 = .ok (.aload_n 0, 1) := by decide +kernel
theorem dX3_findBlocks_233 : decode cX3_findBlocks 233 = .ok (.dup, 1) := by decide +kernel
theorem dX3_findBlocks_234 : decode cX3_findBlocks 234 = .ok (.getfield 78, 3) := by decide +kernel
theorem dX3_findBlocks_237 : decode cX3_findBlocks 237 = .ok (.iconst 1, 1) := by decide +kernel
theorem dX3_findBlocks_238 : decode cX3_findBlocks 238 = .ok (.iadd, 1) := by decide +kernel
theorem dX3_findBlocks_239 : decode cX3_findBlocks 239 = .ok (.putfield 78, 3) := by decide +kernel
theorem dX3_findBlocks_242 : decode cX3_findBlocks 242 = .ok (.aload_n 0, 1) := by decide +kernel
theorem dX3_findBlocks_243 : decode cX3_findBlocks 243 = .ok (.getfield 15, 3) := by decide +kernel
theorem dX3_findBlocks_246 : decode cX3_findBlocks 246 = .ok (.iload_n 1, 1) := by decide +kernel
theorem dX3_findBlocks_247 : decode cX3_findBlocks 247 = .ok (.aload_n 0, 1) := by decide +kernel
theorem dX3_findBlocks_248 : decode cX3_findBlocks 248 = .ok (.getfield 78, 3) := by decide +kernel
theorem dX3_findBlocks_251 : decode cX3_findBlocks 251 = .ok (.iconst 1, 1) := by decide +kernel
theorem dX3_findBlocks_252 : decode cX3_findBlocks 252 = .ok (.isub, 1) := by decide +kernel
theorem dX3_findBlocks_253 : decode cX3_findBlocks 253 = .ok (.iastore, 1) := by decide +kernel
theorem dX3_findBlocks_254 : decode cX3_findBlocks 254 = .ok (.iinc 1 1, 3) := by decide +kernel
theorem dX3_findBlocks_257 : decode cX3_findBlocks 257 = .ok (.goto (-55), 3) := by decide +kernel
theorem dX3_findBlocks_260 : decode cX3_findBlocks 260 = .ok (.return_, 1) := by decide +kernel
theorem dX3_findDominators_0 : decode cX3_findDominators 0 = .ok (.aload_n 0, 1) := by decide +kernel
theorem dX3_findDominators_1 : decode cX3_findDominators 1 = .ok (.getfield 34, 3) := by decide +kernel
theorem dX3_findDominators_4 : decode cX3_findDominators 4 = .ok (.ldc2_w 148, 3) := by decide +kernel
theorem dX3_findDominators_7 : decode cX3_findDominators 7 = .ok (.invokestatic 150, 3) := by decide +kernel
theorem dX3_findDominators_10 : decode cX3_findDominators 10 = .ok (.iconst 0, 1) := by decide +kernel
theorem dX3_findDominators_11 : decode cX3_findDominators 11 = .ok (.istore_n 1, 1) := by decide +kernel
theorem dX3_findDominators_12 : decode cX3_findDominators 12 = .ok (.iload_n 1, 1) := by decide +kernel
theorem dX3_findDominators_13 : decode cX3_findDominators 13 = .ok (.aload_n 0, 1) := by decide +kernel
theorem dX3_findDominators_14 : decode cX3_findDominators 14 = .ok (.getfield 124, 3) := by decide +kernel
theorem dX3_findDominators_17 : decode cX3_findDominators 17 = .ok (.if_icmp .ge 24, 3) := by decide +kernel
theorem dX3_findDominators_20 : decode cX3_findDominators 20 = .ok (.aload_n 0, 1) := by decide +kernel
theorem dX3_findDominators_21 : decode cX3_findDominators 21 = .ok (.getfield 34, 3) := by decide +kernel
theorem dX3_findDominators_24 : decode cX3_findDominators 24 = .ok (.iload_n 1, 1) := by decide +kernel
theorem dX3_findDominators_25 : decode cX3_findDominators 25 = .ok (.iload_n 1, 1) := by decide +kernel
theorem dX3_findDominators_26 : decode cX3_findDominators 26 = .ok (.ifCond .ne 7, 3) := by decide +kernel
theorem dX3_findDominators_29 : decode cX3_findDominators 29 = .ok (.lconst 1, 1) := by decide +kernel
theorem dX3_findDominators_30 : decode cX3_findDominators 30 = .ok (.goto 4, 3) := by decide +kernel
theorem dX3_findDominators_33 : decode cX3_findDominators 33 = .ok (.lconst 0, 1) := by decide +kernel
theorem dX3_findDominators_34 : decode cX3_findDominators 34 = .ok (.lastore, 1) := by decide +kernel
theorem dX3_findDominators_35 : decode cX3_findDominators 35 = .ok (.iinc 1 1, 3) := by decide +kernel
theorem dX3_findDominators_38 : decode cX3_findDominators 38 = .ok (.goto (-26), 3) := by decide +kernel
theorem dX3_findDominators_41 : decode cX3_findDominators 41 = .ok (.iconst 1, 1) := by decide +kernel
theorem dX3_findDominators_42 : decode cX3_findDominators 42 = .ok (.istore_n 1, 1) := by decide +kernel
theorem dX3_findDominators_43 : decode cX3_findDominators 43 = .ok (.iconst 0, 1) := by decide +kernel
theorem dX3_findDominators_44 : decode cX3_findDominators 44 = .ok (.istore_n 2, 1) := by decide +kernel
theorem dX3_findDominators_45 : decode cX3_findDominators 45 = .ok (.iload_n 1, 1) := by decide +kernel
theorem dX3_findDominators_46 : decode cX3_findDominators 46 = .ok (.ifCond .eq 84, 3) := by decide +kernel
theorem dX3_findDominators_49 : decode cX3_findDominators 49 = .ok (.iload_n 2, 1) := by decide +kernel
theorem dX3_findDominators_50 : decode cX3_findDominators 50 = .ok (.ldc 153, 2) := by decide +kernel
theorem dX3_findDominators_52 : decode cX3_findDominators 52 = .ok (.if_icmp .ge 78, 3) := by decide +kernel
theorem dX3_findDominators_55 : decode cX3_findDominators 55 = .ok (.iconst 0, 1) := by decide +kernel
theorem dX3_findDominators_56 : decode cX3_findDominators 56 = .ok (.istore_n 1, 1) := by decide +kernel
theorem dX3_findDominators_57 : decode cX3_findDominators 57 = .ok (.iconst 0, 1) := by decide +kernel
theorem dX3_findDominators_58 : decode cX3_findDominators 58 = .ok (.istore_n 3, 1) := by decide +kernel
theorem dX3_findDominators_59 : decode cX3_findDominators 59 = .ok (.iload_n 3, 1) := by decide +kernel
theorem dX3_findDominators_60 : decode cX3_findDominators 60 = .ok (.aload_n 0, 1) := by decide +kernel
theorem dX3_findDominators_61 : decode cX3_findDominators 61 = .ok (.getfield 78, 3) := by decide +kernel
theorem dX3_findDominators_64 : decode cX3_findDominators 64 = .ok (.if_icmp .ge 60, 3) := by decide +kernel
theorem dX3_findDominators_67 : decode cX3_findDominators 67 = .ok (.aload_n 0, 1) := by decide +kernel
theorem dX3_findDominators_68 : decode cX3_findDominators 68 = .ok (.getfield 18, 3) := by decide +kernel
theorem dX3_findDominators_71 : decode cX3_findDominators 71 = .ok (.iload_n 3, 1) := by decide +kernel
theorem dX3_findDominators_72 : decode cX3_findDominators 72 = .ok (.iaload, 1) := by decide +kernel
theorem dX3_findDominators_73 : decode cX3_findDominators 73 = .ok (.istore 4, 2) := by decide +kernel
theorem dX3_findDominators_75 : decode cX3_findDominators 75 = .ok (.aload_n 0, 1) := by decide +kernel
theorem dX3_findDominators_76 : decode cX3_findDominators 76 = .ok (.getfield 30, 3) := by decide +kernel
theorem dX3_findDominators_79 : decode cX3_findDominators 79 = .ok (.iload_n 3, 1) := by decide +kernel
theorem dX3_findDominators_80 : decode cX3_findDominators 80 = .ok (.baload, 1) := by decide +kernel
theorem dX3_findDominators_81 : decode cX3_findDominators 81 = .ok (.ifCond .eq 37, 3) := by decide +kernel
theorem dX3_findDominators_84 : decode cX3_findDominators 84 = .ok (.iload 4, 2) := by decide +kernel
theorem dX3_findDominators_86 : decode cX3_findDominators 86 = .ok (.aload_n 0, 1) := by decide +kernel
theorem dX3_findDominators_87 : decode cX3_findDominators 87 = .ok (.getfield 18, 3) := by decide +kernel
theorem dX3_findDominators_90 : decode cX3_findDominators 90 = .ok (.iload_n 3, 1) := by decide +kernel
theorem dX3_findDominators_91 : decode cX3_findDominators 91 = .ok (.iconst 1, 1) := by decide +kernel
theorem dX3_findDominators_92 : decode cX3_findDominators 92 = .ok (.iadd, 1) := by decide +kernel
theorem dX3_findDominators_93 : decode cX3_findDominators 93 = .ok (.iaload, 1) := by decide +kernel
theorem dX3_findDominators_94 : decode cX3_findDominators 94 = .ok (.if_icmp .ge 24, 3) := by decide +kernel
theorem dX3_findDominators_97 : decode cX3_findDominators 97 = .ok (.iload_n 1, 1) := by decide +kernel
theorem dX3_findDominators_98 : decode cX3_findDominators 98 = .ok (.aload_n 0, 1) := by decide +kernel
theorem dX3_findDominators_99 : decode cX3_findDominators 99 = .ok (.aload_n 0, 1) := by decide +kernel
theorem dX3_findDominators_100 : decode cX3_findDominators 100 = .ok (.getfield 21, 3) := by decide +kernel
theorem dX3_findDominators_103 : decode cX3_findDominators 103 = .ok (.iload 4, 2) := by decide +kernel
theorem dX3_findDominators_105 : decode cX3_findDominators 105 = .ok (.iaload, 1) := by decide +kernel
theorem dX3_findDominators_106 : decode cX3_findDominators 106 = .ok (.iload_n 3, 1) := by decide +kernel
theorem dX3_findDominators_107 : decode cX3_findDominators 107 = .ok (.invokevirtual 154, 3) := by decide +kernel
theorem dX3_findDominators_110 : decode cX3_findDominators 110 = .ok (.ior, 1) := by decide +kernel
theorem dX3_findDominators_111 : decode cX3_findDominators 111 = .ok (.istore_n 1, 1) := by decide +kernel
theorem dX3_findDominators_112 : decode cX3_findDominators 112 = .ok (.iinc 4 1, 3) := by decide +kernel
theorem dX3_findDominators_115 : decode cX3_findDominators 115 = .ok (.goto (-40), 3) := by decide +kernel
theorem dX3_findDominators_118 : decode cX3_findDominators 118 = .ok (.iinc 3 1, 3) := by decide +kernel
theorem dX3_findDominators_121 : decode cX3_findDominators 121 = .ok (.goto (-62), 3) := by decide +kernel
theorem dX3_findDominators_124 : decode cX3_findDominators 124 = .ok (.iinc 2 1, 3) := by decide +kernel
theorem dX3_findDominators_127 : decode cX3_findDominators 127 = .ok (.goto (-82), 3) := by decide +kernel
theorem dX3_findDominators_130 : decode cX3_findDominators 130 = .ok (.iconst 0, 1) := by decide +kernel
theorem dX3_findDominators_131 : decode cX3_findDominators 131 = .ok (.istore_n 2, 1) := by decide +kernel
theorem dX3_findDominators_132 : decode cX3_findDominators 132 = .ok (.iload_n 2, 1) := by decide +kernel
theorem dX3_findDominators_133 : decode cX3_findDominators 133 = .ok (.aload_n 0, 1) := by decide +kernel
theorem dX3_findDominators_134 : decode cX3_findDominators 134 = .ok (.getfield 78, 3) := by decide +kernel
theorem dX3_findDominators_137 : decode cX3_findDominators 137 = .ok (.if_icmp .ge 33, 3) := by decide +kernel
theorem dX3_findDominators_140 : decode cX3_findDominators 140 = .ok (.aload_n 0, 1) := by decide +kernel
theorem dX3_findDominators_141 : decode cX3_findDominators 141 = .ok (.getfield 38, 3) := by decide +kernel
theorem dX3_findDominators_144 : decode cX3_findDominators 144 = .ok (.iload_n 2, 1) := by decide +kernel
theorem dX3_findDominators_145 : decode cX3_findDominators 145 = .ok (.aload_n 0, 1) := by decide +kernel
theorem dX3_findDominators_146 : decode cX3_findDominators 146 = .ok (.getfield 30, 3) := by decide +kernel
theorem dX3_findDominators_149 : decode cX3_findDominators 149 = .ok (.iload_n 2, 1) := by decide +kernel
theorem dX3_findDominators_150 : decode cX3_findDominators 150 = .ok (.baload, 1) := by decide +kernel
theorem dX3_findDominators_151 : decode cX3_findDominators 151 = .ok (.ifCond .eq 11, 3) := by decide +kernel
theorem dX3_findDominators_154 : decode cX3_findDominators 154 = .ok (.aload_n 0, 1) := by decide +kernel
theorem dX3_findDominators_155 : decode cX3_findDominators 155 = .ok (.iload_n 2, 1) := by decide +kernel
theorem dX3_findDominators_156 : decode cX3_findDominators 156 = .ok (.invokevirtual 157, 3) := by decide +kernel
theorem dX3_findDominators_159 : decode cX3_findDominators 159 = .ok (.goto 4, 3) := by decide +kernel
theorem dX3_findDominators_162 : decode cX3_findDominators 162 = .ok (.iconst (-1), 1) := by decide +kernel
theorem dX3_findDominators_163 : decode cX3_findDominators 163 = .ok (.iastore, 1) := by decide +kernel
theorem dX3_findDominators_164 : decode cX3_findDominators 164 = .ok (.iinc 2 1, 3) := by decide +kernel
theorem dX3_findDominators_167 : decode cX3_findDominators 167 = .ok (.goto (-35), 3) := by decide +kernel
theorem dX3_findDominators_170 : decode cX3_findDominators 170 = .ok (.return_, 1) := by decide +kernel
theorem dX3_findEdges_0 : decode cX3_findEdges 0 = .ok (.aload_n 0, 1) := by decide +kernel
theorem dX3_findEdges_1 : decode cX3_findEdges 1 = .ok (.getfield 47, 3) := by decide +kernel
theorem dX3_findEdges_4 : decode cX3_findEdges 4 = .ok (.iconst (-1), 1) := by decide +kernel
theorem dX3_findEdges_5 : decode cX3_findEdges 5 = .ok (.invokestatic 85, 3) := by decide +kernel
theorem dX3_findEdges_8 : decode cX3_findEdges 8 = .ok (.iconst 0, 1) := by decide +kernel
theorem dX3_findEdges_9 : decode cX3_findEdges 9 = .ok (.istore_n 1, 1) := by decide +kernel
theorem dX3_findEdges_10 : decode cX3_findEdges 10 = .ok (.iconst 0, 1) := by decide +kernel
theorem dX3_findEdges_11 : decode cX3_findEdges 11 = .ok (.istore_n 2, 1) := by decide +kernel
theorem dX3_findEdges_12 : decode cX3_findEdges 12 = .ok (.iload_n 2, 1) := by decide +kernel
theorem dX3_findEdges_13 : decode cX3_findEdges 13 = .ok (.aload_n 0, 1) := by decide +kernel
theorem dX3_findEdges_14 : decode cX3_findEdges 14 = .ok (.getfield 78, 3) := by decide +kernel
theorem dX3_findEdges_17 : decode cX3_findEdges 17 = .ok (.if_icmp .ge 140, 3) := by decide +kernel
theorem dX3_findEdges_20 : decode cX3_findEdges 20 = .ok (.aload_n 0, 1) := by decide +kernel
theorem dX3_findEdges_21 : decode cX3_findEdges 21 = .ok (.getfield 18, 3) := by decide +kernel
theorem dX3_findEdges_24 : decode cX3_findEdges 24 = .ok (.iload_n 2, 1) := by decide +kernel
theorem dX3_findEdges_25 : decode cX3_findEdges 25 = .ok (.iload_n 1, 1) := by decide +kernel
theorem dX3_findEdges_26 : decode cX3_findEdges 26 = .ok (.iastore, 1) := by decide +kernel
theorem dX3_findEdges_27 : decode cX3_findEdges 27 = .ok (.aload_n 0, 1) := by decide +kernel
theorem dX3_findEdges_28 : decode cX3_findEdges 28 = .ok (.iload_n 2, 1) := by decide +kernel
theorem dX3_findEdges_29 : decode cX3_findEdges 29 = .ok (.invokevirtual 127, 3) := by decide +kernel
theorem dX3_findEdges_32 : decode cX3_findEdges 32 = .ok (.istore_n 3, 1) := by decide +kernel
theorem dX3_findEdges_33 : decode cX3_findEdges 33 = .ok (.aload_n 0, 1) := by decide +kernel
theorem dX3_findEdges_34 : decode cX3_findEdges 34 = .ok (.getfield 53, 3) := by decide +kernel
theorem dX3_findEdges_37 : decode cX3_findEdges 37 = .ok (.iload_n 3, 1) := by decide +kernel
theorem dX3_findEdges_38 : decode cX3_findEdges 38 = .ok (.invokevirtual 103, 3) := by decide +kernel
theorem dX3_findEdges_41 : decode cX3_findEdges 41 = .ok (.invokestatic 106, 3) := by decide +kernel
theorem dX3_findEdges_44 : decode cX3_findEdges 44 = .ok (.ifCond .eq 13, 3) := by decide +kernel
theorem dX3_findEdges_47 : decode cX3_findEdges 47 = .ok (.aload_n 0, 1) := by decide +kernel
theorem dX3_findEdges_48 : decode cX3_findEdges 48 = .ok (.iload_n 2, 1) := by decide +kernel
theorem dX3_findEdges_49 : decode cX3_findEdges 49 = .ok (.iload_n 3, 1) := by decide +kernel
theorem dX3_findEdges_50 : decode cX3_findEdges 50 = .ok (.iconst 1, 1) := by decide +kernel
theorem dX3_findEdges_51 : decode cX3_findEdges 51 = .ok (.iadd, 1) := by decide +kernel
theorem dX3_findEdges_52 : decode cX3_findEdges 52 = .ok (.iload_n 1, 1) := by decide +kernel
theorem dX3_findEdges_53 : decode cX3_findEdges 53 = .ok (.invokevirtual 130, 3) := by decide +kernel
theorem dX3_findEdges_56 : decode cX3_findEdges 56 = .ok (.istore_n 1, 1) := by decide +kernel
theorem dX3_findEdges_57 : decode cX3_findEdges 57 = .ok (.aload_n 0, 1) := by decide +kernel
theorem dX3_findEdges_58 : decode cX3_findEdges 58 = .ok (.getfield 53, 3) := by decide +kernel
theorem dX3_findEdges_61 : decode cX3_findEdges 61 = .ok (.iload_n 3, 1) := by decide +kernel
theorem dX3_findEdges_62 : decode cX3_findEdges 62 = .ok (.invokevirtual 95, 3) := by decide +kernel
theorem dX3_findEdges_65 : decode cX3_findEdges 65 = .ok (.istore 4, 2) := by decide +kernel
theorem dX3_findEdges_67 : decode cX3_findEdges 67 = .ok (.iconst 0, 1) := by decide +kernel
theorem dX3_findEdges_68 : decode cX3_findEdges 68 = .ok (.istore 5, 2) := by decide +kernel
theorem dX3_findEdges_70 : decode cX3_findEdges 70 = .ok (.iload 5, 2) := by decide +kernel
theorem dX3_findEdges_72 : decode cX3_findEdges 72 = .ok (.iload 4, 2) := by decide +kernel
theorem dX3_findEdges_74 : decode cX3_findEdges 74 = .ok (.if_icmp .ge 26, 3) := by decide +kernel
theorem dX3_findEdges_77 : decode cX3_findEdges 77 = .ok (.aload_n 0, 1) := by decide +kernel
theorem dX3_findEdges_78 : decode cX3_findEdges 78 = .ok (.iload_n 2, 1) := by decide +kernel
theorem dX3_findEdges_79 : decode cX3_findEdges 79 = .ok (.aload_n 0, 1) := by decide +kernel
theorem dX3_findEdges_80 : decode cX3_findEdges 80 = .ok (.getfield 53, 3) := by decide +kernel
theorem dX3_findEdges_83 : decode cX3_findEdges 83 = .ok (.iload_n 3, 1) := by decide +kernel
theorem dX3_findEdges_84 : decode cX3_findEdges 84 = .ok (.iload 5, 2) := by decide +kernel
theorem dX3_findEdges_86 : decode cX3_findEdges 86 = .ok (.invokevirtual 99, 3) := by decide +kernel
theorem dX3_findEdges_89 : decode cX3_findEdges 89 = .ok (.iload_n 1, 1) := by decide +kernel
theorem dX3_findEdges_90 : decode cX3_findEdges 90 = .ok (.invokevirtual 130, 3) := by decide +kernel
theorem dX3_findEdges_93 : decode cX3_findEdges 93 = .ok (.istore_n 1, 1) := by decide +kernel
theorem dX3_findEdges_94 : decode cX3_findEdges 94 = .ok (.iinc 5 1, 3) := by decide +kernel
theorem dX3_findEdges_97 : decode cX3_findEdges 97 = .ok (.goto (-27), 3) := by decide +kernel
theorem dX3_findEdges_100 : decode cX3_findEdges 100 = .ok (.iconst 0, 1) := by decide +kernel
theorem dX3_findEdges_101 : decode cX3_findEdges 101 = .ok (.istore 5, 2) := by decide +kernel
theorem dX3_findEdges_103 : decode cX3_findEdges 103 = .ok (.iload 5, 2) := by decide +kernel
theorem dX3_findEdges_105 : decode cX3_findEdges 105 = .ok (.aload_n 0, 1) := by decide +kernel
theorem dX3_findEdges_106 : decode cX3_findEdges 106 = .ok (.getfield 53, 3) := by decide +kernel
theorem dX3_findEdges_109 : decode cX3_findEdges 109 = .ok (.getfield 112, 3) := by decide +kernel
theorem dX3_findEdges_112 : decode cX3_findEdges 112 = .ok (.if_icmp .ge 39, 3) := by decide +kernel
theorem dX3_findEdges_115 : decode cX3_findEdges 115 = .ok (.aload_n 0, 1) := by decide +kernel
theorem dX3_findEdges_116 : decode cX3_findEdges 116 = .ok (.getfield 53, 3) := by decide +kernel
theorem dX3_findEdges_119 : decode cX3_findEdges 119 = .ok (.iload 5, 2) := by decide +kernel
theorem dX3_findEdges_121 : decode cX3_findEdges 121 = .ok (.iload_n 3, 1) := by decide +kernel
theorem dX3_findEdges_122 : decode cX3_findEdges 122 = .ok (.invokevirtual 134, 3) := by decide +kernel
theorem dX3_findEdges_125 : decode cX3_findEdges 125 = .ok (.ifCond .eq 20, 3) := by decide +kernel
theorem dX3_findEdges_128 : decode cX3_findEdges 128 = .ok (.aload_n 0, 1) := by decide +kernel
theorem dX3_findEdges_129 : decode cX3_findEdges 129 = .ok (.iload_n 2, 1) := by decide +kernel
theorem dX3_findEdges_130 : decode cX3_findEdges 130 = .ok (.aload_n 0, 1) := by decide +kernel
theorem dX3_findEdges_131 : decode cX3_findEdges 131 = .ok (.getfield 53, 3) := by decide +kernel
theorem dX3_findEdges_134 : decode cX3_findEdges 134 = .ok (.getfield 121, 3) := by decide +kernel
theorem dX3_findEdges_137 : decode cX3_findEdges 137 = .ok (.iload 5, 2) := by decide +kernel
theorem dX3_findEdges_139 : decode cX3_findEdges 139 = .ok (.iaload, 1) := by decide +kernel
theorem dX3_findEdges_140 : decode cX3_findEdges 140 = .ok (.iload_n 1, 1) := by decide +kernel
theorem dX3_findEdges_141 : decode cX3_findEdges 141 = .ok (.invokevirtual 130, 3) := by decide +kernel
theorem dX3_findEdges_144 : decode cX3_findEdges 144 = .ok (.istore_n 1, 1) := by decide +kernel
theorem dX3_findEdges_145 : decode cX3_findEdges 145 = .ok (.iinc 5 1, 3) := by decide +kernel
theorem dX3_findEdges_148 : decode cX3_findEdges 148 = .ok (.goto (-45), 3) := by decide +kernel
theorem dX3_findEdges_151 : decode cX3_findEdges 151 = .ok (.iinc 2 1, 3) := by decide +kernel
theorem dX3_findEdges_154 : decode cX3_findEdges 154 = .ok (.goto (-142), 3) := by decide +kernel
theorem dX3_findEdges_157 : decode cX3_findEdges 157 = .ok (.aload_n 0, 1) := by decide +kernel
theorem dX3_findEdges_158 : decode cX3_findEdges 158 = .ok (.getfield 18, 3) := by decide +kernel
theorem dX3_findEdges_161 : decode cX3_findEdges 161 = .ok (.aload_n 0, 1) := by decide +kernel
theorem dX3_findEdges_162 : decode cX3_findEdges 162 = .ok (.getfield 78, 3) := by decide +kernel
theorem dX3_findEdges_165 : decode cX3_findEdges 165 = .ok (.iload_n 1, 1) := by decide +kernel
theorem dX3_findEdges_166 : decode cX3_findEdges 166 = .ok (.iastore, 1) := by decide +kernel
theorem dX3_findEdges_167 : decode cX3_findEdges 167 = .ok (.return_, 1) := by decide +kernel
theorem dX3_findLoops_0 : decode cX3_findLoops 0 = .ok (.aload_n 0, 1) := by decide +kernel
theorem dX3_findLoops_1 : decode cX3_findLoops 1 = .ok (.getfield 44, 3) := by decide +kernel
theorem dX3_findLoops_4 : decode cX3_findLoops 4 = .ok (.iconst 0, 1) := by decide +kernel
theorem dX3_findLoops_5 : decode cX3_findLoops 5 = .ok (.invokestatic 85, 3) := by decide +kernel
theorem dX3_findLoops_8 : decode cX3_findLoops 8 = .ok (.aload_n 0, 1) := by decide +kernel
theorem dX3_findLoops_9 : decode cX3_findLoops 9 = .ok (.getfield 47, 3) := by decide +kernel
theorem dX3_findLoops_12 : decode cX3_findLoops 12 = .ok (.iconst (-1), 1) := by decide +kernel
theorem dX3_findLoops_13 : decode cX3_findLoops 13 = .ok (.invokestatic 85, 3) := by decide +kernel
theorem dX3_findLoops_16 : decode cX3_findLoops 16 = .ok (.iconst 0, 1) := by decide +kernel
theorem dX3_findLoops_17 : decode cX3_findLoops 17 = .ok (.istore_n 1, 1) := by decide +kernel
theorem dX3_findLoops_18 : decode cX3_findLoops 18 = .ok (.iload_n 1, 1) := by decide +kernel
theorem dX3_findLoops_19 : decode cX3_findLoops 19 = .ok (.aload_n 0, 1) := by decide +kernel
theorem dX3_findLoops_20 : decode cX3_findLoops 20 = .ok (.getfield 78, 3) := by decide +kernel
theorem dX3_findLoops_23 : decode cX3_findLoops 23 = .ok (.if_icmp .ge 102, 3) := by decide +kernel
theorem dX3_findLoops_26 : decode cX3_findLoops 26 = .ok (.aload_n 0, 1) := by decide +kernel
theorem dX3_findLoops_27 : decode cX3_findLoops 27 = .ok (.getfield 41, 3) := by decide +kernel
theorem dX3_findLoops_30 : decode cX3_findLoops 30 = .ok (.iload_n 1, 1) := by decide +kernel
theorem dX3_findLoops_31 : decode cX3_findLoops 31 = .ok (.iconst 0, 1) := by decide +kernel
theorem dX3_findLoops_32 : decode cX3_findLoops 32 = .ok (.iastore, 1) := by decide +kernel
theorem dX3_findLoops_33 : decode cX3_findLoops 33 = .ok (.aload_n 0, 1) := by decide +kernel
theorem dX3_findLoops_34 : decode cX3_findLoops 34 = .ok (.getfield 24, 3) := by decide +kernel
theorem dX3_findLoops_37 : decode cX3_findLoops 37 = .ok (.iload_n 1, 1) := by decide +kernel
theorem dX3_findLoops_38 : decode cX3_findLoops 38 = .ok (.iaload, 1) := by decide +kernel
theorem dX3_findLoops_39 : decode cX3_findLoops 39 = .ok (.istore_n 2, 1) := by decide +kernel
theorem dX3_findLoops_40 : decode cX3_findLoops 40 = .ok (.aload_n 0, 1) := by decide +kernel
theorem dX3_findLoops_41 : decode cX3_findLoops 41 = .ok (.getfield 30, 3) := by decide +kernel
theorem dX3_findLoops_44 : decode cX3_findLoops 44 = .ok (.iload_n 1, 1) := by decide +kernel
theorem dX3_findLoops_45 : decode cX3_findLoops 45 = .ok (.baload, 1) := by decide +kernel
theorem dX3_findLoops_46 : decode cX3_findLoops 46 = .ok (.ifCond .eq 59, 3) := by decide +kernel
theorem dX3_findLoops_49 : decode cX3_findLoops 49 = .ok (.iload_n 2, 1) := by decide +kernel
theorem dX3_findLoops_50 : decode cX3_findLoops 50 = .ok (.aload_n 0, 1) := by decide +kernel
theorem dX3_findLoops_51 : decode cX3_findLoops 51 = .ok (.getfield 24, 3) := by decide +kernel
theorem dX3_findLoops_54 : decode cX3_findLoops 54 = .ok (.iload_n 1, 1) := by decide +kernel
theorem dX3_findLoops_55 : decode cX3_findLoops 55 = .ok (.iconst 1, 1) := by decide +kernel
theorem dX3_findLoops_56 : decode cX3_findLoops 56 = .ok (.iadd, 1) := by decide +kernel
theorem dX3_findLoops_57 : decode cX3_findLoops 57 = .ok (.iaload, 1) := by decide +kernel
theorem dX3_findLoops_58 : decode cX3_findLoops 58 = .ok (.if_icmp .ge 47, 3) := by decide +kernel
theorem dX3_findLoops_61 : decode cX3_findLoops 61 = .ok (.aload_n 0, 1) := by decide +kernel
theorem dX3_findLoops_62 : decode cX3_findLoops 62 = .ok (.getfield 30, 3) := by decide +kernel
theorem dX3_findLoops_65 : decode cX3_findLoops 65 = .ok (.aload_n 0, 1) := by decide +kernel
theorem dX3_findLoops_66 : decode cX3_findLoops 66 = .ok (.getfield 27, 3) := by decide +kernel
theorem dX3_findLoops_69 : decode cX3_findLoops 69 = .ok (.iload_n 2, 1) := by decide +kernel
theorem dX3_findLoops_70 : decode cX3_findLoops 70 = .ok (.iaload, 1) := by decide +kernel
theorem dX3_findLoops_71 : decode cX3_findLoops 71 = .ok (.baload, 1) := by decide +kernel
theorem dX3_findLoops_72 : decode cX3_findLoops 72 = .ok (.ifCond .eq 27, 3) := by decide +kernel
theorem dX3_findLoops_75 : decode cX3_findLoops 75 = .ok (.aload_n 0, 1) := by decide +kernel
theorem dX3_findLoops_76 : decode cX3_findLoops 76 = .ok (.iload_n 1, 1) := by decide +kernel
theorem dX3_findLoops_77 : decode cX3_findLoops 77 = .ok (.aload_n 0, 1) := by decide +kernel
theorem dX3_findLoops_78 : decode cX3_findLoops 78 = .ok (.getfield 27, 3) := by decide +kernel
theorem dX3_findLoops_81 : decode cX3_findLoops 81 = .ok (.iload_n 2, 1) := by decide +kernel
theorem dX3_findLoops_82 : decode cX3_findLoops 82 = .ok (.iaload, 1) := by decide +kernel
theorem dX3_findLoops_83 : decode cX3_findLoops 83 = .ok (.invokevirtual 169, 3) := by decide +kernel
theorem dX3_findLoops_86 : decode cX3_findLoops 86 = .ok (.ifCond .eq 13, 3) := by decide +kernel
theorem dX3_findLoops_89 : decode cX3_findLoops 89 = .ok (.aload_n 0, 1) := by decide +kernel
theorem dX3_findLoops_90 : decode cX3_findLoops 90 = .ok (.getfield 41, 3) := by decide +kernel
theorem dX3_findLoops_93 : decode cX3_findLoops 93 = .ok (.iload_n 1, 1) := by decide +kernel
theorem dX3_findLoops_94 : decode cX3_findLoops 94 = .ok (.dup2, 1) := by decide +kernel
theorem dX3_findLoops_95 : decode cX3_findLoops 95 = .ok (.iaload, 1) := by decide +kernel
theorem dX3_findLoops_96 : decode cX3_findLoops 96 = .ok (.iconst 1, 1) := by decide +kernel
theorem dX3_findLoops_97 : decode cX3_findLoops 97 = .ok (.iadd, 1) := by decide +kernel
theorem dX3_findLoops_98 : decode cX3_findLoops 98 = .ok (.iastore, 1) := by decide +kernel
theorem dX3_findLoops_99 : decode cX3_findLoops 99 = .ok (.iinc 2 1, 3) := by decide +kernel
theorem dX3_findLoops_102 : decode cX3_findLoops 102 = .ok (.goto (-62), 3) := by decide +kernel
theorem dX3_findLoops_105 : decode cX3_findLoops 105 = .ok (.aload_n 0, 1) := by decide +kernel
theorem dX3_findLoops_106 : decode cX3_findLoops 106 = .ok (.getfield 41, 3) := by decide +kernel
theorem dX3_findLoops_109 : decode cX3_findLoops 109 = .ok (.iload_n 1, 1) := by decide +kernel
theorem dX3_findLoops_110 : decode cX3_findLoops 110 = .ok (.iaload, 1) := by decide +kernel
theorem dX3_findLoops_111 : decode cX3_findLoops 111 = .ok (.ifCond .le 8, 3) := by decide +kernel
theorem dX3_findLoops_114 : decode cX3_findLoops 114 = .ok (.aload_n 0, 1) := by decide +kernel
theorem dX3_findLoops_115 : decode cX3_findLoops 115 = .ok (.iload_n 1, 1) := by decide +kernel
theorem dX3_findLoops_116 : decode cX3_findLoops 116 = .ok (.invokevirtual 172, 3) := by decide +kernel
theorem dX3_findLoops_119 : decode cX3_findLoops 119 = .ok (.iinc 1 1, 3) := by decide +kernel
theorem dX3_findLoops_122 : decode cX3_findLoops 122 = .ok (.goto (-104), 3) := by decide +kernel
theorem dX3_findLoops_125 : decode cX3_findLoops 125 = .ok (.return_, 1) := by decide +kernel
theorem dX3_findReached_0 : decode cX3_findReached 0 = .ok (.iconst 0, 1) := by decide +kernel
theorem dX3_findReached_1 : decode cX3_findReached 1 = .ok (.istore_n 1, 1) := by decide +kernel
theorem dX3_findReached_2 : decode cX3_findReached 2 = .ok (.iload_n 1, 1) := by decide +kernel
theorem dX3_findReached_3 : decode cX3_findReached 3 = .ok (.aload_n 0, 1) := by decide +kernel
theorem dX3_findReached_4 : decode cX3_findReached 4 = .ok (.getfield 78, 3) := by decide +kernel
theorem dX3_findReached_7 : decode cX3_findReached 7 = .ok (.if_icmp .ge 24, 3) := by decide +kernel
theorem dX3_findReached_10 : decode cX3_findReached 10 = .ok (.aload_n 0, 1) := by decide +kernel
theorem dX3_findReached_11 : decode cX3_findReached 11 = .ok (.getfield 30, 3) := by decide +kernel
theorem dX3_findReached_14 : decode cX3_findReached 14 = .ok (.iload_n 1, 1) := by decide +kernel
theorem dX3_findReached_15 : decode cX3_findReached 15 = .ok (.iload_n 1, 1) := by decide +kernel
theorem dX3_findReached_16 : decode cX3_findReached 16 = .ok (.ifCond .ne 7, 3) := by decide +kernel
theorem dX3_findReached_19 : decode cX3_findReached 19 = .ok (.iconst 1, 1) := by decide +kernel
theorem dX3_findReached_20 : decode cX3_findReached 20 = .ok (.goto 4, 3) := by decide +kernel
theorem dX3_findReached_23 : decode cX3_findReached 23 = .ok (.iconst 0, 1) := by decide +kernel
theorem dX3_findReached_24 : decode cX3_findReached 24 = .ok (.bastore, 1) := by decide +kernel
theorem dX3_findReached_25 : decode cX3_findReached 25 = .ok (.iinc 1 1, 3) := by decide +kernel
theorem dX3_findReached_28 : decode cX3_findReached 28 = .ok (.goto (-26), 3) := by decide +kernel
theorem dX3_findReached_31 : decode cX3_findReached 31 = .ok (.aload_n 0, 1) := by decide +kernel
theorem dX3_findReached_32 : decode cX3_findReached 32 = .ok (.getfield 50, 3) := by decide +kernel
theorem dX3_findReached_35 : decode cX3_findReached 35 = .ok (.iconst 0, 1) := by decide +kernel
theorem dX3_findReached_36 : decode cX3_findReached 36 = .ok (.iconst 0, 1) := by decide +kernel
theorem dX3_findReached_37 : decode cX3_findReached 37 = .ok (.iastore, 1) := by decide +kernel
theorem dX3_findReached_38 : decode cX3_findReached 38 = .ok (.iconst 1, 1) := by decide +kernel
theorem dX3_findReached_39 : decode cX3_findReached 39 = .ok (.istore_n 1, 1) := by decide +kernel
theorem dX3_findReached_40 : decode cX3_findReached 40 = .ok (.iconst 0, 1) := by decide +kernel
theorem dX3_findReached_41 : decode cX3_findReached 41 = .ok (.istore_n 2, 1) := by decide +kernel
theorem dX3_findReached_42 : decode cX3_findReached 42 = .ok (.iload_n 1, 1) := by decide +kernel
theorem dX3_findReached_43 : decode cX3_findReached 43 = .ok (.ifCond .le 98, 3) := by decide +kernel

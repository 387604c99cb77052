theorem dX2_pointsWell_158 : decode cX2_pointsWell 158 = .ok (.l2i, 1) := by decide +kernel
theorem dX2_pointsWell_159 : decode cX2_pointsWell 159 = .ok (.invokevirtual 231, 3) := by decide +kernel
theorem dX2_pointsWell_162 : decode cX2_pointsWell 162 = .ok (.iconst 5, 1) := by decide +kernel
theorem dX2_pointsWell_163 : decode cX2_pointsWell 163 = .ok (.if_icmp .ne 7, 3) := by decide +kernel
theorem dX2_pointsWell_166 : decode cX2_pointsWell 166 = .ok (.iconst 1, 1) := by decide +kernel
theorem dX2_pointsWell_167 : decode cX2_pointsWell 167 = .ok (.goto 4, 3) := by decide +kernel
theorem dX2_pointsWell_170 : decode cX2_pointsWell 170 = .ok (.iconst 0, 1) := by decide +kernel
theorem dX2_pointsWell_171 : decode cX2_pointsWell 171 = .ok (.ireturn, 1) := by decide +kernel
theorem dX2_pointsWell_172 : decode cX2_pointsWell 172 = .ok (.aload_n 0, 1) := by decide +kernel
theorem dX2_pointsWell_173 : decode cX2_pointsWell 173 = .ok (.aload_n 0, 1) := by decide +kernel
theorem dX2_pointsWell_174 : decode cX2_pointsWell 174 = .ok (.getfield 172, 3) := by decide +kernel
theorem dX2_pointsWell_177 : decode cX2_pointsWell 177 = .ok (.l2i, 1) := by decide +kernel
theorem dX2_pointsWell_178 : decode cX2_pointsWell 178 = .ok (.bipush 9, 2) := by decide +kernel
theorem dX2_pointsWell_180 : decode cX2_pointsWell 180 = .ok (.invokevirtual 234, 3) := by decide +kernel
theorem dX2_pointsWell_183 : decode cX2_pointsWell 183 = .ok (.ifCond .lt 7, 3) := by decide +kernel
theorem dX2_pointsWell_186 : decode cX2_pointsWell 186 = .ok (.iconst 1, 1) := by decide +kernel
theorem dX2_pointsWell_187 : decode cX2_pointsWell 187 = .ok (.goto 4, 3) := by decide +kernel
theorem dX2_pointsWell_190 : decode cX2_pointsWell 190 = .ok (.iconst 0, 1) := by decide +kernel
theorem dX2_pointsWell_191 : decode cX2_pointsWell 191 = .ok (.ireturn, 1) := by decide +kernel
theorem dX2_pointsWell_192 : decode cX2_pointsWell 192 = .ok (.aload_n 0, 1) := by decide +kernel
theorem dX2_pointsWell_193 : decode cX2_pointsWell 193 = .ok (.aload_n 0, 1) := by decide +kernel
theorem dX2_pointsWell_194 : decode cX2_pointsWell 194 = .ok (.getfield 172, 3) := by decide +kernel
theorem dX2_pointsWell_197 : decode cX2_pointsWell 197 = .ok (.l2i, 1) := by decide +kernel
theorem dX2_pointsWell_198 : decode cX2_pointsWell 198 = .ok (.bipush 10, 2) := by decide +kernel
theorem dX2_pointsWell_200 : decode cX2_pointsWell 200 = .ok (.invokevirtual 234, 3) := by decide +kernel
theorem dX2_pointsWell_203 : decode cX2_pointsWell 203 = .ok (.ifCond .lt 7, 3) := by decide +kernel
theorem dX2_pointsWell_206 : decode cX2_pointsWell 206 = .ok (.iconst 1, 1) := by decide +kernel
theorem dX2_pointsWell_207 : decode cX2_pointsWell 207 = .ok (.goto 4, 3) := by decide +kernel
theorem dX2_pointsWell_210 : decode cX2_pointsWell 210 = .ok (.iconst 0, 1) := by decide +kernel
theorem dX2_pointsWell_211 : decode cX2_pointsWell 211 = .ok (.ireturn, 1) := by decide +kernel
theorem dX2_pointsWell_212 : decode cX2_pointsWell 212 = .ok (.iconst 1, 1) := by decide +kernel
theorem dX2_pointsWell_213 : decode cX2_pointsWell 213 = .ok (.ireturn, 1) := by decide +kernel
theorem dX2_rowOf_0 : decode cX2_rowOf 0 = .ok (.aload_n 0, 1) := by decide +kernel
theorem dX2_rowOf_1 : decode cX2_rowOf 1 = .ok (.iload_n 1, 1) := by decide +kernel
theorem dX2_rowOf_2 : decode cX2_rowOf 2 = .ok (.invokevirtual 129, 3) := by decide +kernel
theorem dX2_rowOf_5 : decode cX2_rowOf 5 = .ok (.aload_n 0, 1) := by decide +kernel
theorem dX2_rowOf_6 : decode cX2_rowOf 6 = .ok (.invokevirtual 195, 3) := by decide +kernel
theorem dX2_rowOf_9 : decode cX2_rowOf 9 = .ok (.new 55, 3) := by decide +kernel
theorem dX2_rowOf_12 : decode cX2_rowOf 12 = .ok (.dup, 1) := by decide +kernel
theorem dX2_rowOf_13 : decode cX2_rowOf 13 = .ok (.aload_n 0, 1) := by decide +kernel
theorem dX2_rowOf_14 : decode cX2_rowOf 14 = .ok (.getfield 216, 3) := by decide +kernel
theorem dX2_rowOf_17 : decode cX2_rowOf 17 = .ok (.aload_n 0, 1) := by decide +kernel
theorem dX2_rowOf_18 : decode cX2_rowOf 18 = .ok (.invokevirtual 327, 3) := by decide +kernel
theorem dX2_rowOf_21 : decode cX2_rowOf 21 = .ok (.aload_n 0, 1) := by decide +kernel
theorem dX2_rowOf_22 : decode cX2_rowOf 22 = .ok (.getfield 126, 3) := by decide +kernel
theorem dX2_rowOf_25 : decode cX2_rowOf 25 = .ok (.invokespecial 331, 3) := by decide +kernel
theorem dX2_rowOf_28 : decode cX2_rowOf 28 = .ok (.astore_n 2, 1) := by decide +kernel
theorem dX2_rowOf_29 : decode cX2_rowOf 29 = .ok (.aload_n 2, 1) := by decide +kernel
theorem dX2_rowOf_30 : decode cX2_rowOf 30 = .ok (.iload_n 1, 1) := by decide +kernel
theorem dX2_rowOf_31 : decode cX2_rowOf 31 = .ok (.putfield 334, 3) := by decide +kernel
theorem dX2_rowOf_34 : decode cX2_rowOf 34 = .ok (.aload_n 2, 1) := by decide +kernel
theorem dX2_rowOf_35 : decode cX2_rowOf 35 = .ok (.aload_n 0, 1) := by decide +kernel
theorem dX2_rowOf_36 : decode cX2_rowOf 36 = .ok (.getfield 105, 3) := by decide +kernel
theorem dX2_rowOf_39 : decode cX2_rowOf 39 = .ok (.putfield 337, 3) := by decide +kernel
theorem dX2_rowOf_42 : decode cX2_rowOf 42 = .ok (.iconst 0, 1) := by decide +kernel
theorem dX2_rowOf_43 : decode cX2_rowOf 43 = .ok (.istore_n 3, 1) := by decide +kernel
theorem dX2_rowOf_44 : decode cX2_rowOf 44 = .ok (.iload_n 3, 1) := by decide +kernel
theorem dX2_rowOf_45 : decode cX2_rowOf 45 = .ok (.aload_n 0, 1) := by decide +kernel
theorem dX2_rowOf_46 : decode cX2_rowOf 46 = .ok (.getfield 117, 3) := by decide +kernel
theorem dX2_rowOf_49 : decode cX2_rowOf 49 = .ok (.if_icmp .ge 28, 3) := by decide +kernel
theorem dX2_rowOf_52 : decode cX2_rowOf 52 = .ok (.aload_n 0, 1) := by decide +kernel
theorem dX2_rowOf_53 : decode cX2_rowOf 53 = .ok (.iload_n 3, 1) := by decide +kernel
theorem dX2_rowOf_54 : decode cX2_rowOf 54 = .ok (.invokevirtual 198, 3) := by decide +kernel
theorem dX2_rowOf_57 : decode cX2_rowOf 57 = .ok (.aload_n 0, 1) := by decide +kernel
theorem dX2_rowOf_58 : decode cX2_rowOf 58 = .ok (.aload_n 2, 1) := by decide +kernel
theorem dX2_rowOf_59 : decode cX2_rowOf 59 = .ok (.invokevirtual 338, 3) := by decide +kernel
theorem dX2_rowOf_62 : decode cX2_rowOf 62 = .ok (.iload_n 3, 1) := by decide +kernel
theorem dX2_rowOf_63 : decode cX2_rowOf 63 = .ok (.iconst 1, 1) := by decide +kernel
theorem dX2_rowOf_64 : decode cX2_rowOf 64 = .ok (.aload_n 0, 1) := by decide +kernel
theorem dX2_rowOf_65 : decode cX2_rowOf 65 = .ok (.iload_n 3, 1) := by decide +kernel
theorem dX2_rowOf_66 : decode cX2_rowOf 66 = .ok (.invokevirtual 133, 3) := by decide +kernel
theorem dX2_rowOf_69 : decode cX2_rowOf 69 = .ok (.invokestatic 204, 3) := by decide +kernel
theorem dX2_rowOf_72 : decode cX2_rowOf 72 = .ok (.iadd, 1) := by decide +kernel
theorem dX2_rowOf_73 : decode cX2_rowOf 73 = .ok (.istore_n 3, 1) := by decide +kernel
theorem dX2_rowOf_74 : decode cX2_rowOf 74 = .ok (.goto (-30), 3) := by decide +kernel
theorem dX2_rowOf_77 : decode cX2_rowOf 77 = .ok (.iconst 0, 1) := by decide +kernel
theorem dX2_rowOf_78 : decode cX2_rowOf 78 = .ok (.istore_n 3, 1) := by decide +kernel
theorem dX2_rowOf_79 : decode cX2_rowOf 79 = .ok (.iload_n 3, 1) := by decide +kernel
theorem dX2_rowOf_80 : decode cX2_rowOf 80 = .ok (.aload_n 0, 1) := by decide +kernel
theorem dX2_rowOf_81 : decode cX2_rowOf 81 = .ok (.getfield 126, 3) := by decide +kernel
theorem dX2_rowOf_84 : decode cX2_rowOf 84 = .ok (.if_icmp .ge 86, 3) := by decide +kernel
theorem dX2_rowOf_87 : decode cX2_rowOf 87 = .ok (.aload_n 0, 1) := by decide +kernel
theorem dX2_rowOf_88 : decode cX2_rowOf 88 = .ok (.getfield 123, 3) := by decide +kernel
theorem dX2_rowOf_91 : decode cX2_rowOf 91 = .ok (.bipush 8, 2) := by decide +kernel
theorem dX2_rowOf_93 : decode cX2_rowOf 93 = .ok (.iload_n 3, 1) := by decide +kernel
theorem dX2_rowOf_94 : decode cX2_rowOf 94 = .ok (.imul, 1) := by decide +kernel
theorem dX2_rowOf_95 : decode cX2_rowOf 95 = .ok (.iadd, 1) := by decide +kernel
theorem dX2_rowOf_96 : decode cX2_rowOf 96 = .ok (.istore 4, 2) := by decide +kernel
theorem dX2_rowOf_98 : decode cX2_rowOf 98 = .ok (.aload_n 2, 1) := by decide +kernel
theorem dX2_rowOf_99 : decode cX2_rowOf 99 = .ok (.aload_n 0, 1) := by decide +kernel
theorem dX2_rowOf_100 : decode cX2_rowOf 100 = .ok (.aload_n 0, 1) := by decide +kernel
theorem dX2_rowOf_101 : decode cX2_rowOf 101 = .ok (.getfield 12, 3) := by decide +kernel
theorem dX2_rowOf_104 : decode cX2_rowOf 104 = .ok (.iload 4, 2) := by decide +kernel
theorem dX2_rowOf_106 : decode cX2_rowOf 106 = .ok (.invokevirtual 90, 3) := by decide +kernel
theorem dX2_rowOf_109 : decode cX2_rowOf 109 = .ok (.i2l, 1) := by decide +kernel
theorem dX2_rowOf_110 : decode cX2_rowOf 110 = .ok (.invokevirtual 217, 3) := by decide +kernel
theorem dX2_rowOf_113 : decode cX2_rowOf 113 = .ok (.aload_n 0, 1) := by decide +kernel
theorem dX2_rowOf_114 : decode cX2_rowOf 114 = .ok (.aload_n 0, 1) := by decide +kernel
theorem dX2_rowOf_115 : decode cX2_rowOf 115 = .ok (.getfield 12, 3) := by decide +kernel
theorem dX2_rowOf_118 : decode cX2_rowOf 118 = .ok (.iload 4, 2) := by decide +kernel
theorem dX2_rowOf_120 : decode cX2_rowOf 120 = .ok (.iconst 2, 1) := by decide +kernel
theorem dX2_rowOf_121 : decode cX2_rowOf 121 = .ok (.iadd, 1) := by decide +kernel
theorem dX2_rowOf_122 : decode cX2_rowOf 122 = .ok (.invokevirtual 90, 3) := by decide +kernel
theorem dX2_rowOf_125 : decode cX2_rowOf 125 = .ok (.i2l, 1) := by decide +kernel
theorem dX2_rowOf_126 : decode cX2_rowOf 126 = .ok (.invokevirtual 217, 3) := by decide +kernel
theorem dX2_rowOf_129 : decode cX2_rowOf 129 = .ok (.aload_n 0, 1) := by decide +kernel
theorem dX2_rowOf_130 : decode cX2_rowOf 130 = .ok (.aload_n 0, 1) := by decide +kernel
theorem dX2_rowOf_131 : decode cX2_rowOf 131 = .ok (.getfield 12, 3) := by decide +kernel
theorem dX2_rowOf_134 : decode cX2_rowOf 134 = .ok (.iload 4, 2) := by decide +kernel
theorem dX2_rowOf_136 : decode cX2_rowOf 136 = .ok (.iconst 4, 1) := by decide +kernel
theorem dX2_rowOf_137 : decode cX2_rowOf 137 = .ok (.iadd, 1) := by decide +kernel
theorem dX2_rowOf_138 : decode cX2_rowOf 138 = .ok (.invokevirtual 90, 3) := by decide +kernel
theorem dX2_rowOf_141 : decode cX2_rowOf 141 = .ok (.i2l, 1) := by decide +kernel
theorem dX2_rowOf_142 : decode cX2_rowOf 142 = .ok (.invokevirtual 217, 3) := by decide +kernel
theorem dX2_rowOf_145 : decode cX2_rowOf 145 = .ok (.aload_n 0, 1) := by decide +kernel
theorem dX2_rowOf_146 : decode cX2_rowOf 146 = .ok (.aload_n 0, 1) := by decide +kernel
theorem dX2_rowOf_147 : decode cX2_rowOf 147 = .ok (.getfield 12, 3) := by decide +kernel
theorem dX2_rowOf_150 : decode cX2_rowOf 150 = .ok (.iload 4, 2) := by decide +kernel
theorem dX2_rowOf_152 : decode cX2_rowOf 152 = .ok (.bipush 6, 2) := by decide +kernel
theorem dX2_rowOf_154 : decode cX2_rowOf 154 = .ok (.iadd, 1) := by decide +kernel
theorem dX2_rowOf_155 : decode cX2_rowOf 155 = .ok (.invokevirtual 90, 3) := by decide +kernel
theorem dX2_rowOf_158 : decode cX2_rowOf 158 = .ok (.invokevirtual 244, 3) := by decide +kernel
theorem dX2_rowOf_161 : decode cX2_rowOf 161 = .ok (.invokevirtual 342, 3) := by decide +kernel
theorem dX2_rowOf_164 : decode cX2_rowOf 164 = .ok (.iinc 3 1, 3) := by decide +kernel
theorem dX2_rowOf_167 : decode cX2_rowOf 167 = .ok (.goto (-88), 3) := by decide +kernel
theorem dX2_rowOf_170 : decode cX2_rowOf 170 = .ok (.aload_n 2, 1) := by decide +kernel
theorem dX2_rowOf_171 : decode cX2_rowOf 171 = .ok (.areturn, 1) := by decide +kernel
theorem dX2_s4_0 : decode cX2_s4 0 = .ok (.iload_n 1, 1) := by decide +kernel
theorem dX2_s4_1 : decode cX2_s4 1 = .ok (.ifCond .lt 13, 3) := by decide +kernel
theorem dX2_s4_4 : decode cX2_s4 4 = .ok (.iload_n 1, 1) := by decide +kernel
theorem dX2_s4_5 : decode cX2_s4 5 = .ok (.aload_n 0, 1) := by decide +kernel
theorem dX2_s4_6 : decode cX2_s4 6 = .ok (.getfield 117, 3) := by decide +kernel
theorem dX2_s4_9 : decode cX2_s4 9 = .ok (.iconst 4, 1) := by decide +kernel
theorem dX2_s4_10 : decode cX2_s4 10 = .ok (.isub, 1) := by decide +kernel
theorem dX2_s4_11 : decode cX2_s4 11 = .ok (.if_icmp .le 7, 3) := by decide +kernel
theorem dX2_s4_14 : decode cX2_s4 14 = .ok (.iconst 0, 1) := by decide +kernel
theorem dX2_s4_15 : decode cX2_s4 15 = .ok (.goto 16, 3) := by decide +kernel
theorem dX2_s4_18 : decode cX2_s4 18 = .ok (.aload_n 0, 1) := by decide +kernel
theorem dX2_s4_19 : decode cX2_s4 19 = .ok (.getfield 12, 3) := by decide +kernel
theorem dX2_s4_22 : decode cX2_s4 22 = .ok (.aload_n 0, 1) := by decide +kernel
theorem dX2_s4_23 : decode cX2_s4 23 = .ok (.getfield 120, 3) := by decide +kernel
theorem dX2_s4_26 : decode cX2_s4 26 = .ok (.iload_n 1, 1) := by decide +kernel
theorem dX2_s4_27 : decode cX2_s4 27 = .ok (.iadd, 1) := by decide +kernel
theorem dX2_s4_28 : decode cX2_s4 28 = .ok (.invokevirtual 102, 3) := by decide +kernel
theorem dX2_s4_31 : decode cX2_s4 31 = .ok (.ireturn, 1) := by decide +kernel
theorem dX2_set_0 : decode cX2_set 0 = .ok (.aload_n 0, 1) := by decide +kernel
theorem dX2_set_1 : decode cX2_set 1 = .ok (.iload_n 1, 1) := by decide +kernel
theorem dX2_set_2 : decode cX2_set 2 = .ok (.putfield 169, 3) := by decide +kernel
theorem dX2_set_5 : decode cX2_set 5 = .ok (.aload_n 0, 1) := by decide +kernel
theorem dX2_set_6 : decode cX2_set 6 = .ok (.lload_n 2, 1) := by decide +kernel

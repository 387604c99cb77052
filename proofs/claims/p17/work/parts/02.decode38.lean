theorem dX2_pointersHold_114 : decode cX2_pointersHold 114 = .ok (.imul, 1) := by decide +kernel
theorem dX2_pointersHold_115 : decode cX2_pointersHold 115 = .ok (.iadd, 1) := by decide +kernel
theorem dX2_pointersHold_116 : decode cX2_pointersHold 116 = .ok (.invokevirtual 86, 3) := by decide +kernel
theorem dX2_pointersHold_119 : decode cX2_pointersHold 119 = .ok (.ireturn, 1) := by decide +kernel
theorem dX2_pointersHold_120 : decode cX2_pointersHold 120 = .ok (.iinc 2 1, 3) := by decide +kernel
theorem dX2_pointersHold_123 : decode cX2_pointersHold 123 = .ok (.goto (-46), 3) := by decide +kernel
theorem dX2_pointersHold_126 : decode cX2_pointersHold 126 = .ok (.iinc 1 1, 3) := by decide +kernel
theorem dX2_pointersHold_129 : decode cX2_pointersHold 129 = .ok (.goto (-127), 3) := by decide +kernel
theorem dX2_pointersHold_132 : decode cX2_pointersHold 132 = .ok (.iconst 1, 1) := by decide +kernel
theorem dX2_pointersHold_133 : decode cX2_pointersHold 133 = .ok (.ireturn, 1) := by decide +kernel
theorem dX2_pointsWell_0 : decode cX2_pointsWell 0 = .ok (.aload_n 0, 1) := by decide +kernel
theorem dX2_pointsWell_1 : decode cX2_pointsWell 1 = .ok (.getfield 169, 3) := by decide +kernel
theorem dX2_pointsWell_4 : decode cX2_pointsWell 4 = .ok (.invokestatic 181, 3) := by decide +kernel
theorem dX2_pointsWell_7 : decode cX2_pointsWell 7 = .ok (.ifCond .eq 12, 3) := by decide +kernel
theorem dX2_pointsWell_10 : decode cX2_pointsWell 10 = .ok (.aload_n 0, 1) := by decide +kernel
theorem dX2_pointsWell_11 : decode cX2_pointsWell 11 = .ok (.aload_n 0, 1) := by decide +kernel
theorem dX2_pointsWell_12 : decode cX2_pointsWell 12 = .ok (.getfield 172, 3) := by decide +kernel
theorem dX2_pointsWell_15 : decode cX2_pointsWell 15 = .ok (.invokevirtual 221, 3) := by decide +kernel
theorem dX2_pointsWell_18 : decode cX2_pointsWell 18 = .ok (.ireturn, 1) := by decide +kernel
theorem dX2_pointsWell_19 : decode cX2_pointsWell 19 = .ok (.aload_n 0, 1) := by decide +kernel
theorem dX2_pointsWell_20 : decode cX2_pointsWell 20 = .ok (.getfield 169, 3) := by decide +kernel
theorem dX2_pointsWell_23 : decode cX2_pointsWell 23 = .ok (.invokestatic 184, 3) := by decide +kernel
theorem dX2_pointsWell_26 : decode cX2_pointsWell 26 = .ok (.ifCond .eq 8, 3) := by decide +kernel
theorem dX2_pointsWell_29 : decode cX2_pointsWell 29 = .ok (.aload_n 0, 1) := by decide +kernel
theorem dX2_pointsWell_30 : decode cX2_pointsWell 30 = .ok (.invokevirtual 225, 3) := by decide +kernel
theorem dX2_pointsWell_33 : decode cX2_pointsWell 33 = .ok (.ireturn, 1) := by decide +kernel
theorem dX2_pointsWell_34 : decode cX2_pointsWell 34 = .ok (.aload_n 0, 1) := by decide +kernel
theorem dX2_pointsWell_35 : decode cX2_pointsWell 35 = .ok (.getfield 169, 3) := by decide +kernel
theorem dX2_pointsWell_38 : decode cX2_pointsWell 38 = .ok (.invokestatic 192, 3) := by decide +kernel
theorem dX2_pointsWell_41 : decode cX2_pointsWell 41 = .ok (.ifCond .eq 33, 3) := by decide +kernel
theorem dX2_pointsWell_44 : decode cX2_pointsWell 44 = .ok (.aload_n 0, 1) := by decide +kernel
theorem dX2_pointsWell_45 : decode cX2_pointsWell 45 = .ok (.getfield 172, 3) := by decide +kernel
theorem dX2_pointsWell_48 : decode cX2_pointsWell 48 = .ok (.l2i, 1) := by decide +kernel
theorem dX2_pointsWell_49 : decode cX2_pointsWell 49 = .ok (.sipush 255, 3) := by decide +kernel
theorem dX2_pointsWell_52 : decode cX2_pointsWell 52 = .ok (.iand, 1) := by decide +kernel
theorem dX2_pointsWell_53 : decode cX2_pointsWell 53 = .ok (.aload_n 0, 1) := by decide +kernel
theorem dX2_pointsWell_54 : decode cX2_pointsWell 54 = .ok (.getfield 169, 3) := by decide +kernel
theorem dX2_pointsWell_57 : decode cX2_pointsWell 57 = .ok (.invokestatic 228, 3) := by decide +kernel
theorem dX2_pointsWell_60 : decode cX2_pointsWell 60 = .ok (.iadd, 1) := by decide +kernel
theorem dX2_pointsWell_61 : decode cX2_pointsWell 61 = .ok (.aload_n 0, 1) := by decide +kernel
theorem dX2_pointsWell_62 : decode cX2_pointsWell 62 = .ok (.getfield 108, 3) := by decide +kernel
theorem dX2_pointsWell_65 : decode cX2_pointsWell 65 = .ok (.if_icmp .gt 7, 3) := by decide +kernel
theorem dX2_pointsWell_68 : decode cX2_pointsWell 68 = .ok (.iconst 1, 1) := by decide +kernel
theorem dX2_pointsWell_69 : decode cX2_pointsWell 69 = .ok (.goto 4, 3) := by decide +kernel
theorem dX2_pointsWell_72 : decode cX2_pointsWell 72 = .ok (.iconst 0, 1) := by decide +kernel
theorem dX2_pointsWell_73 : decode cX2_pointsWell 73 = .ok (.ireturn, 1) := by decide +kernel
theorem dX2_pointsWell_74 : decode cX2_pointsWell 74 = .ok (.aload_n 0, 1) := by decide +kernel
theorem dX2_pointsWell_75 : decode cX2_pointsWell 75 = .ok (.getfield 169, 3) := by decide +kernel
theorem dX2_pointsWell_78 : decode cX2_pointsWell 78 = .ok (.lookupswitch 134 #[(19, 50), (20, 72), (178, 94), (179, 94), (184, 114)], 50) := by decide +kernel
theorem dX2_pointsWell_128 : decode cX2_pointsWell 128 = .ok (.aload_n 0, 1) := by decide +kernel
theorem dX2_pointsWell_129 : decode cX2_pointsWell 129 = .ok (.getfield 12, 3) := by decide +kernel
theorem dX2_pointsWell_132 : decode cX2_pointsWell 132 = .ok (.aload_n 0, 1) := by decide +kernel
theorem dX2_pointsWell_133 : decode cX2_pointsWell 133 = .ok (.getfield 172, 3) := by decide +kernel
theorem dX2_pointsWell_136 : decode cX2_pointsWell 136 = .ok (.l2i, 1) := by decide +kernel
theorem dX2_pointsWell_137 : decode cX2_pointsWell 137 = .ok (.invokevirtual 231, 3) := by decide +kernel
theorem dX2_pointsWell_140 : decode cX2_pointsWell 140 = .ok (.iconst 3, 1) := by decide +kernel
theorem dX2_pointsWell_141 : decode cX2_pointsWell 141 = .ok (.if_icmp .ne 7, 3) := by decide +kernel
theorem dX2_pointsWell_144 : decode cX2_pointsWell 144 = .ok (.iconst 1, 1) := by decide +kernel
theorem dX2_pointsWell_145 : decode cX2_pointsWell 145 = .ok (.goto 4, 3) := by decide +kernel
theorem dX2_pointsWell_148 : decode cX2_pointsWell 148 = .ok (.iconst 0, 1) := by decide +kernel
theorem dX2_pointsWell_149 : decode cX2_pointsWell 149 = .ok (.ireturn, 1) := by decide +kernel
theorem dX2_pointsWell_150 : decode cX2_pointsWell 150 = .ok (.aload_n 0, 1) := by decide +kernel
theorem dX2_pointsWell_151 : decode cX2_pointsWell 151 = .ok (.getfield 12, 3) := by decide +kernel
theorem dX2_pointsWell_154 : decode cX2_pointsWell 154 = .ok (.aload_n 0, 1) := by decide +kernel
theorem dX2_pointsWell_155 : decode cX2_pointsWell 155 = .ok (.getfield 172, 3) := by decide +kernel
theorem dX2_pointsWell_158 : decode cX2_pointsWell 158 = .ok (.l2i, 1) := by decide +kernel
theorem dX2_pointsWell_159 : decode cX2_pointsWell 159 = .ok (.invokevirtual 231, 3) := by decide +kernel
theorem dX2_pointsWell_162 : decode cX2_pointsWell 162 = .ok (.iconst 5, 1) := by decide +kernel
theorem dX2_pointsWell_163 : decode cX2_pointsWell 163 = .ok (.if_icmp .ne 7, 3) := by decide +kernel
theorem dX2_pointsWell_166 : decode cX2_pointsWell 166 = .ok (.iconst 1, 1) := by decide +kernel
theorem dX2_pointsWell_167 : decode cX2_pointsWell 167 = .ok (.goto 4, 3) := by decide +kernel
theorem dX2_pointsWell_170 : decode cX2_pointsWell 170 = .ok (.iconst 0, 1) := by decide +kernel
theorem dX2_pointsWell_171 : decode cX2_pointsWell 171 = .ok (.ireturn, 1) := by decide +kernel
theorem dX2_pointsWell_172 : decode cX2_pointsWell 172 = .ok (.aload_n 0, 1) := by decide +kernel
theorem dX2_pointsWell_173 : decode cX2_pointsWell 173 = .ok (.aload_n 0, 1) := by decide +kernel
theorem dX2_pointsWell_174 : decode cX2_pointsWell 174 = .ok (.getfield 172, 3) := by decide +kernel
theorem dX2_pointsWell_177 : decode cX2_pointsWell 177 = .ok (.l2i, 1) := by decide +kernel
theorem dX2_pointsWell_178 : decode cX2_pointsWell 178 = .ok (.bipush 9, 2) := by decide +kernel
theorem dX2_pointsWell_180 : decode cX2_pointsWell 180 = .ok (.invokevirtual 234, 3) := by decide +kernel
theorem dX2_pointsWell_183 : decode cX2_pointsWell 183 = .ok (.ifCond .lt 7, 3) := by decide +kernel
theorem dX2_pointsWell_186 : decode cX2_pointsWell 186 = .ok (.iconst 1, 1) := by decide +kernel
theorem dX2_pointsWell_187 : decode cX2_pointsWell 187 = .ok (.goto 4, 3) := by decide +kernel
theorem dX2_pointsWell_190 : decode cX2_pointsWell 190 = .ok (.iconst 0, 1) := by decide +kernel
theorem dX2_pointsWell_191 : decode cX2_pointsWell 191 = .ok (.ireturn, 1) := by decide +kernel
theorem dX2_pointsWell_192 : decode cX2_pointsWell 192 = .ok (.aload_n 0, 1) := by decide +kernel
theorem dX2_pointsWell_193 : decode cX2_pointsWell 193 = .ok (.aload_n 0, 1) := by decide +kernel
theorem dX2_pointsWell_194 : decode cX2_pointsWell 194 = .ok (.getfield 172, 3) := by decide +kernel
theorem dX2_pointsWell_197 : decode cX2_pointsWell 197 = .ok (.l2i, 1) := by decide +kernel
theorem dX2_pointsWell_198 : decode cX2_pointsWell 198 = .ok (.bipush 10, 2) := by decide +kernel
theorem dX2_pointsWell_200 : decode cX2_pointsWell 200 = .ok (.invokevirtual 234, 3) := by decide +kernel
theorem dX2_pointsWell_203 : decode cX2_pointsWell 203 = .ok (.ifCond .lt 7, 3) := by decide +kernel
theorem dX2_pointsWell_206 : decode cX2_pointsWell 206 = .ok (.iconst 1, 1) := by decide +kernel
theorem dX2_pointsWell_207 : decode cX2_pointsWell 207 = .ok (.goto 4, 3) := by decide +kernel
theorem dX2_pointsWell_210 : decode cX2_pointsWell 210 = .ok (.iconst 0, 1) := by decide +kernel
theorem dX2_pointsWell_211 : decode cX2_pointsWell 211 = .ok (.ireturn, 1) := by decide +kernel
theorem dX2_pointsWell_212 : decode cX2_pointsWell 212 = .ok (.iconst 1, 1) := by decide +kernel
theorem dX2_pointsWell_213 : decode cX2_pointsWell 213 = .ok (.ireturn, 1) := by decide +kernel
theorem dX2_rowOf_0 : decode cX2_rowOf 0 = .ok (.aload_n 0, 1) := by decide +kernel
theorem dX2_rowOf_1 : decode cX2_rowOf 1 = .ok (.iload_n 1, 1) := by decide +kernel
theorem dX2_rowOf_2 : decode cX2_rowOf 2 = .ok (.invokevirtual 129, 3) := by decide +kernel
theorem dX2_rowOf_5 : decode cX2_rowOf 5 = .ok (.aload_n 0, 1) := by decide +kernel
theorem dX2_rowOf_6 : decode cX2_rowOf 6 = .ok (.invokevirtual 195, 3) := by decide +kernel
theorem dX2_rowOf_9 : decode cX2_rowOf 9 = .ok (.new 55, 3) := by decide +kernel
theorem dX2_rowOf_12 : decode cX2_rowOf 12 = .ok (.dup, 1) := by decide +kernel
theorem dX2_rowOf_13 : decode cX2_rowOf 13 = .ok (.aload_n 0, 1) := by decide +kernel
theorem dX2_rowOf_14 : decode cX2_rowOf 14 = .ok (.getfield 216, 3) := by decide +kernel
theorem dX2_rowOf_17 : decode cX2_rowOf 17 = .ok (.aload_n 0, 1) := by decide +kernel
theorem dX2_rowOf_18 : decode cX2_rowOf 18 = .ok (.invokevirtual 327, 3) := by decide +kernel
theorem dX2_rowOf_21 : decode cX2_rowOf 21 = .ok (.aload_n 0, 1) := by decide +kernel
theorem dX2_rowOf_22 : decode cX2_rowOf 22 = .ok (.getfield 126, 3) := by decide +kernel
theorem dX2_rowOf_25 : decode cX2_rowOf 25 = .ok (.invokespecial 331, 3) := by decide +kernel
theorem dX2_rowOf_28 : decode cX2_rowOf 28 = .ok (.astore_n 2, 1) := by decide +kernel
theorem dX2_rowOf_29 : decode cX2_rowOf 29 = .ok (.aload_n 2, 1) := by decide +kernel
theorem dX2_rowOf_30 : decode cX2_rowOf 30 = .ok (.iload_n 1, 1) := by decide +kernel
theorem dX2_rowOf_31 : decode cX2_rowOf 31 = .ok (.putfield 334, 3) := by decide +kernel
theorem dX2_rowOf_34 : decode cX2_rowOf 34 = .ok (.aload_n 2, 1) := by decide +kernel
theorem dX2_rowOf_35 : decode cX2_rowOf 35 = .ok (.aload_n 0, 1) := by decide +kernel
theorem dX2_rowOf_36 : decode cX2_rowOf 36 = .ok (.getfield 105, 3) := by decide +kernel
theorem dX2_rowOf_39 : decode cX2_rowOf 39 = .ok (.putfield 337, 3) := by decide +kernel
theorem dX2_rowOf_42 : decode cX2_rowOf 42 = .ok (.iconst 0, 1) := by decide +kernel
theorem dX2_rowOf_43 : decode cX2_rowOf 43 = .ok (.istore_n 3, 1) := by decide +kernel
theorem dX2_rowOf_44 : decode cX2_rowOf 44 = .ok (.iload_n 3, 1) := by decide +kernel
theorem dX2_rowOf_45 : decode cX2_rowOf 45 = .ok (.aload_n 0, 1) := by decide +kernel
theorem dX2_rowOf_46 : decode cX2_rowOf 46 = .ok (.getfield 117, 3) := by decide +kernel
theorem dX2_rowOf_49 : decode cX2_rowOf 49 = .ok (.if_icmp .ge 28, 3) := by decide +kernel
theorem dX2_rowOf_52 : decode cX2_rowOf 52 = .ok (.aload_n 0, 1) := by decide +kernel
theorem dX2_rowOf_53 : decode cX2_rowOf 53 = .ok (.iload_n 3, 1) := by decide +kernel
theorem dX2_rowOf_54 : decode cX2_rowOf 54 = .ok (.invokevirtual 198, 3) := by decide +kernel
theorem dX2_rowOf_57 : decode cX2_rowOf 57 = .ok (.aload_n 0, 1) := by decide +kernel
theorem dX2_rowOf_58 : decode cX2_rowOf 58 = .ok (.aload_n 2, 1) := by decide +kernel
theorem dX2_rowOf_59 : decode cX2_rowOf 59 = .ok (.invokevirtual 338, 3) := by decide +kernel
theorem dX2_rowOf_62 : decode cX2_rowOf 62 = .ok (.iload_n 3, 1) := by decide +kernel
theorem dX2_rowOf_63 : decode cX2_rowOf 63 = .ok (.iconst 1, 1) := by decide +kernel
theorem dX2_rowOf_64 : decode cX2_rowOf 64 = .ok (.aload_n 0, 1) := by decide +kernel
theorem dX2_rowOf_65 : decode cX2_rowOf 65 = .ok (.iload_n 3, 1) := by decide +kernel
theorem dX2_rowOf_66 : decode cX2_rowOf 66 = .ok (.invokevirtual 133, 3) := by decide +kernel
theorem dX2_rowOf_69 : decode cX2_rowOf 69 = .ok (.invokestatic 204, 3) := by decide +kernel
theorem dX2_rowOf_72 : decode cX2_rowOf 72 = .ok (.iadd, 1) := by decide +kernel
theorem dX2_rowOf_73 : decode cX2_rowOf 73 = .ok (.istore_n 3, 1) := by decide +kernel
theorem dX2_rowOf_74 : decode cX2_rowOf 74 = .ok (.goto (-30), 3) := by decide +kernel
theorem dX2_rowOf_77 : decode cX2_rowOf 77 = .ok (.iconst 0, 1) := by decide +kernel
theorem dX2_rowOf_78 : decode cX2_rowOf 78 = .ok (.istore_n 3, 1) := by decide +kernel
theorem dX2_rowOf_79 : decode cX2_rowOf 79 = .ok (.iload_n 3, 1) := by decide +kernel
theorem dX2_rowOf_80 : decode cX2_rowOf 80 = .ok (.aload_n 0, 1) := by decide +kernel
theorem dX2_rowOf_81 : decode cX2_rowOf 81 = .ok (.getfield 126, 3) := by decide +kernel
theorem dX2_rowOf_84 : decode cX2_rowOf 84 = .ok (.if_icmp .ge 86, 3) := by decide +kernel
theorem dX2_rowOf_87 : decode cX2_rowOf 87 = .ok (.aload_n 0, 1) := by decide +kernel
theorem dX2_rowOf_88 : decode cX2_rowOf 88 = .ok (.getfield 123, 3) := by decide +kernel
theorem dX2_rowOf_91 : decode cX2_rowOf 91 = .ok (.bipush 8, 2) := by decide +kernel
theorem dX2_rowOf_93 : decode cX2_rowOf 93 = .ok (.iload_n 3, 1) := by decide +kernel

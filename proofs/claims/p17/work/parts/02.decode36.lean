theorem dX2_memberOf_26 : decode cX2_memberOf 26 = .ok (.iadd, 1) := by decide +kernel
theorem dX2_memberOf_27 : decode cX2_memberOf 27 = .ok (.invokevirtual 90, 3) := by decide +kernel
theorem dX2_memberOf_30 : decode cX2_memberOf 30 = .ok (.istore_n 3, 1) := by decide +kernel
theorem dX2_memberOf_31 : decode cX2_memberOf 31 = .ok (.aload_n 0, 1) := by decide +kernel
theorem dX2_memberOf_32 : decode cX2_memberOf 32 = .ok (.getfield 12, 3) := by decide +kernel
theorem dX2_memberOf_35 : decode cX2_memberOf 35 = .ok (.aload_n 0, 1) := by decide +kernel
theorem dX2_memberOf_36 : decode cX2_memberOf 36 = .ok (.getfield 12, 3) := by decide +kernel
theorem dX2_memberOf_39 : decode cX2_memberOf 39 = .ok (.aload_n 0, 1) := by decide +kernel
theorem dX2_memberOf_40 : decode cX2_memberOf 40 = .ok (.getfield 12, 3) := by decide +kernel
theorem dX2_memberOf_43 : decode cX2_memberOf 43 = .ok (.iload_n 1, 1) := by decide +kernel
theorem dX2_memberOf_44 : decode cX2_memberOf 44 = .ok (.invokevirtual 247, 3) := by decide +kernel
theorem dX2_memberOf_47 : decode cX2_memberOf 47 = .ok (.invokevirtual 247, 3) := by decide +kernel
theorem dX2_memberOf_50 : decode cX2_memberOf 50 = .ok (.aload_n 0, 1) := by decide +kernel
theorem dX2_memberOf_51 : decode cX2_memberOf 51 = .ok (.getfield 12, 3) := by decide +kernel
theorem dX2_memberOf_54 : decode cX2_memberOf 54 = .ok (.iload_n 3, 1) := by decide +kernel
theorem dX2_memberOf_55 : decode cX2_memberOf 55 = .ok (.invokevirtual 247, 3) := by decide +kernel
theorem dX2_memberOf_58 : decode cX2_memberOf 58 = .ok (.invokevirtual 261, 3) := by decide +kernel
theorem dX2_memberOf_61 : decode cX2_memberOf 61 = .ok (.ifCond .ne 5, 3) := by decide +kernel
theorem dX2_memberOf_64 : decode cX2_memberOf 64 = .ok (.iconst (-1), 1) := by decide +kernel
theorem dX2_memberOf_65 : decode cX2_memberOf 65 = .ok (.ireturn, 1) := by decide +kernel
theorem dX2_memberOf_66 : decode cX2_memberOf 66 = .ok (.aload_n 0, 1) := by decide +kernel
theorem dX2_memberOf_67 : decode cX2_memberOf 67 = .ok (.getfield 12, 3) := by decide +kernel
theorem dX2_memberOf_70 : decode cX2_memberOf 70 = .ok (.iload_n 1, 1) := by decide +kernel
theorem dX2_memberOf_71 : decode cX2_memberOf 71 = .ok (.invokevirtual 264, 3) := by decide +kernel
theorem dX2_memberOf_74 : decode cX2_memberOf 74 = .ok (.istore 4, 2) := by decide +kernel
theorem dX2_memberOf_76 : decode cX2_memberOf 76 = .ok (.iload_n 2, 1) := by decide +kernel
theorem dX2_memberOf_77 : decode cX2_memberOf 77 = .ok (.bipush 9, 2) := by decide +kernel
theorem dX2_memberOf_79 : decode cX2_memberOf 79 = .ok (.if_icmp .ne 7, 3) := by decide +kernel
theorem dX2_memberOf_82 : decode cX2_memberOf 82 = .ok (.iconst 0, 1) := by decide +kernel
theorem dX2_memberOf_83 : decode cX2_memberOf 83 = .ok (.goto 10, 3) := by decide +kernel
theorem dX2_memberOf_86 : decode cX2_memberOf 86 = .ok (.aload_n 0, 1) := by decide +kernel
theorem dX2_memberOf_87 : decode cX2_memberOf 87 = .ok (.getfield 12, 3) := by decide +kernel
theorem dX2_memberOf_90 : decode cX2_memberOf 90 = .ok (.getfield 62, 3) := by decide +kernel
theorem dX2_memberOf_93 : decode cX2_memberOf 93 = .ok (.istore 5, 2) := by decide +kernel
theorem dX2_memberOf_95 : decode cX2_memberOf 95 = .ok (.iload_n 2, 1) := by decide +kernel
theorem dX2_memberOf_96 : decode cX2_memberOf 96 = .ok (.bipush 9, 2) := by decide +kernel
theorem dX2_memberOf_98 : decode cX2_memberOf 98 = .ok (.if_icmp .ne 13, 3) := by decide +kernel
theorem dX2_memberOf_101 : decode cX2_memberOf 101 = .ok (.aload_n 0, 1) := by decide +kernel
theorem dX2_memberOf_102 : decode cX2_memberOf 102 = .ok (.getfield 12, 3) := by decide +kernel
theorem dX2_memberOf_105 : decode cX2_memberOf 105 = .ok (.getfield 62, 3) := by decide +kernel
theorem dX2_memberOf_108 : decode cX2_memberOf 108 = .ok (.goto 10, 3) := by decide +kernel
theorem dX2_memberOf_111 : decode cX2_memberOf 111 = .ok (.aload_n 0, 1) := by decide +kernel
theorem dX2_memberOf_112 : decode cX2_memberOf 112 = .ok (.getfield 12, 3) := by decide +kernel
theorem dX2_memberOf_115 : decode cX2_memberOf 115 = .ok (.getfield 59, 3) := by decide +kernel
theorem dX2_memberOf_118 : decode cX2_memberOf 118 = .ok (.istore 6, 2) := by decide +kernel
theorem dX2_memberOf_120 : decode cX2_memberOf 120 = .ok (.iconst 0, 1) := by decide +kernel
theorem dX2_memberOf_121 : decode cX2_memberOf 121 = .ok (.istore 7, 2) := by decide +kernel
theorem dX2_memberOf_123 : decode cX2_memberOf 123 = .ok (.iload 7, 2) := by decide +kernel
theorem dX2_memberOf_125 : decode cX2_memberOf 125 = .ok (.iload 6, 2) := by decide +kernel
theorem dX2_memberOf_127 : decode cX2_memberOf 127 = .ok (.if_icmp .ge 74, 3) := by decide +kernel
theorem dX2_memberOf_130 : decode cX2_memberOf 130 = .ok (.aload_n 0, 1) := by decide +kernel
theorem dX2_memberOf_131 : decode cX2_memberOf 131 = .ok (.getfield 12, 3) := by decide +kernel
theorem dX2_memberOf_134 : decode cX2_memberOf 134 = .ok (.aload_n 0, 1) := by decide +kernel
theorem dX2_memberOf_135 : decode cX2_memberOf 135 = .ok (.getfield 12, 3) := by decide +kernel
theorem dX2_memberOf_138 : decode cX2_memberOf 138 = .ok (.iload 5, 2) := by decide +kernel
theorem dX2_memberOf_140 : decode cX2_memberOf 140 = .ok (.iload 7, 2) := by decide +kernel
theorem dX2_memberOf_142 : decode cX2_memberOf 142 = .ok (.iadd, 1) := by decide +kernel
theorem dX2_memberOf_143 : decode cX2_memberOf 143 = .ok (.invokevirtual 267, 3) := by decide +kernel
theorem dX2_memberOf_146 : decode cX2_memberOf 146 = .ok (.aload_n 0, 1) := by decide +kernel
theorem dX2_memberOf_147 : decode cX2_memberOf 147 = .ok (.getfield 12, 3) := by decide +kernel
theorem dX2_memberOf_150 : decode cX2_memberOf 150 = .ok (.iload 4, 2) := by decide +kernel
theorem dX2_memberOf_152 : decode cX2_memberOf 152 = .ok (.invokevirtual 247, 3) := by decide +kernel
theorem dX2_memberOf_155 : decode cX2_memberOf 155 = .ok (.invokevirtual 261, 3) := by decide +kernel
theorem dX2_memberOf_158 : decode cX2_memberOf 158 = .ok (.ifCond .eq 37, 3) := by decide +kernel
theorem dX2_memberOf_161 : decode cX2_memberOf 161 = .ok (.aload_n 0, 1) := by decide +kernel
theorem dX2_memberOf_162 : decode cX2_memberOf 162 = .ok (.getfield 12, 3) := by decide +kernel
theorem dX2_memberOf_165 : decode cX2_memberOf 165 = .ok (.aload_n 0, 1) := by decide +kernel
theorem dX2_memberOf_166 : decode cX2_memberOf 166 = .ok (.getfield 12, 3) := by decide +kernel
theorem dX2_memberOf_169 : decode cX2_memberOf 169 = .ok (.iload 5, 2) := by decide +kernel
theorem dX2_memberOf_171 : decode cX2_memberOf 171 = .ok (.iload 7, 2) := by decide +kernel
theorem dX2_memberOf_173 : decode cX2_memberOf 173 = .ok (.iadd, 1) := by decide +kernel
theorem dX2_memberOf_174 : decode cX2_memberOf 174 = .ok (.invokevirtual 65, 3) := by decide +kernel
theorem dX2_memberOf_177 : decode cX2_memberOf 177 = .ok (.aload_n 0, 1) := by decide +kernel
theorem dX2_memberOf_178 : decode cX2_memberOf 178 = .ok (.getfield 12, 3) := by decide +kernel
theorem dX2_memberOf_181 : decode cX2_memberOf 181 = .ok (.iload 4, 2) := by decide +kernel
theorem dX2_memberOf_183 : decode cX2_memberOf 183 = .ok (.invokevirtual 264, 3) := by decide +kernel
theorem dX2_memberOf_186 : decode cX2_memberOf 186 = .ok (.invokevirtual 261, 3) := by decide +kernel
theorem dX2_memberOf_189 : decode cX2_memberOf 189 = .ok (.ifCond .eq 6, 3) := by decide +kernel
theorem dX2_memberOf_192 : decode cX2_memberOf 192 = .ok (.iload 7, 2) := by decide +kernel
theorem dX2_memberOf_194 : decode cX2_memberOf 194 = .ok (.ireturn, 1) := by decide +kernel
theorem dX2_memberOf_195 : decode cX2_memberOf 195 = .ok (.iinc 7 1, 3) := by decide +kernel
theorem dX2_memberOf_198 : decode cX2_memberOf 198 = .ok (.goto (-75), 3) := by decide +kernel
theorem dX2_memberOf_201 : decode cX2_memberOf 201 = .ok (.iconst (-1), 1) := by decide +kernel
theorem dX2_memberOf_202 : decode cX2_memberOf 202 = .ok (.ireturn, 1) := by decide +kernel
theorem dX2_numberInstructions_0 : decode cX2_numberInstructions 0 = .ok (.aload_n 0, 1) := by decide +kernel
theorem dX2_numberInstructions_1 : decode cX2_numberInstructions 1 = .ok (.getfield 18, 3) := by decide +kernel
theorem dX2_numberInstructions_4 : decode cX2_numberInstructions 4 = .ok (.iconst (-1), 1) := by decide +kernel
theorem dX2_numberInstructions_5 : decode cX2_numberInstructions 5 = .ok (.invokestatic 210, 3) := by decide +kernel
theorem dX2_numberInstructions_8 : decode cX2_numberInstructions 8 = .ok (.aload_n 0, 1) := by decide +kernel
theorem dX2_numberInstructions_9 : decode cX2_numberInstructions 9 = .ok (.iconst 0, 1) := by decide +kernel
theorem dX2_numberInstructions_10 : decode cX2_numberInstructions 10 = .ok (.putfield 216, 3) := by decide +kernel
theorem dX2_numberInstructions_13 : decode cX2_numberInstructions 13 = .ok (.iconst 0, 1) := by decide +kernel
theorem dX2_numberInstructions_14 : decode cX2_numberInstructions 14 = .ok (.istore_n 1, 1) := by decide +kernel
theorem dX2_numberInstructions_15 : decode cX2_numberInstructions 15 = .ok (.iload_n 1, 1) := by decide +kernel
theorem dX2_numberInstructions_16 : decode cX2_numberInstructions 16 = .ok (.aload_n 0, 1) := by decide +kernel
theorem dX2_numberInstructions_17 : decode cX2_numberInstructions 17 = .ok (.getfield 117, 3) := by decide +kernel
theorem dX2_numberInstructions_20 : decode cX2_numberInstructions 20 = .ok (.if_icmp .ge 47, 3) := by decide +kernel
theorem dX2_numberInstructions_23 : decode cX2_numberInstructions 23 = .ok (.iload_n 1, 1) := by decide +kernel
theorem dX2_numberInstructions_24 : decode cX2_numberInstructions 24 = .ok (.aload_n 0, 1) := by decide +kernel
theorem dX2_numberInstructions_25 : decode cX2_numberInstructions 25 = .ok (.getfield 18, 3) := by decide +kernel
theorem dX2_numberInstructions_28 : decode cX2_numberInstructions 28 = .ok (.arraylength, 1) := by decide +kernel
theorem dX2_numberInstructions_29 : decode cX2_numberInstructions 29 = .ok (.if_icmp .ge 38, 3) := by decide +kernel
theorem dX2_numberInstructions_32 : decode cX2_numberInstructions 32 = .ok (.aload_n 0, 1) := by decide +kernel
theorem dX2_numberInstructions_33 : decode cX2_numberInstructions 33 = .ok (.getfield 18, 3) := by decide +kernel
theorem dX2_numberInstructions_36 : decode cX2_numberInstructions 36 = .ok (.iload_n 1, 1) := by decide +kernel
theorem dX2_numberInstructions_37 : decode cX2_numberInstructions 37 = .ok (.aload_n 0, 1) := by decide +kernel
theorem dX2_numberInstructions_38 : decode cX2_numberInstructions 38 = .ok (.getfield 216, 3) := by decide +kernel
theorem dX2_numberInstructions_41 : decode cX2_numberInstructions 41 = .ok (.iastore, 1) := by decide +kernel
theorem dX2_numberInstructions_42 : decode cX2_numberInstructions 42 = .ok (.aload_n 0, 1) := by decide +kernel
theorem dX2_numberInstructions_43 : decode cX2_numberInstructions 43 = .ok (.dup, 1) := by decide +kernel
theorem dX2_numberInstructions_44 : decode cX2_numberInstructions 44 = .ok (.getfield 216, 3) := by decide +kernel
theorem dX2_numberInstructions_47 : decode cX2_numberInstructions 47 = .ok (.iconst 1, 1) := by decide +kernel
theorem dX2_numberInstructions_48 : decode cX2_numberInstructions 48 = .ok (.iadd, 1) := by decide +kernel
theorem dX2_numberInstructions_49 : decode cX2_numberInstructions 49 = .ok (.putfield 216, 3) := by decide +kernel
theorem dX2_numberInstructions_52 : decode cX2_numberInstructions 52 = .ok (.iload_n 1, 1) := by decide +kernel
theorem dX2_numberInstructions_53 : decode cX2_numberInstructions 53 = .ok (.iconst 1, 1) := by decide +kernel
theorem dX2_numberInstructions_54 : decode cX2_numberInstructions 54 = .ok (.aload_n 0, 1) := by decide +kernel
theorem dX2_numberInstructions_55 : decode cX2_numberInstructions 55 = .ok (.iload_n 1, 1) := by decide +kernel
theorem dX2_numberInstructions_56 : decode cX2_numberInstructions 56 = .ok (.invokevirtual 133, 3) := by decide +kernel
theorem dX2_numberInstructions_59 : decode cX2_numberInstructions 59 = .ok (.invokestatic 204, 3) := by decide +kernel
theorem dX2_numberInstructions_62 : decode cX2_numberInstructions 62 = .ok (.iadd, 1) := by decide +kernel
theorem dX2_numberInstructions_63 : decode cX2_numberInstructions 63 = .ok (.istore_n 1, 1) := by decide +kernel
theorem dX2_numberInstructions_64 : decode cX2_numberInstructions 64 = .ok (.goto (-49), 3) := by decide +kernel
theorem dX2_numberInstructions_67 : decode cX2_numberInstructions 67 = .ok (.aload_n 0, 1) := by decide +kernel
theorem dX2_numberInstructions_68 : decode cX2_numberInstructions 68 = .ok (.getfield 117, 3) := by decide +kernel
theorem dX2_numberInstructions_71 : decode cX2_numberInstructions 71 = .ok (.ifCond .lt 28, 3) := by decide +kernel
theorem dX2_numberInstructions_74 : decode cX2_numberInstructions 74 = .ok (.aload_n 0, 1) := by decide +kernel
theorem dX2_numberInstructions_75 : decode cX2_numberInstructions 75 = .ok (.getfield 117, 3) := by decide +kernel
theorem dX2_numberInstructions_78 : decode cX2_numberInstructions 78 = .ok (.aload_n 0, 1) := by decide +kernel
theorem dX2_numberInstructions_79 : decode cX2_numberInstructions 79 = .ok (.getfield 18, 3) := by decide +kernel
theorem dX2_numberInstructions_82 : decode cX2_numberInstructions 82 = .ok (.arraylength, 1) := by decide +kernel
theorem dX2_numberInstructions_83 : decode cX2_numberInstructions 83 = .ok (.if_icmp .ge 16, 3) := by decide +kernel
theorem dX2_numberInstructions_86 : decode cX2_numberInstructions 86 = .ok (.aload_n 0, 1) := by decide +kernel
theorem dX2_numberInstructions_87 : decode cX2_numberInstructions 87 = .ok (.getfield 18, 3) := by decide +kernel
theorem dX2_numberInstructions_90 : decode cX2_numberInstructions 90 = .ok (.aload_n 0, 1) := by decide +kernel
theorem dX2_numberInstructions_91 : decode cX2_numberInstructions 91 = .ok (.getfield 117, 3) := by decide +kernel
theorem dX2_numberInstructions_94 : decode cX2_numberInstructions 94 = .ok (.aload_n 0, 1) := by decide +kernel
theorem dX2_numberInstructions_95 : decode cX2_numberInstructions 95 = .ok (.getfield 216, 3) := by decide +kernel
theorem dX2_numberInstructions_98 : decode cX2_numberInstructions 98 = .ok (.iastore, 1) := by decide +kernel
theorem dX2_numberInstructions_99 : decode cX2_numberInstructions 99 = .ok (.return_, 1) := by decide +kernel
theorem dX2_numberOf_0 : decode cX2_numberOf 0 = .ok (.lload_n 1, 1) := by decide +kernel
theorem dX2_numberOf_1 : decode cX2_numberOf 1 = .ok (.lconst 0, 1) := by decide +kernel
theorem dX2_numberOf_2 : decode cX2_numberOf 2 = .ok (.lcmp, 1) := by decide +kernel
theorem dX2_numberOf_3 : decode cX2_numberOf 3 = .ok (.ifCond .lt 24, 3) := by decide +kernel
theorem dX2_numberOf_6 : decode cX2_numberOf 6 = .ok (.lload_n 1, 1) := by decide +kernel
theorem dX2_numberOf_7 : decode cX2_numberOf 7 = .ok (.aload_n 0, 1) := by decide +kernel
theorem dX2_numberOf_8 : decode cX2_numberOf 8 = .ok (.getfield 117, 3) := by decide +kernel
theorem dX2_numberOf_11 : decode cX2_numberOf 11 = .ok (.i2l, 1) := by decide +kernel
theorem dX2_numberOf_12 : decode cX2_numberOf 12 = .ok (.lcmp, 1) := by decide +kernel
theorem dX2_numberOf_13 : decode cX2_numberOf 13 = .ok (.ifCond .gt 14, 3) := by decide +kernel

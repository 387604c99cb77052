theorem dX2_lookupLength_28 : decode cX2_lookupLength 28 = .ok (.iload_n 3, 1) := by decide +kernel
theorem dX2_lookupLength_29 : decode cX2_lookupLength 29 = .ok (.sipush 200, 3) := by decide +kernel
theorem dX2_lookupLength_32 : decode cX2_lookupLength 32 = .ok (.if_icmp .gt 19, 3) := by decide +kernel
theorem dX2_lookupLength_35 : decode cX2_lookupLength 35 = .ok (.iload_n 2, 1) := by decide +kernel
theorem dX2_lookupLength_36 : decode cX2_lookupLength 36 = .ok (.bipush 8, 2) := by decide +kernel
theorem dX2_lookupLength_38 : decode cX2_lookupLength 38 = .ok (.iadd, 1) := by decide +kernel
theorem dX2_lookupLength_39 : decode cX2_lookupLength 39 = .ok (.bipush 8, 2) := by decide +kernel
theorem dX2_lookupLength_41 : decode cX2_lookupLength 41 = .ok (.iload_n 3, 1) := by decide +kernel
theorem dX2_lookupLength_42 : decode cX2_lookupLength 42 = .ok (.imul, 1) := by decide +kernel
theorem dX2_lookupLength_43 : decode cX2_lookupLength 43 = .ok (.iadd, 1) := by decide +kernel
theorem dX2_lookupLength_44 : decode cX2_lookupLength 44 = .ok (.aload_n 0, 1) := by decide +kernel
theorem dX2_lookupLength_45 : decode cX2_lookupLength 45 = .ok (.getfield 117, 3) := by decide +kernel
theorem dX2_lookupLength_48 : decode cX2_lookupLength 48 = .ok (.if_icmp .le 5, 3) := by decide +kernel
theorem dX2_lookupLength_51 : decode cX2_lookupLength 51 = .ok (.iconst 0, 1) := by decide +kernel
theorem dX2_lookupLength_52 : decode cX2_lookupLength 52 = .ok (.ireturn, 1) := by decide +kernel
theorem dX2_lookupLength_53 : decode cX2_lookupLength 53 = .ok (.iconst 1, 1) := by decide +kernel
theorem dX2_lookupLength_54 : decode cX2_lookupLength 54 = .ok (.istore 4, 2) := by decide +kernel
theorem dX2_lookupLength_56 : decode cX2_lookupLength 56 = .ok (.iload 4, 2) := by decide +kernel
theorem dX2_lookupLength_58 : decode cX2_lookupLength 58 = .ok (.iload_n 3, 1) := by decide +kernel
theorem dX2_lookupLength_59 : decode cX2_lookupLength 59 = .ok (.if_icmp .ge 39, 3) := by decide +kernel
theorem dX2_lookupLength_62 : decode cX2_lookupLength 62 = .ok (.aload_n 0, 1) := by decide +kernel
theorem dX2_lookupLength_63 : decode cX2_lookupLength 63 = .ok (.iload_n 2, 1) := by decide +kernel
theorem dX2_lookupLength_64 : decode cX2_lookupLength 64 = .ok (.bipush 8, 2) := by decide +kernel
theorem dX2_lookupLength_66 : decode cX2_lookupLength 66 = .ok (.iadd, 1) := by decide +kernel
theorem dX2_lookupLength_67 : decode cX2_lookupLength 67 = .ok (.bipush 8, 2) := by decide +kernel
theorem dX2_lookupLength_69 : decode cX2_lookupLength 69 = .ok (.iload 4, 2) := by decide +kernel
theorem dX2_lookupLength_71 : decode cX2_lookupLength 71 = .ok (.imul, 1) := by decide +kernel
theorem dX2_lookupLength_72 : decode cX2_lookupLength 72 = .ok (.iadd, 1) := by decide +kernel
theorem dX2_lookupLength_73 : decode cX2_lookupLength 73 = .ok (.invokevirtual 163, 3) := by decide +kernel
theorem dX2_lookupLength_76 : decode cX2_lookupLength 76 = .ok (.aload_n 0, 1) := by decide +kernel
theorem dX2_lookupLength_77 : decode cX2_lookupLength 77 = .ok (.iload_n 2, 1) := by decide +kernel
theorem dX2_lookupLength_78 : decode cX2_lookupLength 78 = .ok (.bipush 8, 2) := by decide +kernel
theorem dX2_lookupLength_80 : decode cX2_lookupLength 80 = .ok (.iload 4, 2) := by decide +kernel
theorem dX2_lookupLength_82 : decode cX2_lookupLength 82 = .ok (.imul, 1) := by decide +kernel
theorem dX2_lookupLength_83 : decode cX2_lookupLength 83 = .ok (.iadd, 1) := by decide +kernel
theorem dX2_lookupLength_84 : decode cX2_lookupLength 84 = .ok (.invokevirtual 163, 3) := by decide +kernel
theorem dX2_lookupLength_87 : decode cX2_lookupLength 87 = .ok (.if_icmp .gt 5, 3) := by decide +kernel
theorem dX2_lookupLength_90 : decode cX2_lookupLength 90 = .ok (.iconst 0, 1) := by decide +kernel
theorem dX2_lookupLength_91 : decode cX2_lookupLength 91 = .ok (.ireturn, 1) := by decide +kernel
theorem dX2_lookupLength_92 : decode cX2_lookupLength 92 = .ok (.iinc 4 1, 3) := by decide +kernel
theorem dX2_lookupLength_95 : decode cX2_lookupLength 95 = .ok (.goto (-39), 3) := by decide +kernel
theorem dX2_lookupLength_98 : decode cX2_lookupLength 98 = .ok (.iload_n 2, 1) := by decide +kernel
theorem dX2_lookupLength_99 : decode cX2_lookupLength 99 = .ok (.bipush 8, 2) := by decide +kernel
theorem dX2_lookupLength_101 : decode cX2_lookupLength 101 = .ok (.iadd, 1) := by decide +kernel
theorem dX2_lookupLength_102 : decode cX2_lookupLength 102 = .ok (.bipush 8, 2) := by decide +kernel
theorem dX2_lookupLength_104 : decode cX2_lookupLength 104 = .ok (.iload_n 3, 1) := by decide +kernel
theorem dX2_lookupLength_105 : decode cX2_lookupLength 105 = .ok (.imul, 1) := by decide +kernel
theorem dX2_lookupLength_106 : decode cX2_lookupLength 106 = .ok (.iadd, 1) := by decide +kernel
theorem dX2_lookupLength_107 : decode cX2_lookupLength 107 = .ok (.iload_n 1, 1) := by decide +kernel
theorem dX2_lookupLength_108 : decode cX2_lookupLength 108 = .ok (.isub, 1) := by decide +kernel
theorem dX2_lookupLength_109 : decode cX2_lookupLength 109 = .ok (.ireturn, 1) := by decide +kernel
theorem dX2_memberOf_0 : decode cX2_memberOf 0 = .ok (.aload_n 0, 1) := by decide +kernel
theorem dX2_memberOf_1 : decode cX2_memberOf 1 = .ok (.getfield 12, 3) := by decide +kernel
theorem dX2_memberOf_4 : decode cX2_memberOf 4 = .ok (.iload_n 1, 1) := by decide +kernel
theorem dX2_memberOf_5 : decode cX2_memberOf 5 = .ok (.invokevirtual 231, 3) := by decide +kernel
theorem dX2_memberOf_8 : decode cX2_memberOf 8 = .ok (.iload_n 2, 1) := by decide +kernel
theorem dX2_memberOf_9 : decode cX2_memberOf 9 = .ok (.if_icmp .eq 5, 3) := by decide +kernel
theorem dX2_memberOf_12 : decode cX2_memberOf 12 = .ok (.iconst (-1), 1) := by decide +kernel
theorem dX2_memberOf_13 : decode cX2_memberOf 13 = .ok (.ireturn, 1) := by decide +kernel
theorem dX2_memberOf_14 : decode cX2_memberOf 14 = .ok (.aload_n 0, 1) := by decide +kernel
theorem dX2_memberOf_15 : decode cX2_memberOf 15 = .ok (.getfield 12, 3) := by decide +kernel
theorem dX2_memberOf_18 : decode cX2_memberOf 18 = .ok (.aload_n 0, 1) := by decide +kernel
theorem dX2_memberOf_19 : decode cX2_memberOf 19 = .ok (.getfield 12, 3) := by decide +kernel
theorem dX2_memberOf_22 : decode cX2_memberOf 22 = .ok (.getfield 258, 3) := by decide +kernel
theorem dX2_memberOf_25 : decode cX2_memberOf 25 = .ok (.iconst 2, 1) := by decide +kernel
theorem dX2_memberOf_26 : decode cX2_memberOf 26 = .ok (.iadd, 1) := by decide +kernel
theorem dX2_memberOf_27 : decode cX2_memberOf 27 = .ok (.invokevirtual 90, 3) := by decide +kernel
theorem dX2_memberOf_30 : decode cX2_memberOf 30 = .ok (.istore_n 3, 1) := by decide +kernel
theorem dX2_memberOf_31 : decode cX2_memberOf 31 = .ok (.aload_n 0, 1) := by decide +kernel
theorem dX2_memberOf_32 : decode cX2_memberOf 32 = .ok (.getfield 12, 3) := by decide +kernel
theorem dX2_memberOf_35 : decode cX2_memberOf 35 = .ok (.aload_n 0, 1) := by decide +kernel
theorem dX2_memberOf_36 : decode cX2_memberOf 36 = .ok (.getfield 12, 3) := by decide +kernel
theorem dX2_memberOf_39 : decode cX2_memberOf 39 = .ok (.aload_n 0, 1) := by decide +kernel
theorem dX2_memberOf_40 : decode cX2_memberOf 40 = .ok (.getfield 12, 3) := by decide +kernel
theorem dX2_memberOf_43 : decode cX2_memberOf 43 = .ok (.iload_n 1, 1) := by decide +kernel
theorem dX2_memberOf_44 : decode cX2_memberOf 44 = .ok (.invokevirtual 247, 3) := by decide +kernel
theorem dX2_memberOf_47 : decode cX2_memberOf 47 = .ok (.invokevirtual 247, 3) := by decide +kernel
theorem dX2_memberOf_50 : decode cX2_memberOf 50 = .ok (.aload_n 0, 1) := by decide +kernel
theorem dX2_memberOf_51 : decode cX2_memberOf 51 = .ok (.getfield 12, 3) := by decide +kernel
theorem dX2_memberOf_54 : decode cX2_memberOf 54 = .ok (.iload_n 3, 1) := by decide +kernel
theorem dX2_memberOf_55 : decode cX2_memberOf 55 = .ok (.invokevirtual 247, 3) := by decide +kernel
theorem dX2_memberOf_58 : decode cX2_memberOf 58 = .ok (.invokevirtual 261, 3) := by decide +kernel
theorem dX2_memberOf_61 : decode cX2_memberOf 61 = .ok (.ifCond .ne 5, 3) := by decide +kernel
theorem dX2_memberOf_64 : decode cX2_memberOf 64 = .ok (.iconst (-1), 1) := by decide +kernel
theorem dX2_memberOf_65 : decode cX2_memberOf 65 = .ok (.ireturn, 1) := by decide +kernel
theorem dX2_memberOf_66 : decode cX2_memberOf 66 = .ok (.aload_n 0, 1) := by decide +kernel
theorem dX2_memberOf_67 : decode cX2_memberOf 67 = .ok (.getfield 12, 3) := by decide +kernel
theorem dX2_memberOf_70 : decode cX2_memberOf 70 = .ok (.iload_n 1, 1) := by decide +kernel
theorem dX2_memberOf_71 : decode cX2_memberOf 71 = .ok (.invokevirtual 264, 3) := by decide +kernel
theorem dX2_memberOf_74 : decode cX2_memberOf 74 = .ok (.istore 4, 2) := by decide +kernel
theorem dX2_memberOf_76 : decode cX2_memberOf 76 = .ok (.iload_n 2, 1) := by decide +kernel
theorem dX2_memberOf_77 : decode cX2_memberOf 77 = .ok (.bipush 9, 2) := by decide +kernel
theorem dX2_memberOf_79 : decode cX2_memberOf 79 = .ok (.if_icmp .ne 7, 3) := by decide +kernel
theorem dX2_memberOf_82 : decode cX2_memberOf 82 = .ok (.iconst 0, 1) := by decide +kernel
theorem dX2_memberOf_83 : decode cX2_memberOf 83 = .ok (.goto 10, 3) := by decide +kernel
theorem dX2_memberOf_86 : decode cX2_memberOf 86 = .ok (.aload_n 0, 1) := by decide +kernel
theorem dX2_memberOf_87 : decode cX2_memberOf 87 = .ok (.getfield 12, 3) := by decide +kernel
theorem dX2_memberOf_90 : decode cX2_memberOf 90 = .ok (.getfield 62, 3) := by decide +kernel
theorem dX2_memberOf_93 : decode cX2_memberOf 93 = .ok (.istore 5, 2) := by decide +kernel
theorem dX2_memberOf_95 : decode cX2_memberOf 95 = .ok (.iload_n 2, 1) := by decide +kernel
theorem dX2_memberOf_96 : decode cX2_memberOf 96 = .ok (.bipush 9, 2) := by decide +kernel
theorem dX2_memberOf_98 : decode cX2_memberOf 98 = .ok (.if_icmp .ne 13, 3) := by decide +kernel
theorem dX2_memberOf_101 : decode cX2_memberOf 101 = .ok (.aload_n 0, 1) := by decide +kernel
theorem dX2_memberOf_102 : decode cX2_memberOf 102 = .ok (.getfield 12, 3) := by decide +kernel
theorem dX2_memberOf_105 : decode cX2_memberOf 105 = .ok (.getfield 62, 3) := by decide +kernel
theorem dX2_memberOf_108 : decode cX2_memberOf 108 = .ok (.goto 10, 3) := by decide +kernel
theorem dX2_memberOf_111 : decode cX2_memberOf 111 = .ok (.aload_n 0, 1) := by decide +kernel
theorem dX2_memberOf_112 : decode cX2_memberOf 112 = .ok (.getfield 12, 3) := by decide +kernel
theorem dX2_memberOf_115 : decode cX2_memberOf 115 = .ok (.getfield 59, 3) := by decide +kernel
theorem dX2_memberOf_118 : decode cX2_memberOf 118 = .ok (.istore 6, 2) := by decide +kernel
theorem dX2_memberOf_120 : decode cX2_memberOf 120 = .ok (.iconst 0, 1) := by decide +kernel
theorem dX2_memberOf_121 : decode cX2_memberOf 121 = .ok (.istore 7, 2) := by decide +kernel
theorem dX2_memberOf_123 : decode cX2_memberOf 123 = .ok (.iload 7, 2) := by decide +kernel
theorem dX2_memberOf_125 : decode cX2_memberOf 125 = .ok (.iload 6, 2) := by decide +kernel
theorem dX2_memberOf_127 : decode cX2_memberOf 127 = .ok (.if_icmp .ge 74, 3) := by decide +kernel
theorem dX2_memberOf_130 : decode cX2_memberOf 130 = .ok (.aload_n 0, 1) := by decide +kernel
theorem dX2_memberOf_131 : decode cX2_memberOf 131 = .ok (.getfield 12, 3) := by decide +kernel
theorem dX2_memberOf_134 : decode cX2_memberOf 134 = .ok (.aload_n 0, 1) := by decide +kernel
theorem dX2_memberOf_135 : decode cX2_memberOf 135 = .ok (.getfield 12, 3) := by decide +kernel
theorem dX2_memberOf_138 : decode cX2_memberOf 138 = .ok (.iload 5, 2) := by decide +kernel
theorem dX2_memberOf_140 : decode cX2_memberOf 140 = .ok (.iload 7, 2) := by decide +kernel
theorem dX2_memberOf_142 : decode cX2_memberOf 142 = .ok (.iadd, 1) := by decide +kernel
theorem dX2_memberOf_143 : decode cX2_memberOf 143 = .ok (.invokevirtual 267, 3) := by decide +kernel
theorem dX2_memberOf_146 : decode cX2_memberOf 146 = .ok (.aload_n 0, 1) := by decide +kernel
theorem dX2_memberOf_147 : decode cX2_memberOf 147 = .ok (.getfield 12, 3) := by decide +kernel
theorem dX2_memberOf_150 : decode cX2_memberOf 150 = .ok (.iload 4, 2) := by decide +kernel
theorem dX2_memberOf_152 : decode cX2_memberOf 152 = .ok (.invokevirtual 247, 3) := by decide +kernel
theorem dX2_memberOf_155 : decode cX2_memberOf 155 = .ok (.invokevirtual 261, 3) := by decide +kernel
theorem dX2_memberOf_158 : decode cX2_memberOf 158 = .ok (.ifCond .eq 37, 3) := by decide +kernel
theorem dX2_memberOf_161 : decode cX2_memberOf 161 = .ok (.aload_n 0, 1) := by decide +kernel
theorem dX2_memberOf_162 : decode cX2_memberOf 162 = .ok (.getfield 12, 3) := by decide +kernel
theorem dX2_memberOf_165 : decode cX2_memberOf 165 = .ok (.aload_n 0, 1) := by decide +kernel
theorem dX2_memberOf_166 : decode cX2_memberOf 166 = .ok (.getfield 12, 3) := by decide +kernel
theorem dX2_memberOf_169 : decode cX2_memberOf 169 = .ok (.iload 5, 2) := by decide +kernel
theorem dX2_memberOf_171 : decode cX2_memberOf 171 = .ok (.iload 7, 2) := by decide +kernel
theorem dX2_memberOf_173 : decode cX2_memberOf 173 = .ok (.iadd, 1) := by decide +kernel
theorem dX2_memberOf_174 : decode cX2_memberOf 174 = .ok (.invokevirtual 65, 3) := by decide +kernel
theorem dX2_memberOf_177 : decode cX2_memberOf 177 = .ok (.aload_n 0, 1) := by decide +kernel
theorem dX2_memberOf_178 : decode cX2_memberOf 178 = .ok (.getfield 12, 3) := by decide +kernel
theorem dX2_memberOf_181 : decode cX2_memberOf 181 = .ok (.iload 4, 2) := by decide +kernel
theorem dX2_memberOf_183 : decode cX2_memberOf 183 = .ok (.invokevirtual 264, 3) := by decide +kernel
theorem dX2_memberOf_186 : decode cX2_memberOf 186 = .ok (.invokevirtual 261, 3) := by decide +kernel
theorem dX2_memberOf_189 : decode cX2_memberOf 189 = .ok (.ifCond .eq 6, 3) := by decide +kernel
theorem dX2_memberOf_192 : decode cX2_memberOf 192 = .ok (.iload 7, 2) := by decide +kernel
theorem dX2_memberOf_194 : decode cX2_memberOf 194 = .ok (.ireturn, 1) := by decide +kernel
theorem dX2_memberOf_195 : decode cX2_memberOf 195 = .ok (.iinc 7 1, 3) := by decide +kernel
theorem dX2_memberOf_198 : decode cX2_memberOf 198 = .ok (.goto (-75), 3) := by decide +kernel
theorem dX2_memberOf_201 : decode cX2_memberOf 201 = .ok (.iconst (-1), 1) := by decide +kernel
theorem dX2_memberOf_202 : decode cX2_memberOf 202 = .ok (.ireturn, 1) := by decide +kernel
theorem dX2_numberInstructions_0 : decode cX2_numberInstructions 0 = .ok (.aload_n 0, 1) := by decide +kernel

theorem dX14_turnedRow_25 : decode cX14_turnedRow 25 = .ok (.iload_n 1, 1) := by decide +kernel
theorem dX14_turnedRow_26 : decode cX14_turnedRow 26 = .ok (.bipush 18, 2) := by decide +kernel
theorem dX14_turnedRow_28 : decode cX14_turnedRow 28 = .ok (.aload_n 0, 1) := by decide +kernel
theorem dX14_turnedRow_29 : decode cX14_turnedRow 29 = .ok (.getfield 243, 3) := by decide +kernel
theorem dX14_turnedRow_32 : decode cX14_turnedRow 32 = .ok (.iload_n 1, 1) := by decide +kernel
theorem dX14_turnedRow_33 : decode cX14_turnedRow 33 = .ok (.iaload, 1) := by decide +kernel
theorem dX14_turnedRow_34 : decode cX14_turnedRow 34 = .ok (.ineg, 1) := by decide +kernel
theorem dX14_turnedRow_35 : decode cX14_turnedRow 35 = .ok (.i2l, 1) := by decide +kernel
theorem dX14_turnedRow_36 : decode cX14_turnedRow 36 = .ok (.invokevirtual 1223, 3) := by decide +kernel
theorem dX14_turnedRow_39 : decode cX14_turnedRow 39 = .ok (.goto 154, 3) := by decide +kernel
theorem dX14_turnedRow_42 : decode cX14_turnedRow 42 = .ok (.aload_n 0, 1) := by decide +kernel
theorem dX14_turnedRow_43 : decode cX14_turnedRow 43 = .ok (.getfield 240, 3) := by decide +kernel
theorem dX14_turnedRow_46 : decode cX14_turnedRow 46 = .ok (.iload_n 1, 1) := by decide +kernel
theorem dX14_turnedRow_47 : decode cX14_turnedRow 47 = .ok (.iaload, 1) := by decide +kernel
theorem dX14_turnedRow_48 : decode cX14_turnedRow 48 = .ok (.bipush 20, 2) := by decide +kernel
theorem dX14_turnedRow_50 : decode cX14_turnedRow 50 = .ok (.if_icmp .ne 25, 3) := by decide +kernel
theorem dX14_turnedRow_53 : decode cX14_turnedRow 53 = .ok (.iload_n 3, 1) := by decide +kernel
theorem dX14_turnedRow_54 : decode cX14_turnedRow 54 = .ok (.bipush 117, 2) := by decide +kernel
theorem dX14_turnedRow_56 : decode cX14_turnedRow 56 = .ok (.if_icmp .ne 19, 3) := by decide +kernel
theorem dX14_turnedRow_59 : decode cX14_turnedRow 59 = .ok (.aload_n 0, 1) := by decide +kernel
theorem dX14_turnedRow_60 : decode cX14_turnedRow 60 = .ok (.iload_n 1, 1) := by decide +kernel
theorem dX14_turnedRow_61 : decode cX14_turnedRow 61 = .ok (.bipush 20, 2) := by decide +kernel
theorem dX14_turnedRow_63 : decode cX14_turnedRow 63 = .ok (.aload_n 0, 1) := by decide +kernel
theorem dX14_turnedRow_64 : decode cX14_turnedRow 64 = .ok (.iload_n 1, 1) := by decide +kernel
theorem dX14_turnedRow_65 : decode cX14_turnedRow 65 = .ok (.invokevirtual 1220, 3) := by decide +kernel
theorem dX14_turnedRow_68 : decode cX14_turnedRow 68 = .ok (.lneg, 1) := by decide +kernel
theorem dX14_turnedRow_69 : decode cX14_turnedRow 69 = .ok (.invokevirtual 1223, 3) := by decide +kernel
theorem dX14_turnedRow_72 : decode cX14_turnedRow 72 = .ok (.goto 121, 3) := by decide +kernel
theorem dX14_turnedRow_75 : decode cX14_turnedRow 75 = .ok (.aload_n 0, 1) := by decide +kernel
theorem dX14_turnedRow_76 : decode cX14_turnedRow 76 = .ok (.getfield 240, 3) := by decide +kernel
theorem dX14_turnedRow_79 : decode cX14_turnedRow 79 = .ok (.iload_n 1, 1) := by decide +kernel
theorem dX14_turnedRow_80 : decode cX14_turnedRow 80 = .ok (.iaload, 1) := by decide +kernel
theorem dX14_turnedRow_81 : decode cX14_turnedRow 81 = .ok (.bipush 18, 2) := by decide +kernel
theorem dX14_turnedRow_83 : decode cX14_turnedRow 83 = .ok (.if_icmp .ne 27, 3) := by decide +kernel
theorem dX14_turnedRow_86 : decode cX14_turnedRow 86 = .ok (.iload_n 3, 1) := by decide +kernel
theorem dX14_turnedRow_87 : decode cX14_turnedRow 87 = .ok (.sipush 133, 3) := by decide +kernel
theorem dX14_turnedRow_90 : decode cX14_turnedRow 90 = .ok (.if_icmp .ne 20, 3) := by decide +kernel
theorem dX14_turnedRow_93 : decode cX14_turnedRow 93 = .ok (.aload_n 0, 1) := by decide +kernel
theorem dX14_turnedRow_94 : decode cX14_turnedRow 94 = .ok (.iload_n 1, 1) := by decide +kernel
theorem dX14_turnedRow_95 : decode cX14_turnedRow 95 = .ok (.bipush 20, 2) := by decide +kernel
theorem dX14_turnedRow_97 : decode cX14_turnedRow 97 = .ok (.aload_n 0, 1) := by decide +kernel
theorem dX14_turnedRow_98 : decode cX14_turnedRow 98 = .ok (.getfield 243, 3) := by decide +kernel
theorem dX14_turnedRow_101 : decode cX14_turnedRow 101 = .ok (.iload_n 1, 1) := by decide +kernel
theorem dX14_turnedRow_102 : decode cX14_turnedRow 102 = .ok (.iaload, 1) := by decide +kernel
theorem dX14_turnedRow_103 : decode cX14_turnedRow 103 = .ok (.i2l, 1) := by decide +kernel
theorem dX14_turnedRow_104 : decode cX14_turnedRow 104 = .ok (.invokevirtual 1223, 3) := by decide +kernel
theorem dX14_turnedRow_107 : decode cX14_turnedRow 107 = .ok (.goto 86, 3) := by decide +kernel
theorem dX14_turnedRow_110 : decode cX14_turnedRow 110 = .ok (.aload_n 0, 1) := by decide +kernel
theorem dX14_turnedRow_111 : decode cX14_turnedRow 111 = .ok (.getfield 240, 3) := by decide +kernel
theorem dX14_turnedRow_114 : decode cX14_turnedRow 114 = .ok (.iload_n 1, 1) := by decide +kernel
theorem dX14_turnedRow_115 : decode cX14_turnedRow 115 = .ok (.iaload, 1) := by decide +kernel
theorem dX14_turnedRow_116 : decode cX14_turnedRow 116 = .ok (.bipush 20, 2) := by decide +kernel
theorem dX14_turnedRow_118 : decode cX14_turnedRow 118 = .ok (.if_icmp .ne 27, 3) := by decide +kernel
theorem dX14_turnedRow_121 : decode cX14_turnedRow 121 = .ok (.iload_n 3, 1) := by decide +kernel
theorem dX14_turnedRow_122 : decode cX14_turnedRow 122 = .ok (.sipush 136, 3) := by decide +kernel
theorem dX14_turnedRow_125 : decode cX14_turnedRow 125 = .ok (.if_icmp .ne 20, 3) := by decide +kernel
theorem dX14_turnedRow_128 : decode cX14_turnedRow 128 = .ok (.aload_n 0, 1) := by decide +kernel
theorem dX14_turnedRow_129 : decode cX14_turnedRow 129 = .ok (.iload_n 1, 1) := by decide +kernel
theorem dX14_turnedRow_130 : decode cX14_turnedRow 130 = .ok (.bipush 18, 2) := by decide +kernel
theorem dX14_turnedRow_132 : decode cX14_turnedRow 132 = .ok (.aload_n 0, 1) := by decide +kernel
theorem dX14_turnedRow_133 : decode cX14_turnedRow 133 = .ok (.iload_n 1, 1) := by decide +kernel
theorem dX14_turnedRow_134 : decode cX14_turnedRow 134 = .ok (.invokevirtual 1220, 3) := by decide +kernel
theorem dX14_turnedRow_137 : decode cX14_turnedRow 137 = .ok (.l2i, 1) := by decide +kernel
theorem dX14_turnedRow_138 : decode cX14_turnedRow 138 = .ok (.i2l, 1) := by decide +kernel
theorem dX14_turnedRow_139 : decode cX14_turnedRow 139 = .ok (.invokevirtual 1223, 3) := by decide +kernel
theorem dX14_turnedRow_142 : decode cX14_turnedRow 142 = .ok (.goto 51, 3) := by decide +kernel
theorem dX14_turnedRow_145 : decode cX14_turnedRow 145 = .ok (.aload_n 0, 1) := by decide +kernel
theorem dX14_turnedRow_146 : decode cX14_turnedRow 146 = .ok (.getfield 240, 3) := by decide +kernel
theorem dX14_turnedRow_149 : decode cX14_turnedRow 149 = .ok (.iload_n 1, 1) := by decide +kernel
theorem dX14_turnedRow_150 : decode cX14_turnedRow 150 = .ok (.iaload, 1) := by decide +kernel
theorem dX14_turnedRow_151 : decode cX14_turnedRow 151 = .ok (.bipush 18, 2) := by decide +kernel
theorem dX14_turnedRow_153 : decode cX14_turnedRow 153 = .ok (.if_icmp .ne 38, 3) := by decide +kernel
theorem dX14_turnedRow_156 : decode cX14_turnedRow 156 = .ok (.iload_n 3, 1) := by decide +kernel
theorem dX14_turnedRow_157 : decode cX14_turnedRow 157 = .ok (.sipush 145, 3) := by decide +kernel
theorem dX14_turnedRow_160 : decode cX14_turnedRow 160 = .ok (.if_icmp .lt 31, 3) := by decide +kernel
theorem dX14_turnedRow_163 : decode cX14_turnedRow 163 = .ok (.iload_n 3, 1) := by decide +kernel
theorem dX14_turnedRow_164 : decode cX14_turnedRow 164 = .ok (.sipush 147, 3) := by decide +kernel
theorem dX14_turnedRow_167 : decode cX14_turnedRow 167 = .ok (.if_icmp .gt 24, 3) := by decide +kernel
theorem dX14_turnedRow_170 : decode cX14_turnedRow 170 = .ok (.aload_n 0, 1) := by decide +kernel
theorem dX14_turnedRow_171 : decode cX14_turnedRow 171 = .ok (.iload_n 1, 1) := by decide +kernel
theorem dX14_turnedRow_172 : decode cX14_turnedRow 172 = .ok (.bipush 18, 2) := by decide +kernel
theorem dX14_turnedRow_174 : decode cX14_turnedRow 174 = .ok (.iload_n 3, 1) := by decide +kernel
theorem dX14_turnedRow_175 : decode cX14_turnedRow 175 = .ok (.aload_n 0, 1) := by decide +kernel
theorem dX14_turnedRow_176 : decode cX14_turnedRow 176 = .ok (.getfield 243, 3) := by decide +kernel
theorem dX14_turnedRow_179 : decode cX14_turnedRow 179 = .ok (.iload_n 1, 1) := by decide +kernel
theorem dX14_turnedRow_180 : decode cX14_turnedRow 180 = .ok (.iaload, 1) := by decide +kernel
theorem dX14_turnedRow_181 : decode cX14_turnedRow 181 = .ok (.i2l, 1) := by decide +kernel
theorem dX14_turnedRow_182 : decode cX14_turnedRow 182 = .ok (.invokestatic 1076, 3) := by decide +kernel
theorem dX14_turnedRow_185 : decode cX14_turnedRow 185 = .ok (.invokevirtual 1223, 3) := by decide +kernel
theorem dX14_turnedRow_188 : decode cX14_turnedRow 188 = .ok (.goto 5, 3) := by decide +kernel
theorem dX14_turnedRow_191 : decode cX14_turnedRow 191 = .ok (.iconst 0, 1) := by decide +kernel
theorem dX14_turnedRow_192 : decode cX14_turnedRow 192 = .ok (.ireturn, 1) := by decide +kernel
theorem dX14_turnedRow_193 : decode cX14_turnedRow 193 = .ok (.aload_n 0, 1) := by decide +kernel
theorem dX14_turnedRow_194 : decode cX14_turnedRow 194 = .ok (.getfield 249, 3) := by decide +kernel
theorem dX14_turnedRow_197 : decode cX14_turnedRow 197 = .ok (.iload_n 2, 1) := by decide +kernel
theorem dX14_turnedRow_198 : decode cX14_turnedRow 198 = .ok (.iconst 1, 1) := by decide +kernel
theorem dX14_turnedRow_199 : decode cX14_turnedRow 199 = .ok (.bastore, 1) := by decide +kernel
theorem dX14_turnedRow_200 : decode cX14_turnedRow 200 = .ok (.iconst 1, 1) := by decide +kernel
theorem dX14_turnedRow_201 : decode cX14_turnedRow 201 = .ok (.ireturn, 1) := by decide +kernel
theorem dX14_twice_0 : decode cX14_twice 0 = .ok (.iconst 0, 1) := by decide +kernel
theorem dX14_twice_1 : decode cX14_twice 1 = .ok (.istore_n 1, 1) := by decide +kernel
theorem dX14_twice_2 : decode cX14_twice 2 = .ok (.iload_n 1, 1) := by decide +kernel
theorem dX14_twice_3 : decode cX14_twice 3 = .ok (.aload_n 0, 1) := by decide +kernel
theorem dX14_twice_4 : decode cX14_twice 4 = .ok (.getfield 349, 3) := by decide +kernel
theorem dX14_twice_7 : decode cX14_twice 7 = .ok (.if_icmp .ge 89, 3) := by decide +kernel
theorem dX14_twice_10 : decode cX14_twice 10 = .ok (.iload_n 1, 1) := by decide +kernel
theorem dX14_twice_11 : decode cX14_twice 11 = .ok (.aload_n 0, 1) := by decide +kernel
theorem dX14_twice_12 : decode cX14_twice 12 = .ok (.getfield 358, 3) := by decide +kernel
theorem dX14_twice_15 : decode cX14_twice 15 = .ok (.if_icmp .ge 7, 3) := by decide +kernel
theorem dX14_twice_18 : decode cX14_twice 18 = .ok (.iconst 0, 1) := by decide +kernel
theorem dX14_twice_19 : decode cX14_twice 19 = .ok (.goto 7, 3) := by decide +kernel
theorem dX14_twice_22 : decode cX14_twice 22 = .ok (.aload_n 0, 1) := by decide +kernel
theorem dX14_twice_23 : decode cX14_twice 23 = .ok (.getfield 358, 3) := by decide +kernel
theorem dX14_twice_26 : decode cX14_twice 26 = .ok (.istore_n 2, 1) := by decide +kernel
theorem dX14_twice_27 : decode cX14_twice 27 = .ok (.iload_n 2, 1) := by decide +kernel
theorem dX14_twice_28 : decode cX14_twice 28 = .ok (.istore_n 3, 1) := by decide +kernel
theorem dX14_twice_29 : decode cX14_twice 29 = .ok (.iload_n 3, 1) := by decide +kernel
theorem dX14_twice_30 : decode cX14_twice 30 = .ok (.iload_n 1, 1) := by decide +kernel
theorem dX14_twice_31 : decode cX14_twice 31 = .ok (.if_icmp .ge 59, 3) := by decide +kernel
theorem dX14_twice_34 : decode cX14_twice 34 = .ok (.aload_n 0, 1) := by decide +kernel
theorem dX14_twice_35 : decode cX14_twice 35 = .ok (.aload_n 0, 1) := by decide +kernel
theorem dX14_twice_36 : decode cX14_twice 36 = .ok (.aload_n 0, 1) := by decide +kernel
theorem dX14_twice_37 : decode cX14_twice 37 = .ok (.aload_n 0, 1) := by decide +kernel
theorem dX14_twice_38 : decode cX14_twice 38 = .ok (.getfield 47, 3) := by decide +kernel
theorem dX14_twice_41 : decode cX14_twice 41 = .ok (.iload_n 3, 1) := by decide +kernel
theorem dX14_twice_42 : decode cX14_twice 42 = .ok (.iaload, 1) := by decide +kernel
theorem dX14_twice_43 : decode cX14_twice 43 = .ok (.iconst 2, 1) := by decide +kernel
theorem dX14_twice_44 : decode cX14_twice 44 = .ok (.iadd, 1) := by decide +kernel
theorem dX14_twice_45 : decode cX14_twice 45 = .ok (.invokevirtual 316, 3) := by decide +kernel
theorem dX14_twice_48 : decode cX14_twice 48 = .ok (.aload_n 0, 1) := by decide +kernel
theorem dX14_twice_49 : decode cX14_twice 49 = .ok (.aload_n 0, 1) := by decide +kernel
theorem dX14_twice_50 : decode cX14_twice 50 = .ok (.getfield 47, 3) := by decide +kernel
theorem dX14_twice_53 : decode cX14_twice 53 = .ok (.iload_n 1, 1) := by decide +kernel
theorem dX14_twice_54 : decode cX14_twice 54 = .ok (.iaload, 1) := by decide +kernel
theorem dX14_twice_55 : decode cX14_twice 55 = .ok (.iconst 2, 1) := by decide +kernel
theorem dX14_twice_56 : decode cX14_twice 56 = .ok (.iadd, 1) := by decide +kernel
theorem dX14_twice_57 : decode cX14_twice 57 = .ok (.invokevirtual 316, 3) := by decide +kernel
theorem dX14_twice_60 : decode cX14_twice 60 = .ok (.invokevirtual 401, 3) := by decide +kernel
theorem dX14_twice_63 : decode cX14_twice 63 = .ok (.ifCond .ne 7, 3) := by decide +kernel
theorem dX14_twice_66 : decode cX14_twice 66 = .ok (.iconst 1, 1) := by decide +kernel
theorem dX14_twice_67 : decode cX14_twice 67 = .ok (.goto 4, 3) := by decide +kernel
theorem dX14_twice_70 : decode cX14_twice 70 = .ok (.iconst 0, 1) := by decide +kernel
theorem dX14_twice_71 : decode cX14_twice 71 = .ok (.bipush 11, 2) := by decide +kernel
theorem dX14_twice_73 : decode cX14_twice 73 = .ok (.aload_n 0, 1) := by decide +kernel
theorem dX14_twice_74 : decode cX14_twice 74 = .ok (.getfield 47, 3) := by decide +kernel
theorem dX14_twice_77 : decode cX14_twice 77 = .ok (.iload_n 1, 1) := by decide +kernel
theorem dX14_twice_78 : decode cX14_twice 78 = .ok (.iaload, 1) := by decide +kernel
theorem dX14_twice_79 : decode cX14_twice 79 = .ok (.iconst 2, 1) := by decide +kernel
theorem dX14_twice_80 : decode cX14_twice 80 = .ok (.iadd, 1) := by decide +kernel
theorem dX14_twice_81 : decode cX14_twice 81 = .ok (.invokevirtual 325, 3) := by decide +kernel
theorem dX14_twice_84 : decode cX14_twice 84 = .ok (.iinc 3 1, 3) := by decide +kernel
theorem dX14_twice_87 : decode cX14_twice 87 = .ok (.goto (-58), 3) := by decide +kernel
theorem dX14_twice_90 : decode cX14_twice 90 = .ok (.iinc 1 1, 3) := by decide +kernel
theorem dX14_twice_93 : decode cX14_twice 93 = .ok (.goto (-91), 3) := by decide +kernel
theorem dX14_twice_96 : decode cX14_twice 96 = .ok (.return_, 1) := by decide +kernel
theorem dX14_two_0 : decode cX14_two 0 = .ok (.aload_n 0, 1) := by decide +kernel
theorem dX14_two_1 : decode cX14_two 1 = .ok (.iload_n 1, 1) := by decide +kernel
theorem dX14_two_2 : decode cX14_two 2 = .ok (.invokevirtual 312, 3) := by decide +kernel
theorem dX14_two_5 : decode cX14_two 5 = .ok (.bipush 8, 2) := by decide +kernel
theorem dX14_two_7 : decode cX14_two 7 = .ok (.ishl, 1) := by decide +kernel
theorem dX14_two_8 : decode cX14_two 8 = .ok (.aload_n 0, 1) := by decide +kernel
theorem dX14_two_9 : decode cX14_two 9 = .ok (.iload_n 1, 1) := by decide +kernel
theorem dX14_two_10 : decode cX14_two 10 = .ok (.iconst 1, 1) := by decide +kernel
theorem dX14_two_11 : decode cX14_two 11 = .ok (.iadd, 1) := by decide +kernel
theorem dX14_two_12 : decode cX14_two 12 = .ok (.invokevirtual 312, 3) := by decide +kernel
theorem dX14_two_15 : decode cX14_two 15 = .ok (.ior, 1) := by decide +kernel
theorem dX14_two_16 : decode cX14_two 16 = .ok (.ireturn, 1) := by decide +kernel
theorem dX14_typeAt_0 : decode cX14_typeAt 0 = .ok (.aload_n 0, 1) := by decide +kernel
theorem dX14_typeAt_1 : decode cX14_typeAt 1 = .ok (.iload_n 1, 1) := by decide +kernel
theorem dX14_typeAt_2 : decode cX14_typeAt 2 = .ok (.iload_n 2, 1) := by decide +kernel
theorem dX14_typeAt_3 : decode cX14_typeAt 3 = .ok (.invokevirtual 387, 3) := by decide +kernel
theorem dX14_typeAt_6 : decode cX14_typeAt 6 = .ok (.bipush 73, 2) := by decide +kernel
theorem dX14_typeAt_8 : decode cX14_typeAt 8 = .ok (.if_icmp .eq 14, 3) := by decide +kernel
theorem dX14_typeAt_11 : decode cX14_typeAt 11 = .ok (.aload_n 0, 1) := by decide +kernel
theorem dX14_typeAt_12 : decode cX14_typeAt 12 = .ok (.iload_n 1, 1) := by decide +kernel
theorem dX14_typeAt_13 : decode cX14_typeAt 13 = .ok (.iload_n 2, 1) := by decide +kernel
theorem dX14_typeAt_14 : decode cX14_typeAt 14 = .ok (.invokevirtual 387, 3) := by decide +kernel
theorem dX14_typeAt_17 : decode cX14_typeAt 17 = .ok (.bipush 74, 2) := by decide +kernel
theorem dX14_typeAt_19 : decode cX14_typeAt 19 = .ok (.if_icmp .ne 5, 3) := by decide +kernel
theorem dX14_typeAt_22 : decode cX14_typeAt 22 = .ok (.iconst 1, 1) := by decide +kernel
theorem dX14_typeAt_23 : decode cX14_typeAt 23 = .ok (.ireturn, 1) := by decide +kernel
theorem dX14_typeAt_24 : decode cX14_typeAt 24 = .ok (.aload_n 0, 1) := by decide +kernel
theorem dX14_typeAt_25 : decode cX14_typeAt 25 = .ok (.iload_n 1, 1) := by decide +kernel
theorem dX14_typeAt_26 : decode cX14_typeAt 26 = .ok (.iload_n 2, 1) := by decide +kernel
theorem dX14_typeAt_27 : decode cX14_typeAt 27 = .ok (.invokevirtual 387, 3) := by decide +kernel
theorem dX14_typeAt_30 : decode cX14_typeAt 30 = .ok (.bipush 91, 2) := by decide +kernel
theorem dX14_typeAt_32 : decode cX14_typeAt 32 = .ok (.if_icmp .ne 20, 3) := by decide +kernel
theorem dX14_typeAt_35 : decode cX14_typeAt 35 = .ok (.aload_n 0, 1) := by decide +kernel
theorem dX14_typeAt_36 : decode cX14_typeAt 36 = .ok (.iload_n 1, 1) := by decide +kernel
theorem dX14_typeAt_37 : decode cX14_typeAt 37 = .ok (.iload_n 2, 1) := by decide +kernel
theorem dX14_typeAt_38 : decode cX14_typeAt 38 = .ok (.iconst 1, 1) := by decide +kernel
theorem dX14_typeAt_39 : decode cX14_typeAt 39 = .ok (.iadd, 1) := by decide +kernel
theorem dX14_typeAt_40 : decode cX14_typeAt 40 = .ok (.invokevirtual 387, 3) := by decide +kernel
theorem dX14_typeAt_43 : decode cX14_typeAt 43 = .ok (.bipush 73, 2) := by decide +kernel
theorem dX14_typeAt_45 : decode cX14_typeAt 45 = .ok (.if_icmp .ne 7, 3) := by decide +kernel
theorem dX14_typeAt_48 : decode cX14_typeAt 48 = .ok (.iconst 2, 1) := by decide +kernel
theorem dX14_typeAt_49 : decode cX14_typeAt 49 = .ok (.goto 4, 3) := by decide +kernel
theorem dX14_typeAt_52 : decode cX14_typeAt 52 = .ok (.iconst 0, 1) := by decide +kernel
theorem dX14_typeAt_53 : decode cX14_typeAt 53 = .ok (.ireturn, 1) := by decide +kernel
theorem dX14_types_0 : decode cX14_types 0 = .ok (.iconst 1, 1) := by decide +kernel
theorem dX14_types_1 : decode cX14_types 1 = .ok (.istore_n 1, 1) := by decide +kernel
theorem dX14_types_2 : decode cX14_types 2 = .ok (.iload_n 1, 1) := by decide +kernel
theorem dX14_types_3 : decode cX14_types 3 = .ok (.aload_n 0, 1) := by decide +kernel
theorem dX14_types_4 : decode cX14_types 4 = .ok (.getfield 338, 3) := by decide +kernel
theorem dX14_types_7 : decode cX14_types 7 = .ok (.if_icmp .ge 93, 3) := by decide +kernel
theorem dX14_types_10 : decode cX14_types 10 = .ok (.aload_n 0, 1) := by decide +kernel
theorem dX14_types_11 : decode cX14_types 11 = .ok (.getfield 30, 3) := by decide +kernel
theorem dX14_types_14 : decode cX14_types 14 = .ok (.iload_n 1, 1) := by decide +kernel
theorem dX14_types_15 : decode cX14_types 15 = .ok (.iaload, 1) := by decide +kernel
theorem dX14_types_16 : decode cX14_types 16 = .ok (.bipush 9, 2) := by decide +kernel
theorem dX14_types_18 : decode cX14_types 18 = .ok (.if_icmp .ne 30, 3) := by decide +kernel
theorem dX14_types_21 : decode cX14_types 21 = .ok (.aload_n 0, 1) := by decide +kernel
theorem dX14_types_22 : decode cX14_types 22 = .ok (.aload_n 0, 1) := by decide +kernel
theorem dX14_types_23 : decode cX14_types 23 = .ok (.aload_n 0, 1) := by decide +kernel
theorem dX14_types_24 : decode cX14_types 24 = .ok (.getfield 40, 3) := by decide +kernel
theorem dX14_types_27 : decode cX14_types 27 = .ok (.aload_n 0, 1) := by decide +kernel
theorem dX14_types_28 : decode cX14_types 28 = .ok (.getfield 40, 3) := by decide +kernel
theorem dX14_types_31 : decode cX14_types 31 = .ok (.iload_n 1, 1) := by decide +kernel
theorem dX14_types_32 : decode cX14_types 32 = .ok (.iaload, 1) := by decide +kernel
theorem dX14_types_33 : decode cX14_types 33 = .ok (.iaload, 1) := by decide +kernel
theorem dX14_types_34 : decode cX14_types 34 = .ok (.invokevirtual 394, 3) := by decide +kernel
theorem dX14_types_37 : decode cX14_types 37 = .ok (.bipush 10, 2) := by decide +kernel
theorem dX14_types_39 : decode cX14_types 39 = .ok (.aload_n 0, 1) := by decide +kernel
theorem dX14_types_40 : decode cX14_types 40 = .ok (.getfield 34, 3) := by decide +kernel
theorem dX14_types_43 : decode cX14_types 43 = .ok (.iload_n 1, 1) := by decide +kernel
theorem dX14_types_44 : decode cX14_types 44 = .ok (.iaload, 1) := by decide +kernel
theorem dX14_types_45 : decode cX14_types 45 = .ok (.invokevirtual 325, 3) := by decide +kernel
theorem dX14_types_48 : decode cX14_types 48 = .ok (.aload_n 0, 1) := by decide +kernel
theorem dX14_types_49 : decode cX14_types 49 = .ok (.getfield 30, 3) := by decide +kernel
theorem dX14_types_52 : decode cX14_types 52 = .ok (.iload_n 1, 1) := by decide +kernel
theorem dX14_types_53 : decode cX14_types 53 = .ok (.iaload, 1) := by decide +kernel
theorem dX14_types_54 : decode cX14_types 54 = .ok (.bipush 10, 2) := by decide +kernel
theorem dX14_types_56 : decode cX14_types 56 = .ok (.if_icmp .ne 38, 3) := by decide +kernel
theorem dX14_types_59 : decode cX14_types 59 = .ok (.aload_n 0, 1) := by decide +kernel
theorem dX14_types_60 : decode cX14_types 60 = .ok (.aload_n 0, 1) := by decide +kernel
theorem dX14_types_61 : decode cX14_types 61 = .ok (.aload_n 0, 1) := by decide +kernel
theorem dX14_types_62 : decode cX14_types 62 = .ok (.getfield 40, 3) := by decide +kernel
theorem dX14_types_65 : decode cX14_types 65 = .ok (.aload_n 0, 1) := by decide +kernel
theorem dX14_types_66 : decode cX14_types 66 = .ok (.getfield 40, 3) := by decide +kernel
theorem dX14_types_69 : decode cX14_types 69 = .ok (.iload_n 1, 1) := by decide +kernel
theorem dX14_types_70 : decode cX14_types 70 = .ok (.iaload, 1) := by decide +kernel
theorem dX14_types_71 : decode cX14_types 71 = .ok (.iaload, 1) := by decide +kernel
theorem dX14_types_72 : decode cX14_types 72 = .ok (.invokevirtual 398, 3) := by decide +kernel
theorem dX14_types_75 : decode cX14_types 75 = .ok (.ifCond .lt 7, 3) := by decide +kernel
theorem dX14_types_78 : decode cX14_types 78 = .ok (.iconst 1, 1) := by decide +kernel
theorem dX14_types_79 : decode cX14_types 79 = .ok (.goto 4, 3) := by decide +kernel
theorem dX14_types_82 : decode cX14_types 82 = .ok (.iconst 0, 1) := by decide +kernel
theorem dX14_types_83 : decode cX14_types 83 = .ok (.bipush 10, 2) := by decide +kernel
theorem dX14_types_85 : decode cX14_types 85 = .ok (.aload_n 0, 1) := by decide +kernel
theorem dX14_types_86 : decode cX14_types 86 = .ok (.getfield 34, 3) := by decide +kernel
theorem dX14_types_89 : decode cX14_types 89 = .ok (.iload_n 1, 1) := by decide +kernel
theorem dX14_types_90 : decode cX14_types 90 = .ok (.iaload, 1) := by decide +kernel
theorem dX14_types_91 : decode cX14_types 91 = .ok (.invokevirtual 325, 3) := by decide +kernel
theorem dX14_types_94 : decode cX14_types 94 = .ok (.iinc 1 1, 3) := by decide +kernel
theorem dX14_types_97 : decode cX14_types 97 = .ok (.goto (-95), 3) := by decide +kernel
theorem dX14_types_100 : decode cX14_types 100 = .ok (.iconst 0, 1) := by decide +kernel
theorem dX14_types_101 : decode cX14_types 101 = .ok (.istore_n 1, 1) := by decide +kernel
theorem dX14_types_102 : decode cX14_types 102 = .ok (.iload_n 1, 1) := by decide +kernel
theorem dX14_types_103 : decode cX14_types 103 = .ok (.aload_n 0, 1) := by decide +kernel
theorem dX14_types_104 : decode cX14_types 104 = .ok (.getfield 349, 3) := by decide +kernel
theorem dX14_types_107 : decode cX14_types 107 = .ok (.if_icmp .ge 70, 3) := by decide +kernel
theorem dX14_types_110 : decode cX14_types 110 = .ok (.aload_n 0, 1) := by decide +kernel
theorem dX14_types_111 : decode cX14_types 111 = .ok (.getfield 47, 3) := by decide +kernel
theorem dX14_types_114 : decode cX14_types 114 = .ok (.iload_n 1, 1) := by decide +kernel
theorem dX14_types_115 : decode cX14_types 115 = .ok (.iaload, 1) := by decide +kernel
theorem dX14_types_116 : decode cX14_types 116 = .ok (.iconst 4, 1) := by decide +kernel
theorem dX14_types_117 : decode cX14_types 117 = .ok (.iadd, 1) := by decide +kernel
theorem dX14_types_118 : decode cX14_types 118 = .ok (.istore_n 2, 1) := by decide +kernel
theorem dX14_types_119 : decode cX14_types 119 = .ok (.aload_n 0, 1) := by decide +kernel
theorem dX14_types_120 : decode cX14_types 120 = .ok (.aload_n 0, 1) := by decide +kernel
theorem dX14_types_121 : decode cX14_types 121 = .ok (.iload_n 2, 1) := by decide +kernel
theorem dX14_types_122 : decode cX14_types 122 = .ok (.invokevirtual 316, 3) := by decide +kernel
theorem dX14_types_125 : decode cX14_types 125 = .ok (.invokevirtual 398, 3) := by decide +kernel
theorem dX14_types_128 : decode cX14_types 128 = .ok (.istore_n 3, 1) := by decide +kernel
theorem dX14_types_129 : decode cX14_types 129 = .ok (.aload_n 0, 1) := by decide +kernel
theorem dX14_types_130 : decode cX14_types 130 = .ok (.iload_n 1, 1) := by decide +kernel
theorem dX14_types_131 : decode cX14_types 131 = .ok (.aload_n 0, 1) := by decide +kernel
theorem dX14_types_132 : decode cX14_types 132 = .ok (.getfield 358, 3) := by decide +kernel
theorem dX14_types_135 : decode cX14_types 135 = .ok (.if_icmp .ge 15, 3) := by decide +kernel
theorem dX14_types_138 : decode cX14_types 138 = .ok (.aload_n 0, 1) := by decide +kernel
theorem dX14_types_139 : decode cX14_types 139 = .ok (.aload_n 0, 1) := by decide +kernel
theorem dX14_types_140 : decode cX14_types 140 = .ok (.iload_n 2, 1) := by decide +kernel
theorem dX14_types_141 : decode cX14_types 141 = .ok (.invokevirtual 316, 3) := by decide +kernel
theorem dX14_types_144 : decode cX14_types 144 = .ok (.invokevirtual 394, 3) := by decide +kernel
theorem dX14_types_147 : decode cX14_types 147 = .ok (.goto 18, 3) := by decide +kernel
theorem dX14_types_150 : decode cX14_types 150 = .ok (.iload_n 3, 1) := by decide +kernel
theorem dX14_types_151 : decode cX14_types 151 = .ok (.ifCond .lt 13, 3) := by decide +kernel
theorem dX14_types_154 : decode cX14_types 154 = .ok (.iload_n 3, 1) := by decide +kernel
theorem dX14_types_155 : decode cX14_types 155 = .ok (.bipush 8, 2) := by decide +kernel
theorem dX14_types_157 : decode cX14_types 157 = .ok (.if_icmp .gt 7, 3) := by decide +kernel
theorem dX14_types_160 : decode cX14_types 160 = .ok (.iconst 1, 1) := by decide +kernel
theorem dX14_types_161 : decode cX14_types 161 = .ok (.goto 4, 3) := by decide +kernel
theorem dX14_types_164 : decode cX14_types 164 = .ok (.iconst 0, 1) := by decide +kernel
theorem dX14_types_165 : decode cX14_types 165 = .ok (.bipush 10, 2) := by decide +kernel
theorem dX14_types_167 : decode cX14_types 167 = .ok (.iload_n 2, 1) := by decide +kernel
theorem dX14_types_168 : decode cX14_types 168 = .ok (.invokevirtual 325, 3) := by decide +kernel
theorem dX14_types_171 : decode cX14_types 171 = .ok (.iinc 1 1, 3) := by decide +kernel
theorem dX14_types_174 : decode cX14_types 174 = .ok (.goto (-72), 3) := by decide +kernel
theorem dX14_types_177 : decode cX14_types 177 = .ok (.return_, 1) := by decide +kernel
theorem dX14_upper_0 : decode cX14_upper 0 = .ok (.iload_n 0, 1) := by decide +kernel
theorem dX14_upper_1 : decode cX14_upper 1 = .ok (.sipush 148, 3) := by decide +kernel
theorem dX14_upper_4 : decode cX14_upper 4 = .ok (.if_icmp .eq 22, 3) := by decide +kernel
theorem dX14_upper_7 : decode cX14_upper 7 = .ok (.iload_n 0, 1) := by decide +kernel
theorem dX14_upper_8 : decode cX14_upper 8 = .ok (.iconst 2, 1) := by decide +kernel
theorem dX14_upper_9 : decode cX14_upper 9 = .ok (.irem, 1) := by decide +kernel
theorem dX14_upper_10 : decode cX14_upper 10 = .ok (.iconst 1, 1) := by decide +kernel
theorem dX14_upper_11 : decode cX14_upper 11 = .ok (.if_icmp .ne 20, 3) := by decide +kernel
theorem dX14_upper_14 : decode cX14_upper 14 = .ok (.iload_n 0, 1) := by decide +kernel
theorem dX14_upper_15 : decode cX14_upper 15 = .ok (.bipush 120, 2) := by decide +kernel
theorem dX14_upper_17 : decode cX14_upper 17 = .ok (.if_icmp .lt 9, 3) := by decide +kernel
theorem dX14_upper_20 : decode cX14_upper 20 = .ok (.iload_n 0, 1) := by decide +kernel
theorem dX14_upper_21 : decode cX14_upper 21 = .ok (.bipush 125, 2) := by decide +kernel
theorem dX14_upper_23 : decode cX14_upper 23 = .ok (.if_icmp .le 8, 3) := by decide +kernel
theorem dX14_upper_26 : decode cX14_upper 26 = .ok (.bipush 20, 2) := by decide +kernel
theorem dX14_upper_28 : decode cX14_upper 28 = .ok (.goto 5, 3) := by decide +kernel
theorem dX14_upper_31 : decode cX14_upper 31 = .ok (.bipush 18, 2) := by decide +kernel
theorem dX14_upper_33 : decode cX14_upper 33 = .ok (.ireturn, 1) := by decide +kernel
theorem dX14_verify_0 : decode cX14_verify 0 = .ok (.aload_n 0, 1) := by decide +kernel
theorem dX14_verify_1 : decode cX14_verify 1 = .ok (.iconst (-1), 1) := by decide +kernel
theorem dX14_verify_2 : decode cX14_verify 2 = .ok (.putfield 105, 3) := by decide +kernel
theorem dX14_verify_5 : decode cX14_verify 5 = .ok (.aload_n 0, 1) := by decide +kernel
theorem dX14_verify_6 : decode cX14_verify 6 = .ok (.iconst (-1), 1) := by decide +kernel
theorem dX14_verify_7 : decode cX14_verify 7 = .ok (.putfield 108, 3) := by decide +kernel
theorem dX14_verify_10 : decode cX14_verify 10 = .ok (.aload_n 0, 1) := by decide +kernel
theorem dX14_verify_11 : decode cX14_verify 11 = .ok (.iload_n 1, 1) := by decide +kernel
theorem dX14_verify_12 : decode cX14_verify 12 = .ok (.invokevirtual 658, 3) := by decide +kernel
theorem dX14_verify_15 : decode cX14_verify 15 = .ok (.astore_n 2, 1) := by decide +kernel
theorem dX14_verify_16 : decode cX14_verify 16 = .ok (.aload_n 2, 1) := by decide +kernel
theorem dX14_verify_17 : decode cX14_verify 17 = .ok (.ifnonnull 5, 3) := by decide +kernel
theorem dX14_verify_20 : decode cX14_verify 20 = .ok (.iconst (-1), 1) := by decide +kernel
theorem dX14_verify_21 : decode cX14_verify 21 = .ok (.ireturn, 1) := by decide +kernel
theorem dX14_verify_22 : decode cX14_verify 22 = .ok (.aload_n 2, 1) := by decide +kernel
theorem dX14_verify_23 : decode cX14_verify 23 = .ok (.getfield 847, 3) := by decide +kernel
theorem dX14_verify_26 : decode cX14_verify 26 = .ok (.iconst 1, 1) := by decide +kernel
theorem dX14_verify_27 : decode cX14_verify 27 = .ok (.if_icmp .ne 5, 3) := by decide +kernel
theorem dX14_verify_30 : decode cX14_verify 30 = .ok (.iconst 0, 1) := by decide +kernel
theorem dX14_verify_31 : decode cX14_verify 31 = .ok (.ireturn, 1) := by decide +kernel
theorem dX14_verify_32 : decode cX14_verify 32 = .ok (.iconst 0, 1) := by decide +kernel
theorem dX14_verify_33 : decode cX14_verify 33 = .ok (.istore_n 3, 1) := by decide +kernel
theorem dX14_verify_34 : decode cX14_verify 34 = .ok (.iload_n 3, 1) := by decide +kernel
theorem dX14_verify_35 : decode cX14_verify 35 = .ok (.aload_n 2, 1) := by decide +kernel
theorem dX14_verify_36 : decode cX14_verify 36 = .ok (.getfield 597, 3) := by decide +kernel
theorem dX14_verify_39 : decode cX14_verify 39 = .ok (.if_icmp .ge 70, 3) := by decide +kernel
theorem dX14_verify_42 : decode cX14_verify 42 = .ok (.aload_n 0, 1) := by decide +kernel
theorem dX14_verify_43 : decode cX14_verify 43 = .ok (.aload_n 2, 1) := by decide +kernel
theorem dX14_verify_44 : decode cX14_verify 44 = .ok (.iload_n 3, 1) := by decide +kernel
theorem dX14_verify_45 : decode cX14_verify 45 = .ok (.invokevirtual 850, 3) := by decide +kernel
theorem dX14_verify_48 : decode cX14_verify 48 = .ok (.istore 4, 2) := by decide +kernel
theorem dX14_verify_50 : decode cX14_verify 50 = .ok (.iload 4, 2) := by decide +kernel
theorem dX14_verify_52 : decode cX14_verify 52 = .ok (.ifCond .lt 16, 3) := by decide +kernel
theorem dX14_verify_55 : decode cX14_verify 55 = .ok (.aload_n 0, 1) := by decide +kernel
theorem dX14_verify_56 : decode cX14_verify 56 = .ok (.iload_n 3, 1) := by decide +kernel
theorem dX14_verify_57 : decode cX14_verify 57 = .ok (.putfield 105, 3) := by decide +kernel
theorem dX14_verify_60 : decode cX14_verify 60 = .ok (.aload_n 0, 1) := by decide +kernel
theorem dX14_verify_61 : decode cX14_verify 61 = .ok (.iload 4, 2) := by decide +kernel
theorem dX14_verify_63 : decode cX14_verify 63 = .ok (.putfield 108, 3) := by decide +kernel
theorem dX14_verify_66 : decode cX14_verify 66 = .ok (.iconst 1, 1) := by decide +kernel
theorem dX14_verify_67 : decode cX14_verify 67 = .ok (.ireturn, 1) := by decide +kernel
theorem dX14_verify_68 : decode cX14_verify 68 = .ok (.iconst 0, 1) := by decide +kernel
theorem dX14_verify_69 : decode cX14_verify 69 = .ok (.istore 5, 2) := by decide +kernel
theorem dX14_verify_71 : decode cX14_verify 71 = .ok (.iload 5, 2) := by decide +kernel
theorem dX14_verify_73 : decode cX14_verify 73 = .ok (.aload_n 0, 1) := by decide +kernel
theorem dX14_verify_74 : decode cX14_verify 74 = .ok (.getfield 673, 3) := by decide +kernel
theorem dX14_verify_77 : decode cX14_verify 77 = .ok (.if_icmp .ge 26, 3) := by decide +kernel
theorem dX14_verify_80 : decode cX14_verify 80 = .ok (.aload_n 0, 1) := by decide +kernel
theorem dX14_verify_81 : decode cX14_verify 81 = .ok (.iconst 4, 1) := by decide +kernel
theorem dX14_verify_82 : decode cX14_verify 82 = .ok (.aload_n 2, 1) := by decide +kernel
theorem dX14_verify_83 : decode cX14_verify 83 = .ok (.getfield 507, 3) := by decide +kernel
theorem dX14_verify_86 : decode cX14_verify 86 = .ok (.iload_n 3, 1) := by decide +kernel
theorem dX14_verify_87 : decode cX14_verify 87 = .ok (.iaload, 1) := by decide +kernel
theorem dX14_verify_88 : decode cX14_verify 88 = .ok (.iload 5, 2) := by decide +kernel
theorem dX14_verify_90 : decode cX14_verify 90 = .ok (.iadd, 1) := by decide +kernel
theorem dX14_verify_91 : decode cX14_verify 91 = .ok (.imul, 1) := by decide +kernel
theorem dX14_verify_92 : decode cX14_verify 92 = .ok (.iload 5, 2) := by decide +kernel
theorem dX14_verify_94 : decode cX14_verify 94 = .ok (.invokevirtual 854, 3) := by decide +kernel
theorem dX14_verify_97 : decode cX14_verify 97 = .ok (.iinc 5 1, 3) := by decide +kernel
theorem dX14_verify_100 : decode cX14_verify 100 = .ok (.goto (-29), 3) := by decide +kernel
theorem dX14_verify_103 : decode cX14_verify 103 = .ok (.iinc 3 1, 3) := by decide +kernel
theorem dX14_verify_106 : decode cX14_verify 106 = .ok (.goto (-72), 3) := by decide +kernel
theorem dX14_verify_109 : decode cX14_verify 109 = .ok (.aload_n 2, 1) := by decide +kernel
theorem dX14_verify_110 : decode cX14_verify 110 = .ok (.aload_n 0, 1) := by decide +kernel
theorem dX14_verify_111 : decode cX14_verify 111 = .ok (.getfield 112, 3) := by decide +kernel
theorem dX14_verify_114 : decode cX14_verify 114 = .ok (.iconst 4, 1) := by decide +kernel
theorem dX14_verify_115 : decode cX14_verify 115 = .ok (.aload_n 2, 1) := by decide +kernel
theorem dX14_verify_116 : decode cX14_verify 116 = .ok (.getfield 638, 3) := by decide +kernel
theorem dX14_verify_119 : decode cX14_verify 119 = .ok (.arraylength, 1) := by decide +kernel
theorem dX14_verify_120 : decode cX14_verify 120 = .ok (.iconst 3, 1) := by decide +kernel
theorem dX14_verify_121 : decode cX14_verify 121 = .ok (.idiv, 1) := by decide +kernel
theorem dX14_verify_122 : decode cX14_verify 122 = .ok (.imul, 1) := by decide +kernel
theorem dX14_verify_123 : decode cX14_verify 123 = .ok (.invokestatic 634, 3) := by decide +kernel
theorem dX14_verify_126 : decode cX14_verify 126 = .ok (.putfield 857, 3) := by decide +kernel
theorem dX14_verify_129 : decode cX14_verify 129 = .ok (.aload_n 2, 1) := by decide +kernel
theorem dX14_verify_130 : decode cX14_verify 130 = .ok (.iconst 1, 1) := by decide +kernel
theorem dX14_verify_131 : decode cX14_verify 131 = .ok (.putfield 847, 3) := by decide +kernel
theorem dX14_verify_134 : decode cX14_verify 134 = .ok (.iconst 0, 1) := by decide +kernel
theorem dX14_verify_135 : decode cX14_verify 135 = .ok (.ireturn, 1) := by decide +kernel
theorem dX14_watch_0 : decode cX14_watch 0 = .ok (.iconst 4, 1) := by decide +kernel
theorem dX14_watch_1 : decode cX14_watch 1 = .ok (.aload_n 0, 1) := by decide +kernel
theorem dX14_watch_2 : decode cX14_watch 2 = .ok (.getfield 670, 3) := by decide +kernel
theorem dX14_watch_5 : decode cX14_watch 5 = .ok (.iload_n 1, 1) := by decide +kernel
theorem dX14_watch_6 : decode cX14_watch 6 = .ok (.iadd, 1) := by decide +kernel
theorem dX14_watch_7 : decode cX14_watch 7 = .ok (.imul, 1) := by decide +kernel
theorem dX14_watch_8 : decode cX14_watch 8 = .ok (.istore_n 2, 1) := by decide +kernel
theorem dX14_watch_9 : decode cX14_watch 9 = .ok (.aload_n 0, 1) := by decide +kernel
theorem dX14_watch_10 : decode cX14_watch 10 = .ok (.getfield 961, 3) := by decide +kernel
theorem dX14_watch_13 : decode cX14_watch 13 = .ok (.getfield 857, 3) := by decide +kernel
theorem dX14_watch_16 : decode cX14_watch 16 = .ok (.iload_n 2, 1) := by decide +kernel
theorem dX14_watch_17 : decode cX14_watch 17 = .ok (.iaload, 1) := by decide +kernel
theorem dX14_watch_18 : decode cX14_watch 18 = .ok (.aload_n 0, 1) := by decide +kernel
theorem dX14_watch_19 : decode cX14_watch 19 = .ok (.getfield 167, 3) := by decide +kernel
theorem dX14_watch_22 : decode cX14_watch 22 = .ok (.aload_n 0, 1) := by decide +kernel
theorem dX14_watch_23 : decode cX14_watch 23 = .ok (.getfield 974, 3) := by decide +kernel
theorem dX14_watch_26 : decode cX14_watch 26 = .ok (.iconst 1, 1) := by decide +kernel
theorem dX14_watch_27 : decode cX14_watch 27 = .ok (.isub, 1) := by decide +kernel
theorem dX14_watch_28 : decode cX14_watch 28 = .ok (.iaload, 1) := by decide +kernel
theorem dX14_watch_29 : decode cX14_watch 29 = .ok (.if_icmp .ne 7, 3) := by decide +kernel
theorem dX14_watch_32 : decode cX14_watch 32 = .ok (.iconst 1, 1) := by decide +kernel
theorem dX14_watch_33 : decode cX14_watch 33 = .ok (.goto 4, 3) := by decide +kernel
theorem dX14_watch_36 : decode cX14_watch 36 = .ok (.iconst 0, 1) := by decide +kernel
theorem dX14_watch_37 : decode cX14_watch 37 = .ok (.istore_n 3, 1) := by decide +kernel
theorem dX14_watch_38 : decode cX14_watch 38 = .ok (.iconst 0, 1) := by decide +kernel
theorem dX14_watch_39 : decode cX14_watch 39 = .ok (.istore 4, 2) := by decide +kernel
theorem dX14_watch_41 : decode cX14_watch 41 = .ok (.iload 4, 2) := by decide +kernel
theorem dX14_watch_43 : decode cX14_watch 43 = .ok (.bipush 24, 2) := by decide +kernel
theorem dX14_watch_45 : decode cX14_watch 45 = .ok (.if_icmp .ge 56, 3) := by decide +kernel
theorem dX14_watch_48 : decode cX14_watch 48 = .ok (.iload_n 3, 1) := by decide +kernel
theorem dX14_watch_49 : decode cX14_watch 49 = .ok (.ifCond .eq 52, 3) := by decide +kernel
theorem dX14_watch_52 : decode cX14_watch 52 = .ok (.aload_n 0, 1) := by decide +kernel
theorem dX14_watch_53 : decode cX14_watch 53 = .ok (.getfield 961, 3) := by decide +kernel
theorem dX14_watch_56 : decode cX14_watch 56 = .ok (.getfield 857, 3) := by decide +kernel
theorem dX14_watch_59 : decode cX14_watch 59 = .ok (.iload_n 2, 1) := by decide +kernel
theorem dX14_watch_60 : decode cX14_watch 60 = .ok (.iconst 1, 1) := by decide +kernel
theorem dX14_watch_61 : decode cX14_watch 61 = .ok (.iadd, 1) := by decide +kernel
theorem dX14_watch_62 : decode cX14_watch 62 = .ok (.iload 4, 2) := by decide +kernel
theorem dX14_watch_64 : decode cX14_watch 64 = .ok (.bipush 8, 2) := by decide +kernel
theorem dX14_watch_66 : decode cX14_watch 66 = .ok (.idiv, 1) := by decide +kernel
theorem dX14_watch_67 : decode cX14_watch 67 = .ok (.iadd, 1) := by decide +kernel
theorem dX14_watch_68 : decode cX14_watch 68 = .ok (.iaload, 1) := by decide +kernel
theorem dX14_watch_69 : decode cX14_watch 69 = .ok (.iconst 4, 1) := by decide +kernel
theorem dX14_watch_70 : decode cX14_watch 70 = .ok (.iload 4, 2) := by decide +kernel
theorem dX14_watch_72 : decode cX14_watch 72 = .ok (.bipush 8, 2) := by decide +kernel
theorem dX14_watch_74 : decode cX14_watch 74 = .ok (.irem, 1) := by decide +kernel
theorem dX14_watch_75 : decode cX14_watch 75 = .ok (.imul, 1) := by decide +kernel
theorem dX14_watch_76 : decode cX14_watch 76 = .ok (.ishr, 1) := by decide +kernel
theorem dX14_watch_77 : decode cX14_watch 77 = .ok (.bipush 15, 2) := by decide +kernel
theorem dX14_watch_79 : decode cX14_watch 79 = .ok (.iand, 1) := by decide +kernel
theorem dX14_watch_80 : decode cX14_watch 80 = .ok (.aload_n 0, 1) := by decide +kernel
theorem dX14_watch_81 : decode cX14_watch 81 = .ok (.getfield 176, 3) := by decide +kernel
theorem dX14_watch_84 : decode cX14_watch 84 = .ok (.aload_n 0, 1) := by decide +kernel
theorem dX14_watch_85 : decode cX14_watch 85 = .ok (.iload 4, 2) := by decide +kernel
theorem dX14_watch_87 : decode cX14_watch 87 = .ok (.invokevirtual 1034, 3) := by decide +kernel
theorem dX14_watch_90 : decode cX14_watch 90 = .ok (.baload, 1) := by decide +kernel
theorem dX14_watch_91 : decode cX14_watch 91 = .ok (.invokestatic 1037, 3) := by decide +kernel
theorem dX14_watch_94 : decode cX14_watch 94 = .ok (.istore_n 3, 1) := by decide +kernel
theorem dX14_watch_95 : decode cX14_watch 95 = .ok (.iinc 4 1, 3) := by decide +kernel
theorem dX14_watch_98 : decode cX14_watch 98 = .ok (.goto (-57), 3) := by decide +kernel
theorem dX14_watch_101 : decode cX14_watch 101 = .ok (.iload_n 3, 1) := by decide +kernel
theorem dX14_watch_102 : decode cX14_watch 102 = .ok (.ifCond .eq 27, 3) := by decide +kernel
theorem dX14_watch_105 : decode cX14_watch 105 = .ok (.aload_n 0, 1) := by decide +kernel
theorem dX14_watch_106 : decode cX14_watch 106 = .ok (.iload_n 1, 1) := by decide +kernel
theorem dX14_watch_107 : decode cX14_watch 107 = .ok (.invokevirtual 685, 3) := by decide +kernel
theorem dX14_watch_110 : decode cX14_watch 110 = .ok (.invokestatic 725, 3) := by decide +kernel
theorem dX14_watch_113 : decode cX14_watch 113 = .ok (.ifCond .le 16, 3) := by decide +kernel
theorem dX14_watch_116 : decode cX14_watch 116 = .ok (.aload_n 0, 1) := by decide +kernel
theorem dX14_watch_117 : decode cX14_watch 117 = .ok (.aload_n 0, 1) := by decide +kernel
theorem dX14_watch_118 : decode cX14_watch 118 = .ok (.iload_n 1, 1) := by decide +kernel
theorem dX14_watch_119 : decode cX14_watch 119 = .ok (.invokevirtual 685, 3) := by decide +kernel
theorem dX14_watch_122 : decode cX14_watch 122 = .ok (.invokevirtual 1040, 3) := by decide +kernel
theorem dX14_watch_125 : decode cX14_watch 125 = .ok (.istore_n 3, 1) := by decide +kernel
theorem dX14_watch_126 : decode cX14_watch 126 = .ok (.goto 118, 3) := by decide +kernel
theorem dX14_watch_129 : decode cX14_watch 129 = .ok (.aload_n 0, 1) := by decide +kernel
theorem dX14_watch_130 : decode cX14_watch 130 = .ok (.iload_n 1, 1) := by decide +kernel
theorem dX14_watch_131 : decode cX14_watch 131 = .ok (.invokevirtual 728, 3) := by decide +kernel
theorem dX14_watch_134 : decode cX14_watch 134 = .ok (.astore 4, 2) := by decide +kernel
theorem dX14_watch_136 : decode cX14_watch 136 = .ok (.iconst 1, 1) := by decide +kernel
theorem dX14_watch_137 : decode cX14_watch 137 = .ok (.istore 5, 2) := by decide +kernel
theorem dX14_watch_139 : decode cX14_watch 139 = .ok (.aload 4, 2) := by decide +kernel
theorem dX14_watch_141 : decode cX14_watch 141 = .ok (.invokevirtual 404, 3) := by decide +kernel
theorem dX14_watch_144 : decode cX14_watch 144 = .ok (.iconst 1, 1) := by decide +kernel
theorem dX14_watch_145 : decode cX14_watch 145 = .ok (.isub, 1) := by decide +kernel
theorem dX14_watch_146 : decode cX14_watch 146 = .ok (.istore 6, 2) := by decide +kernel
theorem dX14_watch_148 : decode cX14_watch 148 = .ok (.iload 6, 2) := by decide +kernel
theorem dX14_watch_150 : decode cX14_watch 150 = .ok (.ifCond .lt 94, 3) := by decide +kernel
theorem dX14_watch_153 : decode cX14_watch 153 = .ok (.iload_n 3, 1) := by decide +kernel
theorem dX14_watch_154 : decode cX14_watch 154 = .ok (.ifCond .eq 90, 3) := by decide +kernel
theorem dX14_watch_157 : decode cX14_watch 157 = .ok (.aload 4, 2) := by decide +kernel
theorem dX14_watch_159 : decode cX14_watch 159 = .ok (.iload 6, 2) := by decide +kernel
theorem dX14_watch_161 : decode cX14_watch 161 = .ok (.invokevirtual 408, 3) := by decide +kernel
theorem dX14_watch_164 : decode cX14_watch 164 = .ok (.bipush 74, 2) := by decide +kernel
theorem dX14_watch_166 : decode cX14_watch 166 = .ok (.if_icmp .ne 33, 3) := by decide +kernel
theorem dX14_watch_169 : decode cX14_watch 169 = .ok (.aload_n 0, 1) := by decide +kernel
theorem dX14_watch_170 : decode cX14_watch 170 = .ok (.iload 5, 2) := by decide +kernel
theorem dX14_watch_172 : decode cX14_watch 172 = .ok (.invokevirtual 1043, 3) := by decide +kernel
theorem dX14_watch_175 : decode cX14_watch 175 = .ok (.iconst 3, 1) := by decide +kernel
theorem dX14_watch_176 : decode cX14_watch 176 = .ok (.if_icmp .ne 19, 3) := by decide +kernel
theorem dX14_watch_179 : decode cX14_watch 179 = .ok (.aload_n 0, 1) := by decide +kernel
theorem dX14_watch_180 : decode cX14_watch 180 = .ok (.iload 5, 2) := by decide +kernel
theorem dX14_watch_182 : decode cX14_watch 182 = .ok (.iconst 1, 1) := by decide +kernel
theorem dX14_watch_183 : decode cX14_watch 183 = .ok (.iadd, 1) := by decide +kernel
theorem dX14_watch_184 : decode cX14_watch 184 = .ok (.invokevirtual 1043, 3) := by decide +kernel
theorem dX14_watch_187 : decode cX14_watch 187 = .ok (.iconst 2, 1) := by decide +kernel
theorem dX14_watch_188 : decode cX14_watch 188 = .ok (.if_icmp .ne 7, 3) := by decide +kernel
theorem dX14_watch_191 : decode cX14_watch 191 = .ok (.iconst 1, 1) := by decide +kernel
theorem dX14_watch_192 : decode cX14_watch 192 = .ok (.goto 23, 3) := by decide +kernel
theorem dX14_watch_195 : decode cX14_watch 195 = .ok (.iconst 0, 1) := by decide +kernel
theorem dX14_watch_196 : decode cX14_watch 196 = .ok (.goto 19, 3) := by decide +kernel
theorem dX14_watch_199 : decode cX14_watch 199 = .ok (.aload 4, 2) := by decide +kernel
theorem dX14_watch_201 : decode cX14_watch 201 = .ok (.iload 6, 2) := by decide +kernel
theorem dX14_watch_203 : decode cX14_watch 203 = .ok (.invokevirtual 408, 3) := by decide +kernel
theorem dX14_watch_206 : decode cX14_watch 206 = .ok (.aload_n 0, 1) := by decide +kernel
theorem dX14_watch_207 : decode cX14_watch 207 = .ok (.iload 5, 2) := by decide +kernel
theorem dX14_watch_209 : decode cX14_watch 209 = .ok (.invokevirtual 1043, 3) := by decide +kernel
theorem dX14_watch_212 : decode cX14_watch 212 = .ok (.invokestatic 1046, 3) := by decide +kernel
theorem dX14_watch_215 : decode cX14_watch 215 = .ok (.istore_n 3, 1) := by decide +kernel
theorem dX14_watch_216 : decode cX14_watch 216 = .ok (.iload 5, 2) := by decide +kernel
theorem dX14_watch_218 : decode cX14_watch 218 = .ok (.aload 4, 2) := by decide +kernel
theorem dX14_watch_220 : decode cX14_watch 220 = .ok (.iload 6, 2) := by decide +kernel
theorem dX14_watch_222 : decode cX14_watch 222 = .ok (.invokevirtual 408, 3) := by decide +kernel
theorem dX14_watch_225 : decode cX14_watch 225 = .ok (.bipush 74, 2) := by decide +kernel
theorem dX14_watch_227 : decode cX14_watch 227 = .ok (.if_icmp .ne 7, 3) := by decide +kernel
theorem dX14_watch_230 : decode cX14_watch 230 = .ok (.iconst 2, 1) := by decide +kernel
theorem dX14_watch_231 : decode cX14_watch 231 = .ok (.goto 4, 3) := by decide +kernel
theorem dX14_watch_234 : decode cX14_watch 234 = .ok (.iconst 1, 1) := by decide +kernel
theorem dX14_watch_235 : decode cX14_watch 235 = .ok (.iadd, 1) := by decide +kernel
theorem dX14_watch_236 : decode cX14_watch 236 = .ok (.istore 5, 2) := by decide +kernel
theorem dX14_watch_238 : decode cX14_watch 238 = .ok (.iinc 6 (-1), 3) := by decide +kernel
theorem dX14_watch_241 : decode cX14_watch 241 = .ok (.goto (-93), 3) := by decide +kernel
theorem dX14_watch_244 : decode cX14_watch 244 = .ok (.iload_n 3, 1) := by decide +kernel
theorem dX14_watch_245 : decode cX14_watch 245 = .ok (.ifCond .ne 13, 3) := by decide +kernel
theorem dX14_watch_248 : decode cX14_watch 248 = .ok (.aload_n 0, 1) := by decide +kernel
theorem dX14_watch_249 : decode cX14_watch 249 = .ok (.dup, 1) := by decide +kernel
theorem dX14_watch_250 : decode cX14_watch 250 = .ok (.getfield 1050, 3) := by decide +kernel
theorem dX14_watch_253 : decode cX14_watch 253 = .ok (.iconst 1, 1) := by decide +kernel
theorem dX14_watch_254 : decode cX14_watch 254 = .ok (.iadd, 1) := by decide +kernel
theorem dX14_watch_255 : decode cX14_watch 255 = .ok (.putfield 1050, 3) := by decide +kernel
theorem dX14_watch_258 : decode cX14_watch 258 = .ok (.return_, 1) := by decide +kernel
theorem dX14_way_0 : decode cX14_way 0 = .ok (.aload_n 0, 1) := by decide +kernel
theorem dX14_way_1 : decode cX14_way 1 = .ok (.iload_n 1, 1) := by decide +kernel
theorem dX14_way_2 : decode cX14_way 2 = .ok (.invokevirtual 685, 3) := by decide +kernel
theorem dX14_way_5 : decode cX14_way 5 = .ok (.invokestatic 688, 3) := by decide +kernel
theorem dX14_way_8 : decode cX14_way 8 = .ok (.ifCond .eq 11, 3) := by decide +kernel
theorem dX14_way_11 : decode cX14_way 11 = .ok (.aload_n 0, 1) := by decide +kernel
theorem dX14_way_12 : decode cX14_way 12 = .ok (.iload_n 1, 1) := by decide +kernel
theorem dX14_way_13 : decode cX14_way 13 = .ok (.invokevirtual 697, 3) := by decide +kernel
theorem dX14_way_16 : decode cX14_way 16 = .ok (.goto 17, 3) := by decide +kernel
theorem dX14_way_19 : decode cX14_way 19 = .ok (.aload_n 0, 1) := by decide +kernel
theorem dX14_way_20 : decode cX14_way 20 = .ok (.getfield 668, 3) := by decide +kernel
theorem dX14_way_23 : decode cX14_way 23 = .ok (.aload_n 0, 1) := by decide +kernel
theorem dX14_way_24 : decode cX14_way 24 = .ok (.iload_n 1, 1) := by decide +kernel
theorem dX14_way_25 : decode cX14_way 25 = .ok (.invokevirtual 697, 3) := by decide +kernel
theorem dX14_way_28 : decode cX14_way 28 = .ok (.iconst 2, 1) := by decide +kernel
theorem dX14_way_29 : decode cX14_way 29 = .ok (.iload_n 2, 1) := by decide +kernel
theorem dX14_way_30 : decode cX14_way 30 = .ok (.imul, 1) := by decide +kernel
theorem dX14_way_31 : decode cX14_way 31 = .ok (.iadd, 1) := by decide +kernel
theorem dX14_way_32 : decode cX14_way 32 = .ok (.iaload, 1) := by decide +kernel
theorem dX14_way_33 : decode cX14_way 33 = .ok (.ireturn, 1) := by decide +kernel
theorem dX14_wayOf_0 : decode cX14_wayOf 0 = .ok (.aload_n 0, 1) := by decide +kernel
theorem dX14_wayOf_1 : decode cX14_wayOf 1 = .ok (.aload_n 0, 1) := by decide +kernel
theorem dX14_wayOf_2 : decode cX14_wayOf 2 = .ok (.getfield 240, 3) := by decide +kernel
theorem dX14_wayOf_5 : decode cX14_wayOf 5 = .ok (.iload_n 1, 1) := by decide +kernel
theorem dX14_wayOf_6 : decode cX14_wayOf 6 = .ok (.iaload, 1) := by decide +kernel
theorem dX14_wayOf_7 : decode cX14_wayOf 7 = .ok (.invokestatic 688, 3) := by decide +kernel
theorem dX14_wayOf_10 : decode cX14_wayOf 10 = .ok (.ifCond .eq 12, 3) := by decide +kernel
theorem dX14_wayOf_13 : decode cX14_wayOf 13 = .ok (.aload_n 0, 1) := by decide +kernel
theorem dX14_wayOf_14 : decode cX14_wayOf 14 = .ok (.getfield 243, 3) := by decide +kernel
theorem dX14_wayOf_17 : decode cX14_wayOf 17 = .ok (.iload_n 1, 1) := by decide +kernel
theorem dX14_wayOf_18 : decode cX14_wayOf 18 = .ok (.iaload, 1) := by decide +kernel
theorem dX14_wayOf_19 : decode cX14_wayOf 19 = .ok (.goto 18, 3) := by decide +kernel
theorem dX14_wayOf_22 : decode cX14_wayOf 22 = .ok (.aload_n 0, 1) := by decide +kernel
theorem dX14_wayOf_23 : decode cX14_wayOf 23 = .ok (.getfield 231, 3) := by decide +kernel
theorem dX14_wayOf_26 : decode cX14_wayOf 26 = .ok (.aload_n 0, 1) := by decide +kernel
theorem dX14_wayOf_27 : decode cX14_wayOf 27 = .ok (.getfield 243, 3) := by decide +kernel
theorem dX14_wayOf_30 : decode cX14_wayOf 30 = .ok (.iload_n 1, 1) := by decide +kernel
theorem dX14_wayOf_31 : decode cX14_wayOf 31 = .ok (.iaload, 1) := by decide +kernel
theorem dX14_wayOf_32 : decode cX14_wayOf 32 = .ok (.iconst 2, 1) := by decide +kernel
theorem dX14_wayOf_33 : decode cX14_wayOf 33 = .ok (.iload_n 2, 1) := by decide +kernel
theorem dX14_wayOf_34 : decode cX14_wayOf 34 = .ok (.imul, 1) := by decide +kernel
theorem dX14_wayOf_35 : decode cX14_wayOf 35 = .ok (.iadd, 1) := by decide +kernel
theorem dX14_wayOf_36 : decode cX14_wayOf 36 = .ok (.iaload, 1) := by decide +kernel
theorem dX14_wayOf_37 : decode cX14_wayOf 37 = .ok (.invokevirtual 1133, 3) := by decide +kernel
theorem dX14_wayOf_40 : decode cX14_wayOf 40 = .ok (.ireturn, 1) := by decide +kernel
theorem dX14_ways_0 : decode cX14_ways 0 = .ok (.aload_n 0, 1) := by decide +kernel
theorem dX14_ways_1 : decode cX14_ways 1 = .ok (.iload_n 1, 1) := by decide +kernel
theorem dX14_ways_2 : decode cX14_ways 2 = .ok (.invokevirtual 685, 3) := by decide +kernel
theorem dX14_ways_5 : decode cX14_ways 5 = .ok (.invokestatic 688, 3) := by decide +kernel
theorem dX14_ways_8 : decode cX14_ways 8 = .ok (.ifCond .eq 7, 3) := by decide +kernel
theorem dX14_ways_11 : decode cX14_ways 11 = .ok (.iconst 1, 1) := by decide +kernel
theorem dX14_ways_12 : decode cX14_ways 12 = .ok (.goto 25, 3) := by decide +kernel
theorem dX14_ways_15 : decode cX14_ways 15 = .ok (.aload_n 0, 1) := by decide +kernel
theorem dX14_ways_16 : decode cX14_ways 16 = .ok (.iload_n 1, 1) := by decide +kernel
theorem dX14_ways_17 : decode cX14_ways 17 = .ok (.invokevirtual 685, 3) := by decide +kernel
theorem dX14_ways_20 : decode cX14_ways 20 = .ok (.invokestatic 691, 3) := by decide +kernel
theorem dX14_ways_23 : decode cX14_ways 23 = .ok (.ifCond .eq 13, 3) := by decide +kernel
theorem dX14_ways_26 : decode cX14_ways 26 = .ok (.aload_n 0, 1) := by decide +kernel
theorem dX14_ways_27 : decode cX14_ways 27 = .ok (.iload_n 1, 1) := by decide +kernel
theorem dX14_ways_28 : decode cX14_ways 28 = .ok (.invokevirtual 694, 3) := by decide +kernel
theorem dX14_ways_31 : decode cX14_ways 31 = .ok (.iconst 1, 1) := by decide +kernel
theorem dX14_ways_32 : decode cX14_ways 32 = .ok (.iadd, 1) := by decide +kernel
theorem dX14_ways_33 : decode cX14_ways 33 = .ok (.goto 4, 3) := by decide +kernel
theorem dX14_ways_36 : decode cX14_ways 36 = .ok (.iconst 0, 1) := by decide +kernel
theorem dX14_ways_37 : decode cX14_ways 37 = .ok (.ireturn, 1) := by decide +kernel
theorem dX14_waysOf_0 : decode cX14_waysOf 0 = .ok (.aload_n 0, 1) := by decide +kernel
theorem dX14_waysOf_1 : decode cX14_waysOf 1 = .ok (.getfield 240, 3) := by decide +kernel
theorem dX14_waysOf_4 : decode cX14_waysOf 4 = .ok (.iload_n 1, 1) := by decide +kernel
theorem dX14_waysOf_5 : decode cX14_waysOf 5 = .ok (.iaload, 1) := by decide +kernel
theorem dX14_waysOf_6 : decode cX14_waysOf 6 = .ok (.invokestatic 688, 3) := by decide +kernel
theorem dX14_waysOf_9 : decode cX14_waysOf 9 = .ok (.ifCond .eq 7, 3) := by decide +kernel
theorem dX14_waysOf_12 : decode cX14_waysOf 12 = .ok (.iconst 1, 1) := by decide +kernel
theorem dX14_waysOf_13 : decode cX14_waysOf 13 = .ok (.goto 27, 3) := by decide +kernel
theorem dX14_waysOf_16 : decode cX14_waysOf 16 = .ok (.aload_n 0, 1) := by decide +kernel
theorem dX14_waysOf_17 : decode cX14_waysOf 17 = .ok (.getfield 240, 3) := by decide +kernel
theorem dX14_waysOf_20 : decode cX14_waysOf 20 = .ok (.iload_n 1, 1) := by decide +kernel
theorem dX14_waysOf_21 : decode cX14_waysOf 21 = .ok (.iaload, 1) := by decide +kernel
theorem dX14_waysOf_22 : decode cX14_waysOf 22 = .ok (.invokestatic 691, 3) := by decide +kernel
theorem dX14_waysOf_25 : decode cX14_waysOf 25 = .ok (.ifCond .eq 14, 3) := by decide +kernel
theorem dX14_waysOf_28 : decode cX14_waysOf 28 = .ok (.aload_n 0, 1) := by decide +kernel
theorem dX14_waysOf_29 : decode cX14_waysOf 29 = .ok (.getfield 246, 3) := by decide +kernel
theorem dX14_waysOf_32 : decode cX14_waysOf 32 = .ok (.iload_n 1, 1) := by decide +kernel
theorem dX14_waysOf_33 : decode cX14_waysOf 33 = .ok (.iaload, 1) := by decide +kernel
theorem dX14_waysOf_34 : decode cX14_waysOf 34 = .ok (.iconst 1, 1) := by decide +kernel
theorem dX14_waysOf_35 : decode cX14_waysOf 35 = .ok (.iadd, 1) := by decide +kernel
theorem dX14_waysOf_36 : decode cX14_waysOf 36 = .ok (.goto 4, 3) := by decide +kernel
theorem dX14_waysOf_39 : decode cX14_waysOf 39 = .ok (.iconst 0, 1) := by decide +kernel
theorem dX14_waysOf_40 : decode cX14_waysOf 40 = .ok (.ireturn, 1) := by decide +kernel
theorem dX14_wholes_0 : decode cX14_wholes 0 = .ok (.aload_n 0, 1) := by decide +kernel
theorem dX14_wholes_1 : decode cX14_wholes 1 = .ok (.iload_n 1, 1) := by decide +kernel
theorem dX14_wholes_2 : decode cX14_wholes 2 = .ok (.invokevirtual 450, 3) := by decide +kernel
theorem dX14_wholes_5 : decode cX14_wholes 5 = .ok (.iconst 0, 1) := by decide +kernel
theorem dX14_wholes_6 : decode cX14_wholes 6 = .ok (.istore_n 2, 1) := by decide +kernel
theorem dX14_wholes_7 : decode cX14_wholes 7 = .ok (.iload_n 2, 1) := by decide +kernel
theorem dX14_wholes_8 : decode cX14_wholes 8 = .ok (.aload_n 0, 1) := by decide +kernel
theorem dX14_wholes_9 : decode cX14_wholes 9 = .ok (.getfield 436, 3) := by decide +kernel
theorem dX14_wholes_12 : decode cX14_wholes 12 = .ok (.if_icmp .gt 16, 3) := by decide +kernel
theorem dX14_wholes_15 : decode cX14_wholes 15 = .ok (.aload_n 0, 1) := by decide +kernel
theorem dX14_wholes_16 : decode cX14_wholes 16 = .ok (.getfield 74, 3) := by decide +kernel
theorem dX14_wholes_19 : decode cX14_wholes 19 = .ok (.iload_n 2, 1) := by decide +kernel
theorem dX14_wholes_20 : decode cX14_wholes 20 = .ok (.iconst (-1), 1) := by decide +kernel
theorem dX14_wholes_21 : decode cX14_wholes 21 = .ok (.iastore, 1) := by decide +kernel
theorem dX14_wholes_22 : decode cX14_wholes 22 = .ok (.iinc 2 1, 3) := by decide +kernel
theorem dX14_wholes_25 : decode cX14_wholes 25 = .ok (.goto (-18), 3) := by decide +kernel
theorem dX14_wholes_28 : decode cX14_wholes 28 = .ok (.aload_n 0, 1) := by decide +kernel
theorem dX14_wholes_29 : decode cX14_wholes 29 = .ok (.iconst 0, 1) := by decide +kernel
theorem dX14_wholes_30 : decode cX14_wholes 30 = .ok (.putfield 453, 3) := by decide +kernel
theorem dX14_wholes_33 : decode cX14_wholes 33 = .ok (.iconst 0, 1) := by decide +kernel
theorem dX14_wholes_34 : decode cX14_wholes 34 = .ok (.istore_n 2, 1) := by decide +kernel
theorem dX14_wholes_35 : decode cX14_wholes 35 = .ok (.iload_n 2, 1) := by decide +kernel
theorem dX14_wholes_36 : decode cX14_wholes 36 = .ok (.aload_n 0, 1) := by decide +kernel
theorem dX14_wholes_37 : decode cX14_wholes 37 = .ok (.getfield 436, 3) := by decide +kernel
theorem dX14_wholes_40 : decode cX14_wholes 40 = .ok (.if_icmp .ge 57, 3) := by decide +kernel
theorem dX14_wholes_43 : decode cX14_wholes 43 = .ok (.aload_n 0, 1) := by decide +kernel
theorem dX14_wholes_44 : decode cX14_wholes 44 = .ok (.iload_n 2, 1) := by decide +kernel
theorem dX14_wholes_45 : decode cX14_wholes 45 = .ok (.invokevirtual 456, 3) := by decide +kernel
theorem dX14_wholes_48 : decode cX14_wholes 48 = .ok (.istore_n 3, 1) := by decide +kernel
theorem dX14_wholes_49 : decode cX14_wholes 49 = .ok (.aload_n 0, 1) := by decide +kernel
theorem dX14_wholes_50 : decode cX14_wholes 50 = .ok (.iload_n 3, 1) := by decide +kernel
theorem dX14_wholes_51 : decode cX14_wholes 51 = .ok (.ifCond .le 7, 3) := by decide +kernel
theorem dX14_wholes_54 : decode cX14_wholes 54 = .ok (.iconst 1, 1) := by decide +kernel
theorem dX14_wholes_55 : decode cX14_wholes 55 = .ok (.goto 4, 3) := by decide +kernel
theorem dX14_wholes_58 : decode cX14_wholes 58 = .ok (.iconst 0, 1) := by decide +kernel
theorem dX14_wholes_59 : decode cX14_wholes 59 = .ok (.bipush 15, 2) := by decide +kernel
theorem dX14_wholes_61 : decode cX14_wholes 61 = .ok (.aload_n 0, 1) := by decide +kernel
theorem dX14_wholes_62 : decode cX14_wholes 62 = .ok (.getfield 427, 3) := by decide +kernel
theorem dX14_wholes_65 : decode cX14_wholes 65 = .ok (.iload_n 2, 1) := by decide +kernel
theorem dX14_wholes_66 : decode cX14_wholes 66 = .ok (.iadd, 1) := by decide +kernel
theorem dX14_wholes_67 : decode cX14_wholes 67 = .ok (.invokevirtual 325, 3) := by decide +kernel
theorem dX14_wholes_70 : decode cX14_wholes 70 = .ok (.aload_n 0, 1) := by decide +kernel
theorem dX14_wholes_71 : decode cX14_wholes 71 = .ok (.getfield 74, 3) := by decide +kernel
theorem dX14_wholes_74 : decode cX14_wholes 74 = .ok (.iload_n 2, 1) := by decide +kernel
theorem dX14_wholes_75 : decode cX14_wholes 75 = .ok (.aload_n 0, 1) := by decide +kernel
theorem dX14_wholes_76 : decode cX14_wholes 76 = .ok (.getfield 453, 3) := by decide +kernel
theorem dX14_wholes_79 : decode cX14_wholes 79 = .ok (.iastore, 1) := by decide +kernel
theorem dX14_wholes_80 : decode cX14_wholes 80 = .ok (.aload_n 0, 1) := by decide +kernel
theorem dX14_wholes_81 : decode cX14_wholes 81 = .ok (.dup, 1) := by decide +kernel
theorem dX14_wholes_82 : decode cX14_wholes 82 = .ok (.getfield 453, 3) := by decide +kernel
theorem dX14_wholes_85 : decode cX14_wholes 85 = .ok (.iconst 1, 1) := by decide +kernel
theorem dX14_wholes_86 : decode cX14_wholes 86 = .ok (.iadd, 1) := by decide +kernel
theorem dX14_wholes_87 : decode cX14_wholes 87 = .ok (.putfield 453, 3) := by decide +kernel
theorem dX14_wholes_90 : decode cX14_wholes 90 = .ok (.iload_n 2, 1) := by decide +kernel
theorem dX14_wholes_91 : decode cX14_wholes 91 = .ok (.iload_n 3, 1) := by decide +kernel
theorem dX14_wholes_92 : decode cX14_wholes 92 = .ok (.iadd, 1) := by decide +kernel
theorem dX14_wholes_93 : decode cX14_wholes 93 = .ok (.istore_n 2, 1) := by decide +kernel
theorem dX14_wholes_94 : decode cX14_wholes 94 = .ok (.goto (-59), 3) := by decide +kernel
theorem dX14_wholes_97 : decode cX14_wholes 97 = .ok (.aload_n 0, 1) := by decide +kernel
theorem dX14_wholes_98 : decode cX14_wholes 98 = .ok (.getfield 74, 3) := by decide +kernel
theorem dX14_wholes_101 : decode cX14_wholes 101 = .ok (.aload_n 0, 1) := by decide +kernel
theorem dX14_wholes_102 : decode cX14_wholes 102 = .ok (.getfield 436, 3) := by decide +kernel
theorem dX14_wholes_105 : decode cX14_wholes 105 = .ok (.aload_n 0, 1) := by decide +kernel
theorem dX14_wholes_106 : decode cX14_wholes 106 = .ok (.getfield 453, 3) := by decide +kernel
theorem dX14_wholes_109 : decode cX14_wholes 109 = .ok (.iastore, 1) := by decide +kernel
theorem dX14_wholes_110 : decode cX14_wholes 110 = .ok (.return_, 1) := by decide +kernel
theorem dX14_wide_0 : decode cX14_wide 0 = .ok (.aload_n 0, 1) := by decide +kernel
theorem dX14_wide_1 : decode cX14_wide 1 = .ok (.iload_n 1, 1) := by decide +kernel
theorem dX14_wide_2 : decode cX14_wide 2 = .ok (.iconst 2, 1) := by decide +kernel
theorem dX14_wide_3 : decode cX14_wide 3 = .ok (.iadd, 1) := by decide +kernel
theorem dX14_wide_4 : decode cX14_wide 4 = .ok (.invokevirtual 476, 3) := by decide +kernel
theorem dX14_wide_7 : decode cX14_wide 7 = .ok (.ldc_w 479, 3) := by decide +kernel
theorem dX14_wide_10 : decode cX14_wide 10 = .ok (.iand, 1) := by decide +kernel
theorem dX14_wide_11 : decode cX14_wide 11 = .ok (.istore_n 3, 1) := by decide +kernel
theorem dX14_wide_12 : decode cX14_wide 12 = .ok (.iload_n 2, 1) := by decide +kernel
theorem dX14_wide_13 : decode cX14_wide 13 = .ok (.sipush 132, 3) := by decide +kernel
theorem dX14_wide_16 : decode cX14_wide 16 = .ok (.if_icmp .ne 19, 3) := by decide +kernel
theorem dX14_wide_19 : decode cX14_wide 19 = .ok (.aload_n 0, 1) := by decide +kernel
theorem dX14_wide_20 : decode cX14_wide 20 = .ok (.iload_n 1, 1) := by decide +kernel
theorem dX14_wide_21 : decode cX14_wide 21 = .ok (.iload_n 3, 1) := by decide +kernel
theorem dX14_wide_22 : decode cX14_wide 22 = .ok (.aload_n 0, 1) := by decide +kernel
theorem dX14_wide_23 : decode cX14_wide 23 = .ok (.iload_n 1, 1) := by decide +kernel
theorem dX14_wide_24 : decode cX14_wide 24 = .ok (.iconst 4, 1) := by decide +kernel
theorem dX14_wide_25 : decode cX14_wide 25 = .ok (.iadd, 1) := by decide +kernel
theorem dX14_wide_26 : decode cX14_wide 26 = .ok (.invokevirtual 476, 3) := by decide +kernel
theorem dX14_wide_29 : decode cX14_wide 29 = .ok (.invokevirtual 486, 3) := by decide +kernel
theorem dX14_wide_32 : decode cX14_wide 32 = .ok (.goto 10, 3) := by decide +kernel
theorem dX14_wide_35 : decode cX14_wide 35 = .ok (.aload_n 0, 1) := by decide +kernel
theorem dX14_wide_36 : decode cX14_wide 36 = .ok (.iload_n 1, 1) := by decide +kernel
theorem dX14_wide_37 : decode cX14_wide 37 = .ok (.iload_n 2, 1) := by decide +kernel
theorem dX14_wide_38 : decode cX14_wide 38 = .ok (.iload_n 3, 1) := by decide +kernel
theorem dX14_wide_39 : decode cX14_wide 39 = .ok (.invokevirtual 483, 3) := by decide +kernel
theorem dX14_wide_42 : decode cX14_wide 42 = .ok (.return_, 1) := by decide +kernel
theorem dX14_within_0 : decode cX14_within 0 = .ok (.aload_n 0, 1) := by decide +kernel
theorem dX14_within_1 : decode cX14_within 1 = .ok (.getfield 319, 3) := by decide +kernel
theorem dX14_within_4 : decode cX14_within 4 = .ok (.i2l, 1) := by decide +kernel
theorem dX14_within_5 : decode cX14_within 5 = .ok (.lload_n 1, 1) := by decide +kernel
theorem dX14_within_6 : decode cX14_within 6 = .ok (.ladd, 1) := by decide +kernel
theorem dX14_within_7 : decode cX14_within 7 = .ok (.aload_n 0, 1) := by decide +kernel
theorem dX14_within_8 : decode cX14_within 8 = .ok (.getfield 421, 3) := by decide +kernel
theorem dX14_within_11 : decode cX14_within 11 = .ok (.i2l, 1) := by decide +kernel
theorem dX14_within_12 : decode cX14_within 12 = .ok (.lcmp, 1) := by decide +kernel
theorem dX14_within_13 : decode cX14_within 13 = .ok (.ifCond .le 14, 3) := by decide +kernel
theorem dX14_within_16 : decode cX14_within 16 = .ok (.aload_n 0, 1) := by decide +kernel
theorem dX14_within_17 : decode cX14_within 17 = .ok (.bipush 14, 2) := by decide +kernel
theorem dX14_within_19 : decode cX14_within 19 = .ok (.aload_n 0, 1) := by decide +kernel
theorem dX14_within_20 : decode cX14_within 20 = .ok (.getfield 421, 3) := by decide +kernel
theorem dX14_within_23 : decode cX14_within 23 = .ok (.invokevirtual 302, 3) := by decide +kernel
theorem dX14_within_26 : decode cX14_within 26 = .ok (.athrow, 1) := by decide +kernel
theorem dX14_within_27 : decode cX14_within 27 = .ok (.aload_n 0, 1) := by decide +kernel
theorem dX14_within_28 : decode cX14_within 28 = .ok (.getfield 319, 3) := by decide +kernel
theorem dX14_within_31 : decode cX14_within 31 = .ok (.istore_n 3, 1) := by decide +kernel
theorem dX14_within_32 : decode cX14_within 32 = .ok (.aload_n 0, 1) := by decide +kernel
theorem dX14_within_33 : decode cX14_within 33 = .ok (.dup, 1) := by decide +kernel
theorem dX14_within_34 : decode cX14_within 34 = .ok (.getfield 319, 3) := by decide +kernel
theorem dX14_within_37 : decode cX14_within 37 = .ok (.lload_n 1, 1) := by decide +kernel
theorem dX14_within_38 : decode cX14_within 38 = .ok (.l2i, 1) := by decide +kernel
theorem dX14_within_39 : decode cX14_within 39 = .ok (.iadd, 1) := by decide +kernel
theorem dX14_within_40 : decode cX14_within 40 = .ok (.putfield 319, 3) := by decide +kernel
theorem dX14_within_43 : decode cX14_within 43 = .ok (.iload_n 3, 1) := by decide +kernel
theorem dX14_within_44 : decode cX14_within 44 = .ok (.ireturn, 1) := by decide +kernel
theorem dX14_word_0 : decode cX14_word 0 = .ok (.iconst 0, 1) := by decide +kernel
theorem dX14_word_1 : decode cX14_word 1 = .ok (.istore_n 2, 1) := by decide +kernel
theorem dX14_word_2 : decode cX14_word 2 = .ok (.iload_n 2, 1) := by decide +kernel
theorem dX14_word_3 : decode cX14_word 3 = .ok (.iconst 4, 1) := by decide +kernel
theorem dX14_word_4 : decode cX14_word 4 = .ok (.if_icmp .ge 38, 3) := by decide +kernel
theorem dX14_word_7 : decode cX14_word 7 = .ok (.aload_n 0, 1) := by decide +kernel
theorem dX14_word_8 : decode cX14_word 8 = .ok (.getfield 15, 3) := by decide +kernel
theorem dX14_word_11 : decode cX14_word 11 = .ok (.aload_n 0, 1) := by decide +kernel
theorem dX14_word_12 : decode cX14_word 12 = .ok (.getfield 285, 3) := by decide +kernel
theorem dX14_word_15 : decode cX14_word 15 = .ok (.iload_n 1, 1) := by decide +kernel
theorem dX14_word_16 : decode cX14_word 16 = .ok (.bipush 24, 2) := by decide +kernel
theorem dX14_word_18 : decode cX14_word 18 = .ok (.bipush 8, 2) := by decide +kernel
theorem dX14_word_20 : decode cX14_word 20 = .ok (.iload_n 2, 1) := by decide +kernel
theorem dX14_word_21 : decode cX14_word 21 = .ok (.imul, 1) := by decide +kernel
theorem dX14_word_22 : decode cX14_word 22 = .ok (.isub, 1) := by decide +kernel
theorem dX14_word_23 : decode cX14_word 23 = .ok (.ishr, 1) := by decide +kernel
theorem dX14_word_24 : decode cX14_word 24 = .ok (.i2b, 1) := by decide +kernel
theorem dX14_word_25 : decode cX14_word 25 = .ok (.bastore, 1) := by decide +kernel
theorem dX14_word_26 : decode cX14_word 26 = .ok (.aload_n 0, 1) := by decide +kernel
theorem dX14_word_27 : decode cX14_word 27 = .ok (.dup, 1) := by decide +kernel
theorem dX14_word_28 : decode cX14_word 28 = .ok (.getfield 285, 3) := by decide +kernel
theorem dX14_word_31 : decode cX14_word 31 = .ok (.iconst 1, 1) := by decide +kernel
theorem dX14_word_32 : decode cX14_word 32 = .ok (.iadd, 1) := by decide +kernel
theorem dX14_word_33 : decode cX14_word 33 = .ok (.putfield 285, 3) := by decide +kernel
theorem dX14_word_36 : decode cX14_word 36 = .ok (.iinc 2 1, 3) := by decide +kernel
theorem dX14_word_39 : decode cX14_word 39 = .ok (.goto (-37), 3) := by decide +kernel
theorem dX14_word_42 : decode cX14_word 42 = .ok (.return_, 1) := by decide +kernel
theorem dX14_work_0 : decode cX14_work 0 = .ok (.aload_n 0, 1) := by decide +kernel
theorem dX14_work_1 : decode cX14_work 1 = .ok (.iconst 1, 1) := by decide +kernel
theorem dX14_work_2 : decode cX14_work 2 = .ok (.putfield 783, 3) := by decide +kernel
theorem dX14_work_5 : decode cX14_work 5 = .ok (.aload_n 0, 1) := by decide +kernel
theorem dX14_work_6 : decode cX14_work 6 = .ok (.iload_n 1, 1) := by decide +kernel
theorem dX14_work_7 : decode cX14_work 7 = .ok (.invokevirtual 685, 3) := by decide +kernel
theorem dX14_work_10 : decode cX14_work 10 = .ok (.istore_n 3, 1) := by decide +kernel
theorem dX14_work_11 : decode cX14_work 11 = .ok (.iload_n 3, 1) := by decide +kernel
theorem dX14_work_12 : decode cX14_work 12 = .ok (.invokestatic 725, 3) := by decide +kernel
theorem dX14_work_15 : decode cX14_work 15 = .ok (.ifCond .le 9, 3) := by decide +kernel
theorem dX14_work_18 : decode cX14_work 18 = .ok (.aload_n 0, 1) := by decide +kernel
theorem dX14_work_19 : decode cX14_work 19 = .ok (.iload_n 3, 1) := by decide +kernel
theorem dX14_work_20 : decode cX14_work 20 = .ok (.invokevirtual 796, 3) := by decide +kernel
theorem dX14_work_23 : decode cX14_work 23 = .ok (.return_, 1) := by decide +kernel
theorem dX14_work_24 : decode cX14_work 24 = .ok (.iload_n 3, 1) := by decide +kernel
theorem dX14_work_25 : decode cX14_work 25 = .ok (.bipush 58, 2) := by decide +kernel
theorem dX14_work_27 : decode cX14_work 27 = .ok (.if_icmp .ne 17, 3) := by decide +kernel
theorem dX14_work_30 : decode cX14_work 30 = .ok (.aload_n 0, 1) := by decide +kernel
theorem dX14_work_31 : decode cX14_work 31 = .ok (.getfield 102, 3) := by decide +kernel
theorem dX14_work_34 : decode cX14_work 34 = .ok (.aload_n 0, 1) := by decide +kernel
theorem dX14_work_35 : decode cX14_work 35 = .ok (.getfield 780, 3) := by decide +kernel
theorem dX14_work_38 : decode cX14_work 38 = .ok (.iconst 1, 1) := by decide +kernel
theorem dX14_work_39 : decode cX14_work 39 = .ok (.isub, 1) := by decide +kernel
theorem dX14_work_40 : decode cX14_work 40 = .ok (.baload, 1) := by decide +kernel
theorem dX14_work_41 : decode cX14_work 41 = .ok (.goto 4, 3) := by decide +kernel
theorem dX14_work_44 : decode cX14_work 44 = .ok (.iconst 0, 1) := by decide +kernel
theorem dX14_work_45 : decode cX14_work 45 = .ok (.istore 4, 2) := by decide +kernel
theorem dX14_work_47 : decode cX14_work 47 = .ok (.iload_n 3, 1) := by decide +kernel
theorem dX14_work_48 : decode cX14_work 48 = .ok (.bipush 25, 2) := by decide +kernel
theorem dX14_work_50 : decode cX14_work 50 = .ok (.if_icmp .ne 24, 3) := by decide +kernel
theorem dX14_work_53 : decode cX14_work 53 = .ok (.aload_n 0, 1) := by decide +kernel
theorem dX14_work_54 : decode cX14_work 54 = .ok (.getfield 99, 3) := by decide +kernel
theorem dX14_work_57 : decode cX14_work 57 = .ok (.aload_n 0, 1) := by decide +kernel
theorem dX14_work_58 : decode cX14_work 58 = .ok (.iload_n 1, 1) := by decide +kernel
theorem dX14_work_59 : decode cX14_work 59 = .ok (.invokevirtual 697, 3) := by decide +kernel
theorem dX14_work_62 : decode cX14_work 62 = .ok (.baload, 1) := by decide +kernel
theorem dX14_work_63 : decode cX14_work 63 = .ok (.istore 4, 2) := by decide +kernel
theorem dX14_work_65 : decode cX14_work 65 = .ok (.aload_n 0, 1) := by decide +kernel
theorem dX14_work_66 : decode cX14_work 66 = .ok (.iload 4, 2) := by decide +kernel
theorem dX14_work_68 : decode cX14_work 68 = .ok (.invokestatic 777, 3) := by decide +kernel
theorem dX14_work_71 : decode cX14_work 71 = .ok (.invokevirtual 789, 3) := by decide +kernel
theorem dX14_work_74 : decode cX14_work 74 = .ok (.iload 4, 2) := by decide +kernel
theorem dX14_work_76 : decode cX14_work 76 = .ok (.invokestatic 777, 3) := by decide +kernel
theorem dX14_work_79 : decode cX14_work 79 = .ok (.ifCond .ne 6, 3) := by decide +kernel
theorem dX14_work_82 : decode cX14_work 82 = .ok (.iconst 0, 1) := by decide +kernel
theorem dX14_work_83 : decode cX14_work 83 = .ok (.istore 4, 2) := by decide +kernel
theorem dX14_work_85 : decode cX14_work 85 = .ok (.iload_n 3, 1) := by decide +kernel
theorem dX14_work_86 : decode cX14_work 86 = .ok (.bipush 21, 2) := by decide +kernel
theorem dX14_work_88 : decode cX14_work 88 = .ok (.if_icmp .eq 10, 3) := by decide +kernel
theorem dX14_work_91 : decode cX14_work 91 = .ok (.iload_n 3, 1) := by decide +kernel
theorem dX14_work_92 : decode cX14_work 92 = .ok (.sipush 132, 3) := by decide +kernel
theorem dX14_work_95 : decode cX14_work 95 = .ok (.if_icmp .ne 26, 3) := by decide +kernel
theorem dX14_work_98 : decode cX14_work 98 = .ok (.aload_n 0, 1) := by decide +kernel
theorem dX14_work_99 : decode cX14_work 99 = .ok (.aload_n 0, 1) := by decide +kernel
theorem dX14_work_100 : decode cX14_work 100 = .ok (.getfield 99, 3) := by decide +kernel
theorem dX14_work_103 : decode cX14_work 103 = .ok (.aload_n 0, 1) := by decide +kernel
theorem dX14_work_104 : decode cX14_work 104 = .ok (.iload_n 1, 1) := by decide +kernel
theorem dX14_work_105 : decode cX14_work 105 = .ok (.invokevirtual 697, 3) := by decide +kernel
theorem dX14_work_108 : decode cX14_work 108 = .ok (.baload, 1) := by decide +kernel
theorem dX14_work_109 : decode cX14_work 109 = .ok (.iconst 1, 1) := by decide +kernel
theorem dX14_work_110 : decode cX14_work 110 = .ok (.if_icmp .ne 7, 3) := by decide +kernel
theorem dX14_work_113 : decode cX14_work 113 = .ok (.iconst 1, 1) := by decide +kernel
theorem dX14_work_114 : decode cX14_work 114 = .ok (.goto 4, 3) := by decide +kernel
theorem dX14_work_117 : decode cX14_work 117 = .ok (.iconst 0, 1) := by decide +kernel
theorem dX14_work_118 : decode cX14_work 118 = .ok (.invokevirtual 789, 3) := by decide +kernel
theorem dX14_work_121 : decode cX14_work 121 = .ok (.iload_n 3, 1) := by decide +kernel
theorem dX14_work_122 : decode cX14_work 122 = .ok (.bipush 22, 2) := by decide +kernel
theorem dX14_work_124 : decode cX14_work 124 = .ok (.if_icmp .ne 42, 3) := by decide +kernel
theorem dX14_work_127 : decode cX14_work 127 = .ok (.aload_n 0, 1) := by decide +kernel
theorem dX14_work_128 : decode cX14_work 128 = .ok (.aload_n 0, 1) := by decide +kernel
theorem dX14_work_129 : decode cX14_work 129 = .ok (.getfield 99, 3) := by decide +kernel
theorem dX14_work_132 : decode cX14_work 132 = .ok (.aload_n 0, 1) := by decide +kernel
theorem dX14_work_133 : decode cX14_work 133 = .ok (.iload_n 1, 1) := by decide +kernel
theorem dX14_work_134 : decode cX14_work 134 = .ok (.invokevirtual 697, 3) := by decide +kernel
theorem dX14_work_137 : decode cX14_work 137 = .ok (.baload, 1) := by decide +kernel
theorem dX14_work_138 : decode cX14_work 138 = .ok (.iconst 2, 1) := by decide +kernel
theorem dX14_work_139 : decode cX14_work 139 = .ok (.if_icmp .ne 23, 3) := by decide +kernel
theorem dX14_work_142 : decode cX14_work 142 = .ok (.aload_n 0, 1) := by decide +kernel
theorem dX14_work_143 : decode cX14_work 143 = .ok (.getfield 99, 3) := by decide +kernel
theorem dX14_work_146 : decode cX14_work 146 = .ok (.aload_n 0, 1) := by decide +kernel
theorem dX14_work_147 : decode cX14_work 147 = .ok (.iload_n 1, 1) := by decide +kernel
theorem dX14_work_148 : decode cX14_work 148 = .ok (.invokevirtual 697, 3) := by decide +kernel
theorem dX14_work_151 : decode cX14_work 151 = .ok (.iconst 1, 1) := by decide +kernel
theorem dX14_work_152 : decode cX14_work 152 = .ok (.iadd, 1) := by decide +kernel
theorem dX14_work_153 : decode cX14_work 153 = .ok (.baload, 1) := by decide +kernel
theorem dX14_work_154 : decode cX14_work 154 = .ok (.iconst 3, 1) := by decide +kernel
theorem dX14_work_155 : decode cX14_work 155 = .ok (.if_icmp .ne 7, 3) := by decide +kernel
theorem dX14_work_158 : decode cX14_work 158 = .ok (.iconst 1, 1) := by decide +kernel
theorem dX14_work_159 : decode cX14_work 159 = .ok (.goto 4, 3) := by decide +kernel
theorem dX14_work_162 : decode cX14_work 162 = .ok (.iconst 0, 1) := by decide +kernel
theorem dX14_work_163 : decode cX14_work 163 = .ok (.invokevirtual 789, 3) := by decide +kernel
theorem dX14_work_166 : decode cX14_work 166 = .ok (.iload_n 3, 1) := by decide +kernel
theorem dX14_work_167 : decode cX14_work 167 = .ok (.sipush 172, 3) := by decide +kernel
theorem dX14_work_170 : decode cX14_work 170 = .ok (.if_icmp .eq 24, 3) := by decide +kernel
theorem dX14_work_173 : decode cX14_work 173 = .ok (.iload_n 3, 1) := by decide +kernel
theorem dX14_work_174 : decode cX14_work 174 = .ok (.sipush 173, 3) := by decide +kernel
theorem dX14_work_177 : decode cX14_work 177 = .ok (.if_icmp .eq 17, 3) := by decide +kernel
theorem dX14_work_180 : decode cX14_work 180 = .ok (.iload_n 3, 1) := by decide +kernel
theorem dX14_work_181 : decode cX14_work 181 = .ok (.sipush 176, 3) := by decide +kernel
theorem dX14_work_184 : decode cX14_work 184 = .ok (.if_icmp .eq 10, 3) := by decide +kernel
theorem dX14_work_187 : decode cX14_work 187 = .ok (.iload_n 3, 1) := by decide +kernel
theorem dX14_work_188 : decode cX14_work 188 = .ok (.sipush 177, 3) := by decide +kernel
theorem dX14_work_191 : decode cX14_work 191 = .ok (.if_icmp .ne 53, 3) := by decide +kernel
theorem dX14_work_194 : decode cX14_work 194 = .ok (.aload_n 0, 1) := by decide +kernel
theorem dX14_work_195 : decode cX14_work 195 = .ok (.aload_n 2, 1) := by decide +kernel
theorem dX14_work_196 : decode cX14_work 196 = .ok (.iload_n 3, 1) := by decide +kernel
theorem dX14_work_197 : decode cX14_work 197 = .ok (.sipush 172, 3) := by decide +kernel
theorem dX14_work_200 : decode cX14_work 200 = .ok (.if_icmp .ne 9, 3) := by decide +kernel
theorem dX14_work_203 : decode cX14_work 203 = .ok (.ldc_w 706, 3) := by decide +kernel
theorem dX14_work_206 : decode cX14_work 206 = .ok (.goto 32, 3) := by decide +kernel
theorem dX14_work_209 : decode cX14_work 209 = .ok (.iload_n 3, 1) := by decide +kernel
theorem dX14_work_210 : decode cX14_work 210 = .ok (.sipush 173, 3) := by decide +kernel
theorem dX14_work_213 : decode cX14_work 213 = .ok (.if_icmp .ne 9, 3) := by decide +kernel
theorem dX14_work_216 : decode cX14_work 216 = .ok (.ldc_w 711, 3) := by decide +kernel
theorem dX14_work_219 : decode cX14_work 219 = .ok (.goto 19, 3) := by decide +kernel
theorem dX14_work_222 : decode cX14_work 222 = .ok (.iload_n 3, 1) := by decide +kernel
theorem dX14_work_223 : decode cX14_work 223 = .ok (.sipush 176, 3) := by decide +kernel
theorem dX14_work_226 : decode cX14_work 226 = .ok (.if_icmp .ne 9, 3) := by decide +kernel
theorem dX14_work_229 : decode cX14_work 229 = .ok (.ldc_w 717, 3) := by decide +kernel
theorem dX14_work_232 : decode cX14_work 232 = .ok (.goto 6, 3) := by decide +kernel
theorem dX14_work_235 : decode cX14_work 235 = .ok (.ldc_w 721, 3) := by decide +kernel
theorem dX14_work_238 : decode cX14_work 238 = .ok (.invokevirtual 799, 3) := by decide +kernel
theorem dX14_work_241 : decode cX14_work 241 = .ok (.invokevirtual 789, 3) := by decide +kernel
theorem dX14_work_244 : decode cX14_work 244 = .ok (.aload_n 0, 1) := by decide +kernel
theorem dX14_work_245 : decode cX14_work 245 = .ok (.iload_n 1, 1) := by decide +kernel
theorem dX14_work_246 : decode cX14_work 246 = .ok (.invokevirtual 728, 3) := by decide +kernel
theorem dX14_work_249 : decode cX14_work 249 = .ok (.astore 5, 2) := by decide +kernel
theorem dX14_work_251 : decode cX14_work 251 = .ok (.aload 5, 2) := by decide +kernel
theorem dX14_work_253 : decode cX14_work 253 = .ok (.invokevirtual 404, 3) := by decide +kernel
theorem dX14_work_256 : decode cX14_work 256 = .ok (.iconst 1, 1) := by decide +kernel
theorem dX14_work_257 : decode cX14_work 257 = .ok (.isub, 1) := by decide +kernel
theorem dX14_work_258 : decode cX14_work 258 = .ok (.istore 6, 2) := by decide +kernel
theorem dX14_work_260 : decode cX14_work 260 = .ok (.iload 6, 2) := by decide +kernel
theorem dX14_work_262 : decode cX14_work 262 = .ok (.ifCond .lt 20, 3) := by decide +kernel
theorem dX14_work_265 : decode cX14_work 265 = .ok (.aload_n 0, 1) := by decide +kernel
theorem dX14_work_266 : decode cX14_work 266 = .ok (.aload 5, 2) := by decide +kernel
theorem dX14_work_268 : decode cX14_work 268 = .ok (.iload 6, 2) := by decide +kernel
theorem dX14_work_270 : decode cX14_work 270 = .ok (.invokevirtual 408, 3) := by decide +kernel
theorem dX14_work_273 : decode cX14_work 273 = .ok (.invokevirtual 803, 3) := by decide +kernel
theorem dX14_work_276 : decode cX14_work 276 = .ok (.iinc 6 (-1), 3) := by decide +kernel
theorem dX14_work_279 : decode cX14_work 279 = .ok (.goto (-19), 3) := by decide +kernel
theorem dX14_work_282 : decode cX14_work 282 = .ok (.iload_n 3, 1) := by decide +kernel
theorem dX14_work_283 : decode cX14_work 283 = .ok (.bipush 54, 2) := by decide +kernel
theorem dX14_work_285 : decode cX14_work 285 = .ok (.if_icmp .eq 15, 3) := by decide +kernel
theorem dX14_work_288 : decode cX14_work 288 = .ok (.iload_n 3, 1) := by decide +kernel
theorem dX14_work_289 : decode cX14_work 289 = .ok (.bipush 55, 2) := by decide +kernel
theorem dX14_work_291 : decode cX14_work 291 = .ok (.if_icmp .eq 9, 3) := by decide +kernel
theorem dX14_work_294 : decode cX14_work 294 = .ok (.iload_n 3, 1) := by decide +kernel
theorem dX14_work_295 : decode cX14_work 295 = .ok (.bipush 58, 2) := by decide +kernel
theorem dX14_work_297 : decode cX14_work 297 = .ok (.if_icmp .ne 15, 3) := by decide +kernel
theorem dX14_work_300 : decode cX14_work 300 = .ok (.aload_n 0, 1) := by decide +kernel
theorem dX14_work_301 : decode cX14_work 301 = .ok (.iload_n 3, 1) := by decide +kernel
theorem dX14_work_302 : decode cX14_work 302 = .ok (.aload_n 0, 1) := by decide +kernel
theorem dX14_work_303 : decode cX14_work 303 = .ok (.iload_n 1, 1) := by decide +kernel
theorem dX14_work_304 : decode cX14_work 304 = .ok (.invokevirtual 697, 3) := by decide +kernel
theorem dX14_work_307 : decode cX14_work 307 = .ok (.iload 4, 2) := by decide +kernel
theorem dX14_work_309 : decode cX14_work 309 = .ok (.invokevirtual 807, 3) := by decide +kernel
theorem dX14_work_312 : decode cX14_work 312 = .ok (.aload_n 0, 1) := by decide +kernel
theorem dX14_work_313 : decode cX14_work 313 = .ok (.aload_n 0, 1) := by decide +kernel
theorem dX14_work_314 : decode cX14_work 314 = .ok (.iload_n 1, 1) := by decide +kernel
theorem dX14_work_315 : decode cX14_work 315 = .ok (.invokevirtual 737, 3) := by decide +kernel
theorem dX14_work_318 : decode cX14_work 318 = .ok (.iload 4, 2) := by decide +kernel
theorem dX14_work_320 : decode cX14_work 320 = .ok (.invokevirtual 810, 3) := by decide +kernel
theorem dX14_work_323 : decode cX14_work 323 = .ok (.return_, 1) := by decide +kernel
theorem dX14_workOne_0 : decode cX14_workOne 0 = .ok (.iload_n 1, 1) := by decide +kernel
theorem dX14_workOne_1 : decode cX14_workOne 1 = .ok (.sipush 148, 3) := by decide +kernel
theorem dX14_workOne_4 : decode cX14_workOne 4 = .ok (.if_icmp .eq 10, 3) := by decide +kernel
theorem dX14_workOne_7 : decode cX14_workOne 7 = .ok (.iload_n 1, 1) := by decide +kernel
theorem dX14_workOne_8 : decode cX14_workOne 8 = .ok (.iconst 2, 1) := by decide +kernel
theorem dX14_workOne_9 : decode cX14_workOne 9 = .ok (.irem, 1) := by decide +kernel
theorem dX14_workOne_10 : decode cX14_workOne 10 = .ok (.iconst 1, 1) := by decide +kernel
theorem dX14_workOne_11 : decode cX14_workOne 11 = .ok (.if_icmp .ne 7, 3) := by decide +kernel
theorem dX14_workOne_14 : decode cX14_workOne 14 = .ok (.iconst 1, 1) := by decide +kernel
theorem dX14_workOne_15 : decode cX14_workOne 15 = .ok (.goto 4, 3) := by decide +kernel
theorem dX14_workOne_18 : decode cX14_workOne 18 = .ok (.iconst 0, 1) := by decide +kernel
theorem dX14_workOne_19 : decode cX14_workOne 19 = .ok (.istore_n 2, 1) := by decide +kernel
theorem dX14_workOne_20 : decode cX14_workOne 20 = .ok (.iload_n 1, 1) := by decide +kernel
theorem dX14_workOne_21 : decode cX14_workOne 21 = .ok (.bipush 116, 2) := by decide +kernel
theorem dX14_workOne_23 : decode cX14_workOne 23 = .ok (.if_icmp .eq 9, 3) := by decide +kernel
theorem dX14_workOne_26 : decode cX14_workOne 26 = .ok (.iload_n 1, 1) := by decide +kernel
theorem dX14_workOne_27 : decode cX14_workOne 27 = .ok (.bipush 117, 2) := by decide +kernel
theorem dX14_workOne_29 : decode cX14_workOne 29 = .ok (.if_icmp .ne 32, 3) := by decide +kernel
theorem dX14_workOne_32 : decode cX14_workOne 32 = .ok (.iload_n 2, 1) := by decide +kernel
theorem dX14_workOne_33 : decode cX14_workOne 33 = .ok (.ifCond .eq 17, 3) := by decide +kernel
theorem dX14_workOne_36 : decode cX14_workOne 36 = .ok (.aload_n 0, 1) := by decide +kernel
theorem dX14_workOne_37 : decode cX14_workOne 37 = .ok (.aload_n 0, 1) := by decide +kernel
theorem dX14_workOne_38 : decode cX14_workOne 38 = .ok (.iconst 2, 1) := by decide +kernel
theorem dX14_workOne_39 : decode cX14_workOne 39 = .ok (.invokevirtual 1000, 3) := by decide +kernel
theorem dX14_workOne_42 : decode cX14_workOne 42 = .ok (.lneg, 1) := by decide +kernel
theorem dX14_workOne_43 : decode cX14_workOne 43 = .ok (.iconst 2, 1) := by decide +kernel
theorem dX14_workOne_44 : decode cX14_workOne 44 = .ok (.invokevirtual 1003, 3) := by decide +kernel
theorem dX14_workOne_47 : decode cX14_workOne 47 = .ok (.goto 12, 3) := by decide +kernel
theorem dX14_workOne_50 : decode cX14_workOne 50 = .ok (.aload_n 0, 1) := by decide +kernel
theorem dX14_workOne_51 : decode cX14_workOne 51 = .ok (.aload_n 0, 1) := by decide +kernel
theorem dX14_workOne_52 : decode cX14_workOne 52 = .ok (.invokevirtual 1018, 3) := by decide +kernel
theorem dX14_workOne_55 : decode cX14_workOne 55 = .ok (.ineg, 1) := by decide +kernel
theorem dX14_workOne_56 : decode cX14_workOne 56 = .ok (.invokevirtual 1056, 3) := by decide +kernel
theorem dX14_workOne_59 : decode cX14_workOne 59 = .ok (.iconst 1, 1) := by decide +kernel
theorem dX14_workOne_60 : decode cX14_workOne 60 = .ok (.ireturn, 1) := by decide +kernel
theorem dX14_workOne_61 : decode cX14_workOne 61 = .ok (.iload_n 1, 1) := by decide +kernel
theorem dX14_workOne_62 : decode cX14_workOne 62 = .ok (.bipush 120, 2) := by decide +kernel
theorem dX14_workOne_64 : decode cX14_workOne 64 = .ok (.if_icmp .lt 17, 3) := by decide +kernel
theorem dX14_workOne_67 : decode cX14_workOne 67 = .ok (.iload_n 1, 1) := by decide +kernel
theorem dX14_workOne_68 : decode cX14_workOne 68 = .ok (.bipush 125, 2) := by decide +kernel
theorem dX14_workOne_70 : decode cX14_workOne 70 = .ok (.if_icmp .gt 11, 3) := by decide +kernel
theorem dX14_workOne_73 : decode cX14_workOne 73 = .ok (.aload_n 0, 1) := by decide +kernel
theorem dX14_workOne_74 : decode cX14_workOne 74 = .ok (.iconst 1, 1) := by decide +kernel
theorem dX14_workOne_75 : decode cX14_workOne 75 = .ok (.invokevirtual 1000, 3) := by decide +kernel
theorem dX14_workOne_78 : decode cX14_workOne 78 = .ok (.goto 16, 3) := by decide +kernel
theorem dX14_workOne_81 : decode cX14_workOne 81 = .ok (.aload_n 0, 1) := by decide +kernel
theorem dX14_workOne_82 : decode cX14_workOne 82 = .ok (.iload_n 2, 1) := by decide +kernel
theorem dX14_workOne_83 : decode cX14_workOne 83 = .ok (.ifCond .eq 7, 3) := by decide +kernel
theorem dX14_workOne_86 : decode cX14_workOne 86 = .ok (.iconst 2, 1) := by decide +kernel
theorem dX14_workOne_87 : decode cX14_workOne 87 = .ok (.goto 4, 3) := by decide +kernel
theorem dX14_workOne_90 : decode cX14_workOne 90 = .ok (.iconst 1, 1) := by decide +kernel
theorem dX14_workOne_91 : decode cX14_workOne 91 = .ok (.invokevirtual 1000, 3) := by decide +kernel
theorem dX14_workOne_94 : decode cX14_workOne 94 = .ok (.lstore_n 3, 1) := by decide +kernel
theorem dX14_workOne_95 : decode cX14_workOne 95 = .ok (.aload_n 0, 1) := by decide +kernel
theorem dX14_workOne_96 : decode cX14_workOne 96 = .ok (.iload_n 2, 1) := by decide +kernel
theorem dX14_workOne_97 : decode cX14_workOne 97 = .ok (.ifCond .eq 7, 3) := by decide +kernel
theorem dX14_workOne_100 : decode cX14_workOne 100 = .ok (.iconst 2, 1) := by decide +kernel
theorem dX14_workOne_101 : decode cX14_workOne 101 = .ok (.goto 4, 3) := by decide +kernel
theorem dX14_workOne_104 : decode cX14_workOne 104 = .ok (.iconst 1, 1) := by decide +kernel
theorem dX14_workOne_105 : decode cX14_workOne 105 = .ok (.invokevirtual 1000, 3) := by decide +kernel
theorem dX14_workOne_108 : decode cX14_workOne 108 = .ok (.lstore 5, 2) := by decide +kernel
theorem dX14_workOne_110 : decode cX14_workOne 110 = .ok (.iload_n 1, 1) := by decide +kernel
theorem dX14_workOne_111 : decode cX14_workOne 111 = .ok (.sipush 148, 3) := by decide +kernel
theorem dX14_workOne_114 : decode cX14_workOne 114 = .ok (.if_icmp .ne 32, 3) := by decide +kernel
theorem dX14_workOne_117 : decode cX14_workOne 117 = .ok (.aload_n 0, 1) := by decide +kernel
theorem dX14_workOne_118 : decode cX14_workOne 118 = .ok (.lload 5, 2) := by decide +kernel
theorem dX14_workOne_120 : decode cX14_workOne 120 = .ok (.lload_n 3, 1) := by decide +kernel
theorem dX14_workOne_121 : decode cX14_workOne 121 = .ok (.lcmp, 1) := by decide +kernel
theorem dX14_workOne_122 : decode cX14_workOne 122 = .ok (.ifCond .ge 7, 3) := by decide +kernel
theorem dX14_workOne_125 : decode cX14_workOne 125 = .ok (.iconst (-1), 1) := by decide +kernel
theorem dX14_workOne_126 : decode cX14_workOne 126 = .ok (.goto 15, 3) := by decide +kernel
theorem dX14_workOne_129 : decode cX14_workOne 129 = .ok (.lload 5, 2) := by decide +kernel
theorem dX14_workOne_131 : decode cX14_workOne 131 = .ok (.lload_n 3, 1) := by decide +kernel
theorem dX14_workOne_132 : decode cX14_workOne 132 = .ok (.lcmp, 1) := by decide +kernel
theorem dX14_workOne_133 : decode cX14_workOne 133 = .ok (.ifCond .le 7, 3) := by decide +kernel
theorem dX14_workOne_136 : decode cX14_workOne 136 = .ok (.iconst 1, 1) := by decide +kernel
theorem dX14_workOne_137 : decode cX14_workOne 137 = .ok (.goto 4, 3) := by decide +kernel
theorem dX14_workOne_140 : decode cX14_workOne 140 = .ok (.iconst 0, 1) := by decide +kernel
theorem dX14_workOne_141 : decode cX14_workOne 141 = .ok (.invokevirtual 1056, 3) := by decide +kernel
theorem dX14_workOne_144 : decode cX14_workOne 144 = .ok (.iconst 1, 1) := by decide +kernel
theorem dX14_workOne_145 : decode cX14_workOne 145 = .ok (.ireturn, 1) := by decide +kernel
theorem dX14_workOne_146 : decode cX14_workOne 146 = .ok (.iload_n 1, 1) := by decide +kernel
theorem dX14_workOne_147 : decode cX14_workOne 147 = .ok (.bipush 108, 2) := by decide +kernel
theorem dX14_workOne_149 : decode cX14_workOne 149 = .ok (.if_icmp .lt 22, 3) := by decide +kernel
theorem dX14_workOne_152 : decode cX14_workOne 152 = .ok (.iload_n 1, 1) := by decide +kernel
theorem dX14_workOne_153 : decode cX14_workOne 153 = .ok (.bipush 113, 2) := by decide +kernel
theorem dX14_workOne_155 : decode cX14_workOne 155 = .ok (.if_icmp .gt 16, 3) := by decide +kernel
theorem dX14_workOne_158 : decode cX14_workOne 158 = .ok (.lload_n 3, 1) := by decide +kernel
theorem dX14_workOne_159 : decode cX14_workOne 159 = .ok (.lconst 0, 1) := by decide +kernel
theorem dX14_workOne_160 : decode cX14_workOne 160 = .ok (.lcmp, 1) := by decide +kernel
theorem dX14_workOne_161 : decode cX14_workOne 161 = .ok (.ifCond .ne 10, 3) := by decide +kernel
theorem dX14_workOne_164 : decode cX14_workOne 164 = .ok (.aload_n 0, 1) := by decide +kernel
theorem dX14_workOne_165 : decode cX14_workOne 165 = .ok (.iconst 0, 1) := by decide +kernel
theorem dX14_workOne_166 : decode cX14_workOne 166 = .ok (.invokevirtual 1059, 3) := by decide +kernel
theorem dX14_workOne_169 : decode cX14_workOne 169 = .ok (.iconst 0, 1) := by decide +kernel
theorem dX14_workOne_170 : decode cX14_workOne 170 = .ok (.ireturn, 1) := by decide +kernel
theorem dX14_workOne_171 : decode cX14_workOne 171 = .ok (.iload_n 2, 1) := by decide +kernel
theorem dX14_workOne_172 : decode cX14_workOne 172 = .ok (.ifCond .eq 18, 3) := by decide +kernel
theorem dX14_workOne_175 : decode cX14_workOne 175 = .ok (.aload_n 0, 1) := by decide +kernel
theorem dX14_workOne_176 : decode cX14_workOne 176 = .ok (.iload_n 1, 1) := by decide +kernel
theorem dX14_workOne_177 : decode cX14_workOne 177 = .ok (.lload 5, 2) := by decide +kernel
theorem dX14_workOne_179 : decode cX14_workOne 179 = .ok (.lload_n 3, 1) := by decide +kernel
theorem dX14_workOne_180 : decode cX14_workOne 180 = .ok (.invokestatic 1062, 3) := by decide +kernel
theorem dX14_workOne_183 : decode cX14_workOne 183 = .ok (.iconst 2, 1) := by decide +kernel
theorem dX14_workOne_184 : decode cX14_workOne 184 = .ok (.invokevirtual 1003, 3) := by decide +kernel
theorem dX14_workOne_187 : decode cX14_workOne 187 = .ok (.goto 16, 3) := by decide +kernel
theorem dX14_workOne_190 : decode cX14_workOne 190 = .ok (.aload_n 0, 1) := by decide +kernel
theorem dX14_workOne_191 : decode cX14_workOne 191 = .ok (.iload_n 1, 1) := by decide +kernel
theorem dX14_workOne_192 : decode cX14_workOne 192 = .ok (.lload 5, 2) := by decide +kernel
theorem dX14_workOne_194 : decode cX14_workOne 194 = .ok (.l2i, 1) := by decide +kernel
theorem dX14_workOne_195 : decode cX14_workOne 195 = .ok (.lload_n 3, 1) := by decide +kernel
theorem dX14_workOne_196 : decode cX14_workOne 196 = .ok (.l2i, 1) := by decide +kernel
theorem dX14_workOne_197 : decode cX14_workOne 197 = .ok (.invokestatic 1066, 3) := by decide +kernel
theorem dX14_workOne_200 : decode cX14_workOne 200 = .ok (.invokevirtual 1056, 3) := by decide +kernel
theorem dX14_workOne_203 : decode cX14_workOne 203 = .ok (.iconst 1, 1) := by decide +kernel
theorem dX14_workOne_204 : decode cX14_workOne 204 = .ok (.ireturn, 1) := by decide +kernel
theorem dX14_worthAt_0 : decode cX14_worthAt 0 = .ok (.aload_n 0, 1) := by decide +kernel
theorem dX14_worthAt_1 : decode cX14_worthAt 1 = .ok (.getfield 240, 3) := by decide +kernel
theorem dX14_worthAt_4 : decode cX14_worthAt 4 = .ok (.iload_n 1, 1) := by decide +kernel
theorem dX14_worthAt_5 : decode cX14_worthAt 5 = .ok (.iaload, 1) := by decide +kernel
theorem dX14_worthAt_6 : decode cX14_worthAt 6 = .ok (.bipush 18, 2) := by decide +kernel
theorem dX14_worthAt_8 : decode cX14_worthAt 8 = .ok (.if_icmp .ne 13, 3) := by decide +kernel
theorem dX14_worthAt_11 : decode cX14_worthAt 11 = .ok (.aload_n 0, 1) := by decide +kernel
theorem dX14_worthAt_12 : decode cX14_worthAt 12 = .ok (.getfield 243, 3) := by decide +kernel
theorem dX14_worthAt_15 : decode cX14_worthAt 15 = .ok (.iload_n 1, 1) := by decide +kernel
theorem dX14_worthAt_16 : decode cX14_worthAt 16 = .ok (.iaload, 1) := by decide +kernel
theorem dX14_worthAt_17 : decode cX14_worthAt 17 = .ok (.i2l, 1) := by decide +kernel
theorem dX14_worthAt_18 : decode cX14_worthAt 18 = .ok (.goto 25, 3) := by decide +kernel
theorem dX14_worthAt_21 : decode cX14_worthAt 21 = .ok (.aload_n 0, 1) := by decide +kernel
theorem dX14_worthAt_22 : decode cX14_worthAt 22 = .ok (.getfield 243, 3) := by decide +kernel
theorem dX14_worthAt_25 : decode cX14_worthAt 25 = .ok (.iload_n 1, 1) := by decide +kernel
theorem dX14_worthAt_26 : decode cX14_worthAt 26 = .ok (.iaload, 1) := by decide +kernel
theorem dX14_worthAt_27 : decode cX14_worthAt 27 = .ok (.i2l, 1) := by decide +kernel
theorem dX14_worthAt_28 : decode cX14_worthAt 28 = .ok (.bipush 32, 2) := by decide +kernel
theorem dX14_worthAt_30 : decode cX14_worthAt 30 = .ok (.lshl, 1) := by decide +kernel
theorem dX14_worthAt_31 : decode cX14_worthAt 31 = .ok (.aload_n 0, 1) := by decide +kernel
theorem dX14_worthAt_32 : decode cX14_worthAt 32 = .ok (.getfield 246, 3) := by decide +kernel
theorem dX14_worthAt_35 : decode cX14_worthAt 35 = .ok (.iload_n 1, 1) := by decide +kernel
theorem dX14_worthAt_36 : decode cX14_worthAt 36 = .ok (.iaload, 1) := by decide +kernel
theorem dX14_worthAt_37 : decode cX14_worthAt 37 = .ok (.i2l, 1) := by decide +kernel
theorem dX14_worthAt_38 : decode cX14_worthAt 38 = .ok (.ldc2_w 378, 3) := by decide +kernel
theorem dX14_worthAt_41 : decode cX14_worthAt 41 = .ok (.land, 1) := by decide +kernel
theorem dX14_worthAt_42 : decode cX14_worthAt 42 = .ok (.lor, 1) := by decide +kernel
theorem dX14_worthAt_43 : decode cX14_worthAt 43 = .ok (.lreturn, 1) := by decide +kernel
theorem dX14_write_0 : decode cX14_write 0 = .ok (.aload_n 0, 1) := by decide +kernel
theorem dX14_write_1 : decode cX14_write 1 = .ok (.iload_n 1, 1) := by decide +kernel
theorem dX14_write_2 : decode cX14_write 2 = .ok (.invokevirtual 860, 3) := by decide +kernel
theorem dX14_write_5 : decode cX14_write 5 = .ok (.ifCond .ne 5, 3) := by decide +kernel
theorem dX14_write_8 : decode cX14_write 8 = .ok (.iconst (-1), 1) := by decide +kernel
theorem dX14_write_9 : decode cX14_write 9 = .ok (.ireturn, 1) := by decide +kernel
theorem dX14_write_10 : decode cX14_write 10 = .ok (.aload_n 0, 1) := by decide +kernel
theorem dX14_write_11 : decode cX14_write 11 = .ok (.aload_n 0, 1) := by decide +kernel
theorem dX14_write_12 : decode cX14_write 12 = .ok (.getfield 11, 3) := by decide +kernel
theorem dX14_write_15 : decode cX14_write 15 = .ok (.iload_n 1, 1) := by decide +kernel
theorem dX14_write_16 : decode cX14_write 16 = .ok (.aaload, 1) := by decide +kernel
theorem dX14_write_17 : decode cX14_write 17 = .ok (.invokevirtual 955, 3) := by decide +kernel
theorem dX14_write_20 : decode cX14_write 20 = .ok (.aload_n 0, 1) := by decide +kernel
theorem dX14_write_21 : decode cX14_write 21 = .ok (.getfield 140, 3) := by decide +kernel
theorem dX14_write_24 : decode cX14_write 24 = .ok (.astore_n 2, 1) := by decide +kernel
theorem dX14_write_25 : decode cX14_write 25 = .ok (.aload_n 0, 1) := by decide +kernel
theorem dX14_write_26 : decode cX14_write 26 = .ok (.aload_n 0, 1) := by decide +kernel
theorem dX14_write_27 : decode cX14_write 27 = .ok (.getfield 137, 3) := by decide +kernel
theorem dX14_write_30 : decode cX14_write 30 = .ok (.putfield 140, 3) := by decide +kernel
theorem dX14_write_33 : decode cX14_write 33 = .ok (.aload_n 0, 1) := by decide +kernel
theorem dX14_write_34 : decode cX14_write 34 = .ok (.aload_n 2, 1) := by decide +kernel
theorem dX14_write_35 : decode cX14_write 35 = .ok (.putfield 137, 3) := by decide +kernel
theorem dX14_write_38 : decode cX14_write 38 = .ok (.aload_n 0, 1) := by decide +kernel
theorem dX14_write_39 : decode cX14_write 39 = .ok (.aload_n 0, 1) := by decide +kernel
theorem dX14_write_40 : decode cX14_write 40 = .ok (.getfield 897, 3) := by decide +kernel
theorem dX14_write_43 : decode cX14_write 43 = .ok (.putfield 958, 3) := by decide +kernel
theorem dX14_write_46 : decode cX14_write 46 = .ok (.aload_n 0, 1) := by decide +kernel
theorem dX14_write_47 : decode cX14_write 47 = .ok (.getfield 958, 3) := by decide +kernel
theorem dX14_write_50 : decode cX14_write 50 = .ok (.ireturn, 1) := by decide +kernel
def yX14_init : MethodName := ⟨RX14, "<init>", "()V"⟩
abbrev cX14_init : ByteArray := prog_15_method_1_code
theorem dX14_init_0 : decode cX14_init 0 = .ok (.aload_n 0, 1) := by decide +kernel
theorem dX14_init_1 : decode cX14_init 1 = .ok (.invokespecial 3, 3) := by decide +kernel
theorem dX14_init_4 : decode cX14_init 4 = .ok (.aload_n 0, 1) := by decide +kernel
theorem dX14_init_5 : decode cX14_init 5 = .ok (.bipush 12, 2) := by decide +kernel
theorem dX14_init_7 : decode cX14_init 7 = .ok (.anewarray 9, 3) := by decide +kernel
theorem dX14_init_10 : decode cX14_init 10 = .ok (.putfield 11, 3) := by decide +kernel
theorem dX14_init_13 : decode cX14_init 13 = .ok (.aload_n 0, 1) := by decide +kernel
theorem dX14_init_14 : decode cX14_init 14 = .ok (.sipush 16000, 3) := by decide +kernel
theorem dX14_init_17 : decode cX14_init 17 = .ok (.newarray .byte, 2) := by decide +kernel
theorem dX14_init_19 : decode cX14_init 19 = .ok (.putfield 15, 3) := by decide +kernel
theorem dX14_init_22 : decode cX14_init 22 = .ok (.aload_n 0, 1) := by decide +kernel
theorem dX14_init_23 : decode cX14_init 23 = .ok (.new 19, 3) := by decide +kernel
theorem dX14_init_26 : decode cX14_init 26 = .ok (.dup, 1) := by decide +kernel
theorem dX14_init_27 : decode cX14_init 27 = .ok (.invokespecial 21, 3) := by decide +kernel
theorem dX14_init_30 : decode cX14_init 30 = .ok (.putfield 22, 3) := by decide +kernel
theorem dX14_init_33 : decode cX14_init 33 = .ok (.aload_n 0, 1) := by decide +kernel
theorem dX14_init_34 : decode cX14_init 34 = .ok (.iconst (-1), 1) := by decide +kernel
theorem dX14_init_35 : decode cX14_init 35 = .ok (.putfield 26, 3) := by decide +kernel
theorem dX14_init_38 : decode cX14_init 38 = .ok (.aload_n 0, 1) := by decide +kernel
theorem dX14_init_39 : decode cX14_init 39 = .ok (.sipush 502, 3) := by decide +kernel
theorem dX14_init_42 : decode cX14_init 42 = .ok (.newarray .int, 2) := by decide +kernel
theorem dX14_init_44 : decode cX14_init 44 = .ok (.putfield 30, 3) := by decide +kernel
theorem dX14_init_47 : decode cX14_init 47 = .ok (.aload_n 0, 1) := by decide +kernel
theorem dX14_init_48 : decode cX14_init 48 = .ok (.sipush 502, 3) := by decide +kernel
theorem dX14_init_51 : decode cX14_init 51 = .ok (.newarray .int, 2) := by decide +kernel
theorem dX14_init_53 : decode cX14_init 53 = .ok (.putfield 34, 3) := by decide +kernel
theorem dX14_init_56 : decode cX14_init 56 = .ok (.aload_n 0, 1) := by decide +kernel
theorem dX14_init_57 : decode cX14_init 57 = .ok (.sipush 502, 3) := by decide +kernel
theorem dX14_init_60 : decode cX14_init 60 = .ok (.newarray .int, 2) := by decide +kernel
theorem dX14_init_62 : decode cX14_init 62 = .ok (.putfield 37, 3) := by decide +kernel
theorem dX14_init_65 : decode cX14_init 65 = .ok (.aload_n 0, 1) := by decide +kernel
theorem dX14_init_66 : decode cX14_init 66 = .ok (.sipush 502, 3) := by decide +kernel
theorem dX14_init_69 : decode cX14_init 69 = .ok (.newarray .int, 2) := by decide +kernel
theorem dX14_init_71 : decode cX14_init 71 = .ok (.putfield 40, 3) := by decide +kernel
theorem dX14_init_74 : decode cX14_init 74 = .ok (.aload_n 0, 1) := by decide +kernel
theorem dX14_init_75 : decode cX14_init 75 = .ok (.sipush 502, 3) := by decide +kernel
theorem dX14_init_78 : decode cX14_init 78 = .ok (.newarray .long, 2) := by decide +kernel
theorem dX14_init_80 : decode cX14_init 80 = .ok (.putfield 43, 3) := by decide +kernel
theorem dX14_init_83 : decode cX14_init 83 = .ok (.aload_n 0, 1) := by decide +kernel
theorem dX14_init_84 : decode cX14_init 84 = .ok (.bipush 48, 2) := by decide +kernel
theorem dX14_init_86 : decode cX14_init 86 = .ok (.newarray .int, 2) := by decide +kernel
theorem dX14_init_88 : decode cX14_init 88 = .ok (.putfield 47, 3) := by decide +kernel
theorem dX14_init_91 : decode cX14_init 91 = .ok (.aload_n 0, 1) := by decide +kernel
theorem dX14_init_92 : decode cX14_init 92 = .ok (.sipush 3000, 3) := by decide +kernel
theorem dX14_init_95 : decode cX14_init 95 = .ok (.newarray .int, 2) := by decide +kernel
theorem dX14_init_97 : decode cX14_init 97 = .ok (.putfield 50, 3) := by decide +kernel
theorem dX14_init_100 : decode cX14_init 100 = .ok (.aload_n 0, 1) := by decide +kernel
theorem dX14_init_101 : decode cX14_init 101 = .ok (.sipush 3000, 3) := by decide +kernel
theorem dX14_init_104 : decode cX14_init 104 = .ok (.newarray .int, 2) := by decide +kernel
theorem dX14_init_106 : decode cX14_init 106 = .ok (.putfield 53, 3) := by decide +kernel
theorem dX14_init_109 : decode cX14_init 109 = .ok (.aload_n 0, 1) := by decide +kernel
theorem dX14_init_110 : decode cX14_init 110 = .ok (.bipush 24, 2) := by decide +kernel
theorem dX14_init_112 : decode cX14_init 112 = .ok (.newarray .int, 2) := by decide +kernel
theorem dX14_init_114 : decode cX14_init 114 = .ok (.putfield 56, 3) := by decide +kernel
theorem dX14_init_117 : decode cX14_init 117 = .ok (.aload_n 0, 1) := by decide +kernel
theorem dX14_init_118 : decode cX14_init 118 = .ok (.bipush 24, 2) := by decide +kernel
theorem dX14_init_120 : decode cX14_init 120 = .ok (.newarray .int, 2) := by decide +kernel
theorem dX14_init_122 : decode cX14_init 122 = .ok (.putfield 59, 3) := by decide +kernel
theorem dX14_init_125 : decode cX14_init 125 = .ok (.aload_n 0, 1) := by decide +kernel
theorem dX14_init_126 : decode cX14_init 126 = .ok (.bipush 24, 2) := by decide +kernel
theorem dX14_init_128 : decode cX14_init 128 = .ok (.newarray .int, 2) := by decide +kernel
theorem dX14_init_130 : decode cX14_init 130 = .ok (.putfield 62, 3) := by decide +kernel
theorem dX14_init_133 : decode cX14_init 133 = .ok (.aload_n 0, 1) := by decide +kernel
theorem dX14_init_134 : decode cX14_init 134 = .ok (.bipush 24, 2) := by decide +kernel
theorem dX14_init_136 : decode cX14_init 136 = .ok (.newarray .int, 2) := by decide +kernel
theorem dX14_init_138 : decode cX14_init 138 = .ok (.putfield 65, 3) := by decide +kernel
theorem dX14_init_141 : decode cX14_init 141 = .ok (.aload_n 0, 1) := by decide +kernel
theorem dX14_init_142 : decode cX14_init 142 = .ok (.bipush 24, 2) := by decide +kernel
theorem dX14_init_144 : decode cX14_init 144 = .ok (.newarray .int, 2) := by decide +kernel
theorem dX14_init_146 : decode cX14_init 146 = .ok (.putfield 68, 3) := by decide +kernel
theorem dX14_init_149 : decode cX14_init 149 = .ok (.aload_n 0, 1) := by decide +kernel
theorem dX14_init_150 : decode cX14_init 150 = .ok (.bipush 24, 2) := by decide +kernel
theorem dX14_init_152 : decode cX14_init 152 = .ok (.newarray .int, 2) := by decide +kernel
theorem dX14_init_154 : decode cX14_init 154 = .ok (.putfield 71, 3) := by decide +kernel
theorem dX14_init_157 : decode cX14_init 157 = .ok (.aload_n 0, 1) := by decide +kernel
theorem dX14_init_158 : decode cX14_init 158 = .ok (.sipush 1201, 3) := by decide +kernel
theorem dX14_init_161 : decode cX14_init 161 = .ok (.newarray .int, 2) := by decide +kernel
theorem dX14_init_163 : decode cX14_init 163 = .ok (.putfield 74, 3) := by decide +kernel
theorem dX14_init_166 : decode cX14_init 166 = .ok (.aload_n 0, 1) := by decide +kernel
theorem dX14_init_167 : decode cX14_init 167 = .ok (.ldc 77, 2) := by decide +kernel
theorem dX14_init_169 : decode cX14_init 169 = .ok (.newarray .int, 2) := by decide +kernel
theorem dX14_init_171 : decode cX14_init 171 = .ok (.putfield 78, 3) := by decide +kernel
theorem dX14_init_174 : decode cX14_init 174 = .ok (.aload_n 0, 1) := by decide +kernel
theorem dX14_init_175 : decode cX14_init 175 = .ok (.ldc 81, 2) := by decide +kernel
theorem dX14_init_177 : decode cX14_init 177 = .ok (.newarray .int, 2) := by decide +kernel
theorem dX14_init_179 : decode cX14_init 179 = .ok (.putfield 82, 3) := by decide +kernel
theorem dX14_init_182 : decode cX14_init 182 = .ok (.aload_n 0, 1) := by decide +kernel
theorem dX14_init_183 : decode cX14_init 183 = .ok (.sipush 1536, 3) := by decide +kernel
theorem dX14_init_186 : decode cX14_init 186 = .ok (.newarray .int, 2) := by decide +kernel
theorem dX14_init_188 : decode cX14_init 188 = .ok (.putfield 85, 3) := by decide +kernel
theorem dX14_init_191 : decode cX14_init 191 = .ok (.aload_n 0, 1) := by decide +kernel
theorem dX14_init_192 : decode cX14_init 192 = .ok (.sipush 9600, 3) := by decide +kernel
theorem dX14_init_195 : decode cX14_init 195 = .ok (.newarray .int, 2) := by decide +kernel
theorem dX14_init_197 : decode cX14_init 197 = .ok (.putfield 88, 3) := by decide +kernel
theorem dX14_init_200 : decode cX14_init 200 = .ok (.aload_n 0, 1) := by decide +kernel
theorem dX14_init_201 : decode cX14_init 201 = .ok (.ldc 91, 2) := by decide +kernel
theorem dX14_init_203 : decode cX14_init 203 = .ok (.newarray .byte, 2) := by decide +kernel
theorem dX14_init_205 : decode cX14_init 205 = .ok (.putfield 92, 3) := by decide +kernel
theorem dX14_init_208 : decode cX14_init 208 = .ok (.aload_n 0, 1) := by decide +kernel
theorem dX14_init_209 : decode cX14_init 209 = .ok (.sipush 1200, 3) := by decide +kernel
theorem dX14_init_212 : decode cX14_init 212 = .ok (.newarray .boolean, 2) := by decide +kernel
theorem dX14_init_214 : decode cX14_init 214 = .ok (.putfield 95, 3) := by decide +kernel
theorem dX14_init_217 : decode cX14_init 217 = .ok (.aload_n 0, 1) := by decide +kernel
theorem dX14_init_218 : decode cX14_init 218 = .ok (.bipush 24, 2) := by decide +kernel
theorem dX14_init_220 : decode cX14_init 220 = .ok (.newarray .byte, 2) := by decide +kernel
theorem dX14_init_222 : decode cX14_init 222 = .ok (.putfield 99, 3) := by decide +kernel
theorem dX14_init_225 : decode cX14_init 225 = .ok (.aload_n 0, 1) := by decide +kernel
theorem dX14_init_226 : decode cX14_init 226 = .ok (.bipush 28, 2) := by decide +kernel
theorem dX14_init_228 : decode cX14_init 228 = .ok (.newarray .byte, 2) := by decide +kernel
theorem dX14_init_230 : decode cX14_init 230 = .ok (.putfield 102, 3) := by decide +kernel
theorem dX14_init_233 : decode cX14_init 233 = .ok (.aload_n 0, 1) := by decide +kernel
theorem dX14_init_234 : decode cX14_init 234 = .ok (.iconst (-1), 1) := by decide +kernel
theorem dX14_init_235 : decode cX14_init 235 = .ok (.putfield 105, 3) := by decide +kernel
theorem dX14_init_238 : decode cX14_init 238 = .ok (.aload_n 0, 1) := by decide +kernel
theorem dX14_init_239 : decode cX14_init 239 = .ok (.iconst (-1), 1) := by decide +kernel
theorem dX14_init_240 : decode cX14_init 240 = .ok (.putfield 108, 3) := by decide +kernel
theorem dX14_init_243 : decode cX14_init 243 = .ok (.aload_n 0, 1) := by decide +kernel
theorem dX14_init_244 : decode cX14_init 244 = .ok (.ldc 111, 2) := by decide +kernel
theorem dX14_init_246 : decode cX14_init 246 = .ok (.newarray .int, 2) := by decide +kernel
theorem dX14_init_248 : decode cX14_init 248 = .ok (.putfield 112, 3) := by decide +kernel
theorem dX14_init_251 : decode cX14_init 251 = .ok (.aload_n 0, 1) := by decide +kernel
theorem dX14_init_252 : decode cX14_init 252 = .ok (.sipush 700, 3) := by decide +kernel
theorem dX14_init_255 : decode cX14_init 255 = .ok (.newarray .int, 2) := by decide +kernel
theorem dX14_init_257 : decode cX14_init 257 = .ok (.putfield 115, 3) := by decide +kernel
theorem dX14_init_260 : decode cX14_init 260 = .ok (.aload_n 0, 1) := by decide +kernel
theorem dX14_init_261 : decode cX14_init 261 = .ok (.sipush 700, 3) := by decide +kernel
theorem dX14_init_264 : decode cX14_init 264 = .ok (.newarray .int, 2) := by decide +kernel
theorem dX14_init_266 : decode cX14_init 266 = .ok (.putfield 118, 3) := by decide +kernel
theorem dX14_init_269 : decode cX14_init 269 = .ok (.aload_n 0, 1) := by decide +kernel
theorem dX14_init_270 : decode cX14_init 270 = .ok (.sipush 700, 3) := by decide +kernel
theorem dX14_init_273 : decode cX14_init 273 = .ok (.newarray .int, 2) := by decide +kernel
theorem dX14_init_275 : decode cX14_init 275 = .ok (.putfield 121, 3) := by decide +kernel
theorem dX14_init_278 : decode cX14_init 278 = .ok (.aload_n 0, 1) := by decide +kernel
theorem dX14_init_279 : decode cX14_init 279 = .ok (.sipush 700, 3) := by decide +kernel
theorem dX14_init_282 : decode cX14_init 282 = .ok (.newarray .int, 2) := by decide +kernel
theorem dX14_init_284 : decode cX14_init 284 = .ok (.putfield 124, 3) := by decide +kernel
theorem dX14_init_287 : decode cX14_init 287 = .ok (.aload_n 0, 1) := by decide +kernel
theorem dX14_init_288 : decode cX14_init 288 = .ok (.sipush 700, 3) := by decide +kernel
theorem dX14_init_291 : decode cX14_init 291 = .ok (.newarray .long, 2) := by decide +kernel
theorem dX14_init_293 : decode cX14_init 293 = .ok (.putfield 127, 3) := by decide +kernel
theorem dX14_init_296 : decode cX14_init 296 = .ok (.aload_n 0, 1) := by decide +kernel
theorem dX14_init_297 : decode cX14_init 297 = .ok (.sipush 700, 3) := by decide +kernel
theorem dX14_init_300 : decode cX14_init 300 = .ok (.anewarray 130, 3) := by decide +kernel
theorem dX14_init_303 : decode cX14_init 303 = .ok (.putfield 132, 3) := by decide +kernel
theorem dX14_init_306 : decode cX14_init 306 = .ok (.aload_n 0, 1) := by decide +kernel
theorem dX14_init_307 : decode cX14_init 307 = .ok (.ldc 136, 2) := by decide +kernel
theorem dX14_init_309 : decode cX14_init 309 = .ok (.newarray .byte, 2) := by decide +kernel
theorem dX14_init_311 : decode cX14_init 311 = .ok (.putfield 137, 3) := by decide +kernel
theorem dX14_init_314 : decode cX14_init 314 = .ok (.aload_n 0, 1) := by decide +kernel
theorem dX14_init_315 : decode cX14_init 315 = .ok (.ldc 136, 2) := by decide +kernel
theorem dX14_init_317 : decode cX14_init 317 = .ok (.newarray .byte, 2) := by decide +kernel
theorem dX14_init_319 : decode cX14_init 319 = .ok (.putfield 140, 3) := by decide +kernel
theorem dX14_init_322 : decode cX14_init 322 = .ok (.aload_n 0, 1) := by decide +kernel
theorem dX14_init_323 : decode cX14_init 323 = .ok (.sipush 1297, 3) := by decide +kernel
theorem dX14_init_326 : decode cX14_init 326 = .ok (.newarray .int, 2) := by decide +kernel
theorem dX14_init_328 : decode cX14_init 328 = .ok (.putfield 143, 3) := by decide +kernel
theorem dX14_init_331 : decode cX14_init 331 = .ok (.aload_n 0, 1) := by decide +kernel
theorem dX14_init_332 : decode cX14_init 332 = .ok (.bipush 24, 2) := by decide +kernel
theorem dX14_init_334 : decode cX14_init 334 = .ok (.newarray .long, 2) := by decide +kernel
theorem dX14_init_336 : decode cX14_init 336 = .ok (.putfield 146, 3) := by decide +kernel
theorem dX14_init_339 : decode cX14_init 339 = .ok (.aload_n 0, 1) := by decide +kernel
theorem dX14_init_340 : decode cX14_init 340 = .ok (.sipush 20000, 3) := by decide +kernel
theorem dX14_init_343 : decode cX14_init 343 = .ok (.newarray .int, 2) := by decide +kernel
theorem dX14_init_345 : decode cX14_init 345 = .ok (.putfield 149, 3) := by decide +kernel
theorem dX14_init_348 : decode cX14_init 348 = .ok (.aload_n 0, 1) := by decide +kernel
theorem dX14_init_349 : decode cX14_init 349 = .ok (.sipush 401, 3) := by decide +kernel
theorem dX14_init_352 : decode cX14_init 352 = .ok (.newarray .int, 2) := by decide +kernel
theorem dX14_init_354 : decode cX14_init 354 = .ok (.putfield 152, 3) := by decide +kernel
theorem dX14_init_357 : decode cX14_init 357 = .ok (.aload_n 0, 1) := by decide +kernel
theorem dX14_init_358 : decode cX14_init 358 = .ok (.sipush 401, 3) := by decide +kernel
theorem dX14_init_361 : decode cX14_init 361 = .ok (.newarray .int, 2) := by decide +kernel
theorem dX14_init_363 : decode cX14_init 363 = .ok (.putfield 155, 3) := by decide +kernel
theorem dX14_init_366 : decode cX14_init 366 = .ok (.aload_n 0, 1) := by decide +kernel
theorem dX14_init_367 : decode cX14_init 367 = .ok (.bipush 8, 2) := by decide +kernel
theorem dX14_init_369 : decode cX14_init 369 = .ok (.newarray .long, 2) := by decide +kernel
theorem dX14_init_371 : decode cX14_init 371 = .ok (.putfield 158, 3) := by decide +kernel
theorem dX14_init_374 : decode cX14_init 374 = .ok (.aload_n 0, 1) := by decide +kernel
theorem dX14_init_375 : decode cX14_init 375 = .ok (.bipush 60, 2) := by decide +kernel
theorem dX14_init_377 : decode cX14_init 377 = .ok (.newarray .int, 2) := by decide +kernel
theorem dX14_init_379 : decode cX14_init 379 = .ok (.putfield 161, 3) := by decide +kernel
theorem dX14_init_382 : decode cX14_init 382 = .ok (.aload_n 0, 1) := by decide +kernel
theorem dX14_init_383 : decode cX14_init 383 = .ok (.bipush 60, 2) := by decide +kernel
theorem dX14_init_385 : decode cX14_init 385 = .ok (.newarray .int, 2) := by decide +kernel
theorem dX14_init_387 : decode cX14_init 387 = .ok (.putfield 164, 3) := by decide +kernel
theorem dX14_init_390 : decode cX14_init 390 = .ok (.aload_n 0, 1) := by decide +kernel
theorem dX14_init_391 : decode cX14_init 391 = .ok (.bipush 60, 2) := by decide +kernel
theorem dX14_init_393 : decode cX14_init 393 = .ok (.newarray .int, 2) := by decide +kernel
theorem dX14_init_395 : decode cX14_init 395 = .ok (.putfield 167, 3) := by decide +kernel
theorem dX14_init_398 : decode cX14_init 398 = .ok (.aload_n 0, 1) := by decide +kernel
theorem dX14_init_399 : decode cX14_init 399 = .ok (.sipush 1440, 3) := by decide +kernel
theorem dX14_init_402 : decode cX14_init 402 = .ok (.newarray .long, 2) := by decide +kernel
theorem dX14_init_404 : decode cX14_init 404 = .ok (.putfield 170, 3) := by decide +kernel
theorem dX14_init_407 : decode cX14_init 407 = .ok (.aload_n 0, 1) := by decide +kernel
theorem dX14_init_408 : decode cX14_init 408 = .ok (.sipush 1440, 3) := by decide +kernel
theorem dX14_init_411 : decode cX14_init 411 = .ok (.newarray .long, 2) := by decide +kernel
theorem dX14_init_413 : decode cX14_init 413 = .ok (.putfield 173, 3) := by decide +kernel
theorem dX14_init_416 : decode cX14_init 416 = .ok (.aload_n 0, 1) := by decide +kernel
theorem dX14_init_417 : decode cX14_init 417 = .ok (.sipush 1440, 3) := by decide +kernel
theorem dX14_init_420 : decode cX14_init 420 = .ok (.newarray .byte, 2) := by decide +kernel
theorem dX14_init_422 : decode cX14_init 422 = .ok (.putfield 176, 3) := by decide +kernel
theorem dX14_init_425 : decode cX14_init 425 = .ok (.aload_n 0, 1) := by decide +kernel
theorem dX14_init_426 : decode cX14_init 426 = .ok (.sipush 1440, 3) := by decide +kernel
theorem dX14_init_429 : decode cX14_init 429 = .ok (.newarray .byte, 2) := by decide +kernel
theorem dX14_init_431 : decode cX14_init 431 = .ok (.putfield 179, 3) := by decide +kernel
theorem dX14_init_434 : decode cX14_init 434 = .ok (.aload_n 0, 1) := by decide +kernel
theorem dX14_init_435 : decode cX14_init 435 = .ok (.iconst (-1), 1) := by decide +kernel
theorem dX14_init_436 : decode cX14_init 436 = .ok (.putfield 182, 3) := by decide +kernel
theorem dX14_init_439 : decode cX14_init 439 = .ok (.aload_n 0, 1) := by decide +kernel
theorem dX14_init_440 : decode cX14_init 440 = .ok (.sipush 1201, 3) := by decide +kernel
theorem dX14_init_443 : decode cX14_init 443 = .ok (.newarray .int, 2) := by decide +kernel
theorem dX14_init_445 : decode cX14_init 445 = .ok (.putfield 185, 3) := by decide +kernel
theorem dX14_init_448 : decode cX14_init 448 = .ok (.aload_n 0, 1) := by decide +kernel
theorem dX14_init_449 : decode cX14_init 449 = .ok (.sipush 1201, 3) := by decide +kernel
theorem dX14_init_452 : decode cX14_init 452 = .ok (.newarray .int, 2) := by decide +kernel
theorem dX14_init_454 : decode cX14_init 454 = .ok (.putfield 188, 3) := by decide +kernel
theorem dX14_init_457 : decode cX14_init 457 = .ok (.aload_n 0, 1) := by decide +kernel
theorem dX14_init_458 : decode cX14_init 458 = .ok (.iconst (-1), 1) := by decide +kernel
theorem dX14_init_459 : decode cX14_init 459 = .ok (.putfield 191, 3) := by decide +kernel
theorem dX14_init_462 : decode cX14_init 462 = .ok (.aload_n 0, 1) := by decide +kernel
theorem dX14_init_463 : decode cX14_init 463 = .ok (.sipush 1202, 3) := by decide +kernel
theorem dX14_init_466 : decode cX14_init 466 = .ok (.newarray .int, 2) := by decide +kernel
theorem dX14_init_468 : decode cX14_init 468 = .ok (.putfield 194, 3) := by decide +kernel
theorem dX14_init_471 : decode cX14_init 471 = .ok (.aload_n 0, 1) := by decide +kernel
theorem dX14_init_472 : decode cX14_init 472 = .ok (.sipush 24000, 3) := by decide +kernel
theorem dX14_init_475 : decode cX14_init 475 = .ok (.newarray .int, 2) := by decide +kernel
theorem dX14_init_477 : decode cX14_init 477 = .ok (.putfield 197, 3) := by decide +kernel
theorem dX14_init_480 : decode cX14_init 480 = .ok (.aload_n 0, 1) := by decide +kernel
theorem dX14_init_481 : decode cX14_init 481 = .ok (.sipush 1200, 3) := by decide +kernel
theorem dX14_init_484 : decode cX14_init 484 = .ok (.newarray .boolean, 2) := by decide +kernel
theorem dX14_init_486 : decode cX14_init 486 = .ok (.putfield 200, 3) := by decide +kernel
theorem dX14_init_489 : decode cX14_init 489 = .ok (.aload_n 0, 1) := by decide +kernel
theorem dX14_init_490 : decode cX14_init 490 = .ok (.ldc 203, 2) := by decide +kernel
theorem dX14_init_492 : decode cX14_init 492 = .ok (.newarray .int, 2) := by decide +kernel
theorem dX14_init_494 : decode cX14_init 494 = .ok (.putfield 204, 3) := by decide +kernel
theorem dX14_init_497 : decode cX14_init 497 = .ok (.aload_n 0, 1) := by decide +kernel
theorem dX14_init_498 : decode cX14_init 498 = .ok (.sipush 1200, 3) := by decide +kernel
theorem dX14_init_501 : decode cX14_init 501 = .ok (.newarray .int, 2) := by decide +kernel
theorem dX14_init_503 : decode cX14_init 503 = .ok (.putfield 207, 3) := by decide +kernel
theorem dX14_init_506 : decode cX14_init 506 = .ok (.aload_n 0, 1) := by decide +kernel
theorem dX14_init_507 : decode cX14_init 507 = .ok (.sipush 1200, 3) := by decide +kernel
theorem dX14_init_510 : decode cX14_init 510 = .ok (.newarray .boolean, 2) := by decide +kernel
theorem dX14_init_512 : decode cX14_init 512 = .ok (.putfield 210, 3) := by decide +kernel
theorem dX14_init_515 : decode cX14_init 515 = .ok (.aload_n 0, 1) := by decide +kernel
theorem dX14_init_516 : decode cX14_init 516 = .ok (.sipush 1200, 3) := by decide +kernel
theorem dX14_init_519 : decode cX14_init 519 = .ok (.newarray .int, 2) := by decide +kernel
theorem dX14_init_521 : decode cX14_init 521 = .ok (.putfield 213, 3) := by decide +kernel
theorem dX14_init_524 : decode cX14_init 524 = .ok (.aload_n 0, 1) := by decide +kernel
theorem dX14_init_525 : decode cX14_init 525 = .ok (.sipush 1200, 3) := by decide +kernel
theorem dX14_init_528 : decode cX14_init 528 = .ok (.newarray .boolean, 2) := by decide +kernel
theorem dX14_init_530 : decode cX14_init 530 = .ok (.putfield 216, 3) := by decide +kernel
theorem dX14_init_533 : decode cX14_init 533 = .ok (.aload_n 0, 1) := by decide +kernel
theorem dX14_init_534 : decode cX14_init 534 = .ok (.sipush 1200, 3) := by decide +kernel
theorem dX14_init_537 : decode cX14_init 537 = .ok (.newarray .int, 2) := by decide +kernel
theorem dX14_init_539 : decode cX14_init 539 = .ok (.putfield 219, 3) := by decide +kernel
theorem dX14_init_542 : decode cX14_init 542 = .ok (.aload_n 0, 1) := by decide +kernel
theorem dX14_init_543 : decode cX14_init 543 = .ok (.new 9, 3) := by decide +kernel
theorem dX14_init_546 : decode cX14_init 546 = .ok (.dup, 1) := by decide +kernel
theorem dX14_init_547 : decode cX14_init 547 = .ok (.invokespecial 222, 3) := by decide +kernel
theorem dX14_init_550 : decode cX14_init 550 = .ok (.putfield 223, 3) := by decide +kernel
theorem dX14_init_553 : decode cX14_init 553 = .ok (.aload_n 0, 1) := by decide +kernel
theorem dX14_init_554 : decode cX14_init 554 = .ok (.ldc 227, 2) := by decide +kernel
theorem dX14_init_556 : decode cX14_init 556 = .ok (.newarray .int, 2) := by decide +kernel
theorem dX14_init_558 : decode cX14_init 558 = .ok (.putfield 228, 3) := by decide +kernel
theorem dX14_init_561 : decode cX14_init 561 = .ok (.aload_n 0, 1) := by decide +kernel
theorem dX14_init_562 : decode cX14_init 562 = .ok (.ldc 81, 2) := by decide +kernel
theorem dX14_init_564 : decode cX14_init 564 = .ok (.newarray .int, 2) := by decide +kernel
theorem dX14_init_566 : decode cX14_init 566 = .ok (.putfield 231, 3) := by decide +kernel
theorem dX14_init_569 : decode cX14_init 569 = .ok (.aload_n 0, 1) := by decide +kernel
theorem dX14_init_570 : decode cX14_init 570 = .ok (.sipush 1536, 3) := by decide +kernel
theorem dX14_init_573 : decode cX14_init 573 = .ok (.newarray .int, 2) := by decide +kernel
theorem dX14_init_575 : decode cX14_init 575 = .ok (.putfield 234, 3) := by decide +kernel
theorem dX14_init_578 : decode cX14_init 578 = .ok (.aload_n 0, 1) := by decide +kernel
theorem dX14_init_579 : decode cX14_init 579 = .ok (.bipush 12, 2) := by decide +kernel
theorem dX14_init_581 : decode cX14_init 581 = .ok (.newarray .int, 2) := by decide +kernel
theorem dX14_init_583 : decode cX14_init 583 = .ok (.putfield 237, 3) := by decide +kernel
theorem dX14_init_586 : decode cX14_init 586 = .ok (.aload_n 0, 1) := by decide +kernel
theorem dX14_init_587 : decode cX14_init 587 = .ok (.sipush 1200, 3) := by decide +kernel
theorem dX14_init_590 : decode cX14_init 590 = .ok (.newarray .int, 2) := by decide +kernel
theorem dX14_init_592 : decode cX14_init 592 = .ok (.putfield 240, 3) := by decide +kernel
theorem dX14_init_595 : decode cX14_init 595 = .ok (.aload_n 0, 1) := by decide +kernel
theorem dX14_init_596 : decode cX14_init 596 = .ok (.sipush 1200, 3) := by decide +kernel
theorem dX14_init_599 : decode cX14_init 599 = .ok (.newarray .int, 2) := by decide +kernel
theorem dX14_init_601 : decode cX14_init 601 = .ok (.putfield 243, 3) := by decide +kernel
theorem dX14_init_604 : decode cX14_init 604 = .ok (.aload_n 0, 1) := by decide +kernel
theorem dX14_init_605 : decode cX14_init 605 = .ok (.sipush 1200, 3) := by decide +kernel
theorem dX14_init_608 : decode cX14_init 608 = .ok (.newarray .int, 2) := by decide +kernel
theorem dX14_init_610 : decode cX14_init 610 = .ok (.putfield 246, 3) := by decide +kernel
theorem dX14_init_613 : decode cX14_init 613 = .ok (.aload_n 0, 1) := by decide +kernel
theorem dX14_init_614 : decode cX14_init 614 = .ok (.sipush 1200, 3) := by decide +kernel
theorem dX14_init_617 : decode cX14_init 617 = .ok (.newarray .boolean, 2) := by decide +kernel
theorem dX14_init_619 : decode cX14_init 619 = .ok (.putfield 249, 3) := by decide +kernel
theorem dX14_init_622 : decode cX14_init 622 = .ok (.aload_n 0, 1) := by decide +kernel
theorem dX14_init_623 : decode cX14_init 623 = .ok (.bipush 16, 2) := by decide +kernel
theorem dX14_init_625 : decode cX14_init 625 = .ok (.newarray .int, 2) := by decide +kernel
theorem dX14_init_627 : decode cX14_init 627 = .ok (.putfield 252, 3) := by decide +kernel
theorem dX14_init_630 : decode cX14_init 630 = .ok (.aload_n 0, 1) := by decide +kernel
theorem dX14_init_631 : decode cX14_init 631 = .ok (.bipush 16, 2) := by decide +kernel
theorem dX14_init_633 : decode cX14_init 633 = .ok (.newarray .int, 2) := by decide +kernel
theorem dX14_init_635 : decode cX14_init 635 = .ok (.putfield 255, 3) := by decide +kernel
theorem dX14_init_638 : decode cX14_init 638 = .ok (.aload_n 0, 1) := by decide +kernel
theorem dX14_init_639 : decode cX14_init 639 = .ok (.bipush 16, 2) := by decide +kernel
theorem dX14_init_641 : decode cX14_init 641 = .ok (.newarray .int, 2) := by decide +kernel
theorem dX14_init_643 : decode cX14_init 643 = .ok (.putfield 258, 3) := by decide +kernel
theorem dX14_init_646 : decode cX14_init 646 = .ok (.aload_n 0, 1) := by decide +kernel
theorem dX14_init_647 : decode cX14_init 647 = .ok (.bipush 16, 2) := by decide +kernel
theorem dX14_init_649 : decode cX14_init 649 = .ok (.newarray .int, 2) := by decide +kernel
theorem dX14_init_651 : decode cX14_init 651 = .ok (.putfield 261, 3) := by decide +kernel
theorem dX14_init_654 : decode cX14_init 654 = .ok (.aload_n 0, 1) := by decide +kernel
theorem dX14_init_655 : decode cX14_init 655 = .ok (.bipush 16, 2) := by decide +kernel
theorem dX14_init_657 : decode cX14_init 657 = .ok (.newarray .boolean, 2) := by decide +kernel
theorem dX14_init_659 : decode cX14_init 659 = .ok (.putfield 264, 3) := by decide +kernel
theorem dX14_init_662 : decode cX14_init 662 = .ok (.aload_n 0, 1) := by decide +kernel
theorem dX14_init_663 : decode cX14_init 663 = .ok (.sipush 1201, 3) := by decide +kernel
theorem dX14_init_666 : decode cX14_init 666 = .ok (.newarray .boolean, 2) := by decide +kernel
theorem dX14_init_668 : decode cX14_init 668 = .ok (.putfield 267, 3) := by decide +kernel
theorem dX14_init_671 : decode cX14_init 671 = .ok (.aload_n 0, 1) := by decide +kernel
theorem dX14_init_672 : decode cX14_init 672 = .ok (.sipush 1200, 3) := by decide +kernel
theorem dX14_init_675 : decode cX14_init 675 = .ok (.newarray .boolean, 2) := by decide +kernel
theorem dX14_init_677 : decode cX14_init 677 = .ok (.putfield 270, 3) := by decide +kernel
theorem dX14_init_680 : decode cX14_init 680 = .ok (.aload_n 0, 1) := by decide +kernel
theorem dX14_init_681 : decode cX14_init 681 = .ok (.sipush 1200, 3) := by decide +kernel
theorem dX14_init_684 : decode cX14_init 684 = .ok (.newarray .int, 2) := by decide +kernel
theorem dX14_init_686 : decode cX14_init 686 = .ok (.putfield 273, 3) := by decide +kernel
theorem dX14_init_689 : decode cX14_init 689 = .ok (.aload_n 0, 1) := by decide +kernel
theorem dX14_init_690 : decode cX14_init 690 = .ok (.sipush 1200, 3) := by decide +kernel
theorem dX14_init_693 : decode cX14_init 693 = .ok (.newarray .int, 2) := by decide +kernel
theorem dX14_init_695 : decode cX14_init 695 = .ok (.putfield 276, 3) := by decide +kernel
theorem dX14_init_698 : decode cX14_init 698 = .ok (.aload_n 0, 1) := by decide +kernel
theorem dX14_init_699 : decode cX14_init 699 = .ok (.sipush 1201, 3) := by decide +kernel
theorem dX14_init_702 : decode cX14_init 702 = .ok (.newarray .int, 2) := by decide +kernel
theorem dX14_init_704 : decode cX14_init 704 = .ok (.putfield 279, 3) := by decide +kernel
theorem dX14_init_707 : decode cX14_init 707 = .ok (.aload_n 0, 1) := by decide +kernel
theorem dX14_init_708 : decode cX14_init 708 = .ok (.sipush 1200, 3) := by decide +kernel
theorem dX14_init_711 : decode cX14_init 711 = .ok (.newarray .int, 2) := by decide +kernel
theorem dX14_init_713 : decode cX14_init 713 = .ok (.putfield 282, 3) := by decide +kernel
theorem dX14_init_716 : decode cX14_init 716 = .ok (.return_, 1) := by decide +kernel

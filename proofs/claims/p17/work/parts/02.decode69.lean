theorem dX7_isMethodType_46 : decode cX7_isMethodType 46 = .ok (.ifCond .eq 66, 3) := by decide +kernel
theorem dX7_isMethodType_49 : decode cX7_isMethodType 49 = .ok (.iload_n 3, 1) := by decide +kernel
theorem dX7_isMethodType_50 : decode cX7_isMethodType 50 = .ok (.iload_n 2, 1) := by decide +kernel
theorem dX7_isMethodType_51 : decode cX7_isMethodType 51 = .ok (.if_icmp .ge 61, 3) := by decide +kernel
theorem dX7_isMethodType_54 : decode cX7_isMethodType 54 = .ok (.aload_n 0, 1) := by decide +kernel
theorem dX7_isMethodType_55 : decode cX7_isMethodType 55 = .ok (.aload_n 0, 1) := by decide +kernel
theorem dX7_isMethodType_56 : decode cX7_isMethodType 56 = .ok (.getfield 196, 3) := by decide +kernel
theorem dX7_isMethodType_59 : decode cX7_isMethodType 59 = .ok (.iconst 4, 1) := by decide +kernel
theorem dX7_isMethodType_60 : decode cX7_isMethodType 60 = .ok (.ishl, 1) := by decide +kernel
theorem dX7_isMethodType_61 : decode cX7_isMethodType 61 = .ok (.iload 4, 2) := by decide +kernel
theorem dX7_isMethodType_63 : decode cX7_isMethodType 63 = .ok (.ior, 1) := by decide +kernel
theorem dX7_isMethodType_64 : decode cX7_isMethodType 64 = .ok (.putfield 196, 3) := by decide +kernel
theorem dX7_isMethodType_67 : decode cX7_isMethodType 67 = .ok (.aload_n 0, 1) := by decide +kernel
theorem dX7_isMethodType_68 : decode cX7_isMethodType 68 = .ok (.dup, 1) := by decide +kernel
theorem dX7_isMethodType_69 : decode cX7_isMethodType 69 = .ok (.getfield 183, 3) := by decide +kernel
theorem dX7_isMethodType_72 : decode cX7_isMethodType 72 = .ok (.iload 4, 2) := by decide +kernel
theorem dX7_isMethodType_74 : decode cX7_isMethodType 74 = .ok (.iconst 2, 1) := by decide +kernel
theorem dX7_isMethodType_75 : decode cX7_isMethodType 75 = .ok (.if_icmp .ne 7, 3) := by decide +kernel
theorem dX7_isMethodType_78 : decode cX7_isMethodType 78 = .ok (.iconst 2, 1) := by decide +kernel
theorem dX7_isMethodType_79 : decode cX7_isMethodType 79 = .ok (.goto 4, 3) := by decide +kernel
theorem dX7_isMethodType_82 : decode cX7_isMethodType 82 = .ok (.iconst 1, 1) := by decide +kernel
theorem dX7_isMethodType_83 : decode cX7_isMethodType 83 = .ok (.iadd, 1) := by decide +kernel
theorem dX7_isMethodType_84 : decode cX7_isMethodType 84 = .ok (.putfield 183, 3) := by decide +kernel
theorem dX7_isMethodType_87 : decode cX7_isMethodType 87 = .ok (.iload_n 3, 1) := by decide +kernel
theorem dX7_isMethodType_88 : decode cX7_isMethodType 88 = .ok (.iload 4, 2) := by decide +kernel
theorem dX7_isMethodType_90 : decode cX7_isMethodType 90 = .ok (.iconst 3, 1) := by decide +kernel
theorem dX7_isMethodType_91 : decode cX7_isMethodType 91 = .ok (.if_icmp .ne 7, 3) := by decide +kernel
theorem dX7_isMethodType_94 : decode cX7_isMethodType 94 = .ok (.iconst 2, 1) := by decide +kernel
theorem dX7_isMethodType_95 : decode cX7_isMethodType 95 = .ok (.goto 4, 3) := by decide +kernel
theorem dX7_isMethodType_98 : decode cX7_isMethodType 98 = .ok (.iconst 1, 1) := by decide +kernel
theorem dX7_isMethodType_99 : decode cX7_isMethodType 99 = .ok (.iadd, 1) := by decide +kernel
theorem dX7_isMethodType_100 : decode cX7_isMethodType 100 = .ok (.istore_n 3, 1) := by decide +kernel
theorem dX7_isMethodType_101 : decode cX7_isMethodType 101 = .ok (.aload_n 0, 1) := by decide +kernel
theorem dX7_isMethodType_102 : decode cX7_isMethodType 102 = .ok (.iload_n 1, 1) := by decide +kernel
theorem dX7_isMethodType_103 : decode cX7_isMethodType 103 = .ok (.iload_n 3, 1) := by decide +kernel
theorem dX7_isMethodType_104 : decode cX7_isMethodType 104 = .ok (.invokevirtual 186, 3) := by decide +kernel
theorem dX7_isMethodType_107 : decode cX7_isMethodType 107 = .ok (.istore 4, 2) := by decide +kernel
theorem dX7_isMethodType_109 : decode cX7_isMethodType 109 = .ok (.goto (-65), 3) := by decide +kernel
theorem dX7_isMethodType_112 : decode cX7_isMethodType 112 = .ok (.iload_n 3, 1) := by decide +kernel
theorem dX7_isMethodType_113 : decode cX7_isMethodType 113 = .ok (.iconst 1, 1) := by decide +kernel
theorem dX7_isMethodType_114 : decode cX7_isMethodType 114 = .ok (.iadd, 1) := by decide +kernel
theorem dX7_isMethodType_115 : decode cX7_isMethodType 115 = .ok (.iload_n 2, 1) := by decide +kernel
theorem dX7_isMethodType_116 : decode cX7_isMethodType 116 = .ok (.if_icmp .ge 14, 3) := by decide +kernel
theorem dX7_isMethodType_119 : decode cX7_isMethodType 119 = .ok (.aload_n 0, 1) := by decide +kernel
theorem dX7_isMethodType_120 : decode cX7_isMethodType 120 = .ok (.iload_n 1, 1) := by decide +kernel
theorem dX7_isMethodType_121 : decode cX7_isMethodType 121 = .ok (.iload_n 3, 1) := by decide +kernel
theorem dX7_isMethodType_122 : decode cX7_isMethodType 122 = .ok (.invokevirtual 193, 3) := by decide +kernel
theorem dX7_isMethodType_125 : decode cX7_isMethodType 125 = .ok (.bipush 41, 2) := by decide +kernel
theorem dX7_isMethodType_127 : decode cX7_isMethodType 127 = .ok (.if_icmp .eq 5, 3) := by decide +kernel
theorem dX7_isMethodType_130 : decode cX7_isMethodType 130 = .ok (.iconst 0, 1) := by decide +kernel
theorem dX7_isMethodType_131 : decode cX7_isMethodType 131 = .ok (.ireturn, 1) := by decide +kernel
theorem dX7_isMethodType_132 : decode cX7_isMethodType 132 = .ok (.iinc 3 1, 3) := by decide +kernel
theorem dX7_isMethodType_135 : decode cX7_isMethodType 135 = .ok (.aload_n 0, 1) := by decide +kernel
theorem dX7_isMethodType_136 : decode cX7_isMethodType 136 = .ok (.aload_n 0, 1) := by decide +kernel
theorem dX7_isMethodType_137 : decode cX7_isMethodType 137 = .ok (.iload_n 1, 1) := by decide +kernel
theorem dX7_isMethodType_138 : decode cX7_isMethodType 138 = .ok (.iload_n 3, 1) := by decide +kernel
theorem dX7_isMethodType_139 : decode cX7_isMethodType 139 = .ok (.invokevirtual 186, 3) := by decide +kernel
theorem dX7_isMethodType_142 : decode cX7_isMethodType 142 = .ok (.putfield 199, 3) := by decide +kernel
theorem dX7_isMethodType_145 : decode cX7_isMethodType 145 = .ok (.aload_n 0, 1) := by decide +kernel
theorem dX7_isMethodType_146 : decode cX7_isMethodType 146 = .ok (.getfield 199, 3) := by decide +kernel
theorem dX7_isMethodType_149 : decode cX7_isMethodType 149 = .ok (.ifCond .ne 16, 3) := by decide +kernel
theorem dX7_isMethodType_152 : decode cX7_isMethodType 152 = .ok (.aload_n 0, 1) := by decide +kernel
theorem dX7_isMethodType_153 : decode cX7_isMethodType 153 = .ok (.iload_n 1, 1) := by decide +kernel
theorem dX7_isMethodType_154 : decode cX7_isMethodType 154 = .ok (.iload_n 3, 1) := by decide +kernel
theorem dX7_isMethodType_155 : decode cX7_isMethodType 155 = .ok (.invokevirtual 193, 3) := by decide +kernel
theorem dX7_isMethodType_158 : decode cX7_isMethodType 158 = .ok (.bipush 86, 2) := by decide +kernel
theorem dX7_isMethodType_160 : decode cX7_isMethodType 160 = .ok (.if_icmp .eq 5, 3) := by decide +kernel
theorem dX7_isMethodType_163 : decode cX7_isMethodType 163 = .ok (.iconst 0, 1) := by decide +kernel
theorem dX7_isMethodType_164 : decode cX7_isMethodType 164 = .ok (.ireturn, 1) := by decide +kernel
theorem dX7_isMethodType_165 : decode cX7_isMethodType 165 = .ok (.iload_n 3, 1) := by decide +kernel
theorem dX7_isMethodType_166 : decode cX7_isMethodType 166 = .ok (.aload_n 0, 1) := by decide +kernel
theorem dX7_isMethodType_167 : decode cX7_isMethodType 167 = .ok (.getfield 199, 3) := by decide +kernel
theorem dX7_isMethodType_170 : decode cX7_isMethodType 170 = .ok (.iconst 3, 1) := by decide +kernel
theorem dX7_isMethodType_171 : decode cX7_isMethodType 171 = .ok (.if_icmp .ne 7, 3) := by decide +kernel
theorem dX7_isMethodType_174 : decode cX7_isMethodType 174 = .ok (.iconst 2, 1) := by decide +kernel
theorem dX7_isMethodType_175 : decode cX7_isMethodType 175 = .ok (.goto 4, 3) := by decide +kernel
theorem dX7_isMethodType_178 : decode cX7_isMethodType 178 = .ok (.iconst 1, 1) := by decide +kernel
theorem dX7_isMethodType_179 : decode cX7_isMethodType 179 = .ok (.iadd, 1) := by decide +kernel
theorem dX7_isMethodType_180 : decode cX7_isMethodType 180 = .ok (.iload_n 2, 1) := by decide +kernel
theorem dX7_isMethodType_181 : decode cX7_isMethodType 181 = .ok (.if_icmp .ne 7, 3) := by decide +kernel
theorem dX7_isMethodType_184 : decode cX7_isMethodType 184 = .ok (.iconst 1, 1) := by decide +kernel
theorem dX7_isMethodType_185 : decode cX7_isMethodType 185 = .ok (.goto 4, 3) := by decide +kernel
theorem dX7_isMethodType_188 : decode cX7_isMethodType 188 = .ok (.iconst 0, 1) := by decide +kernel
theorem dX7_isMethodType_189 : decode cX7_isMethodType 189 = .ok (.ireturn, 1) := by decide +kernel
theorem dX7_isNameAt_0 : decode cX7_isNameAt 0 = .ok (.aload_n 0, 1) := by decide +kernel
theorem dX7_isNameAt_1 : decode cX7_isNameAt 1 = .ok (.aload_n 0, 1) := by decide +kernel
theorem dX7_isNameAt_2 : decode cX7_isNameAt 2 = .ok (.iload_n 1, 1) := by decide +kernel
theorem dX7_isNameAt_3 : decode cX7_isNameAt 3 = .ok (.invokevirtual 107, 3) := by decide +kernel
theorem dX7_isNameAt_6 : decode cX7_isNameAt 6 = .ok (.invokevirtual 156, 3) := by decide +kernel
theorem dX7_isNameAt_9 : decode cX7_isNameAt 9 = .ok (.iconst 1, 1) := by decide +kernel
theorem dX7_isNameAt_10 : decode cX7_isNameAt 10 = .ok (.if_icmp .eq 13, 3) := by decide +kernel
theorem dX7_isNameAt_13 : decode cX7_isNameAt 13 = .ok (.aload_n 0, 1) := by decide +kernel
theorem dX7_isNameAt_14 : decode cX7_isNameAt 14 = .ok (.bipush 9, 2) := by decide +kernel
theorem dX7_isNameAt_16 : decode cX7_isNameAt 16 = .ok (.iload_n 1, 1) := by decide +kernel
theorem dX7_isNameAt_17 : decode cX7_isNameAt 17 = .ok (.invokevirtual 87, 3) := by decide +kernel
theorem dX7_isNameAt_20 : decode cX7_isNameAt 20 = .ok (.ifCond .eq 7, 3) := by decide +kernel
theorem dX7_isNameAt_23 : decode cX7_isNameAt 23 = .ok (.iconst 1, 1) := by decide +kernel
theorem dX7_isNameAt_24 : decode cX7_isNameAt 24 = .ok (.goto 4, 3) := by decide +kernel
theorem dX7_isNameAt_27 : decode cX7_isNameAt 27 = .ok (.iconst 0, 1) := by decide +kernel
theorem dX7_isNameAt_28 : decode cX7_isNameAt 28 = .ok (.ireturn, 1) := by decide +kernel
theorem dX7_isSameName_0 : decode cX7_isSameName 0 = .ok (.aload_n 0, 1) := by decide +kernel
theorem dX7_isSameName_1 : decode cX7_isSameName 1 = .ok (.iload_n 1, 1) := by decide +kernel
theorem dX7_isSameName_2 : decode cX7_isSameName 2 = .ok (.invokevirtual 150, 3) := by decide +kernel
theorem dX7_isSameName_5 : decode cX7_isSameName 5 = .ok (.istore_n 3, 1) := by decide +kernel
theorem dX7_isSameName_6 : decode cX7_isSameName 6 = .ok (.aload_n 0, 1) := by decide +kernel
theorem dX7_isSameName_7 : decode cX7_isSameName 7 = .ok (.iload_n 2, 1) := by decide +kernel
theorem dX7_isSameName_8 : decode cX7_isSameName 8 = .ok (.invokevirtual 150, 3) := by decide +kernel
theorem dX7_isSameName_11 : decode cX7_isSameName 11 = .ok (.istore 4, 2) := by decide +kernel
theorem dX7_isSameName_13 : decode cX7_isSameName 13 = .ok (.aload_n 0, 1) := by decide +kernel
theorem dX7_isSameName_14 : decode cX7_isSameName 14 = .ok (.iload_n 3, 1) := by decide +kernel
theorem dX7_isSameName_15 : decode cX7_isSameName 15 = .ok (.iconst 1, 1) := by decide +kernel
theorem dX7_isSameName_16 : decode cX7_isSameName 16 = .ok (.iadd, 1) := by decide +kernel
theorem dX7_isSameName_17 : decode cX7_isSameName 17 = .ok (.invokevirtual 107, 3) := by decide +kernel
theorem dX7_isSameName_20 : decode cX7_isSameName 20 = .ok (.istore 5, 2) := by decide +kernel
theorem dX7_isSameName_22 : decode cX7_isSameName 22 = .ok (.iconst 1, 1) := by decide +kernel
theorem dX7_isSameName_23 : decode cX7_isSameName 23 = .ok (.istore 6, 2) := by decide +kernel
theorem dX7_isSameName_25 : decode cX7_isSameName 25 = .ok (.iload 6, 2) := by decide +kernel
theorem dX7_isSameName_27 : decode cX7_isSameName 27 = .ok (.iconst 3, 1) := by decide +kernel
theorem dX7_isSameName_28 : decode cX7_isSameName 28 = .ok (.iload 5, 2) := by decide +kernel
theorem dX7_isSameName_30 : decode cX7_isSameName 30 = .ok (.iadd, 1) := by decide +kernel
theorem dX7_isSameName_31 : decode cX7_isSameName 31 = .ok (.if_icmp .ge 31, 3) := by decide +kernel
theorem dX7_isSameName_34 : decode cX7_isSameName 34 = .ok (.aload_n 0, 1) := by decide +kernel
theorem dX7_isSameName_35 : decode cX7_isSameName 35 = .ok (.iload_n 3, 1) := by decide +kernel
theorem dX7_isSameName_36 : decode cX7_isSameName 36 = .ok (.iload 6, 2) := by decide +kernel
theorem dX7_isSameName_38 : decode cX7_isSameName 38 = .ok (.iadd, 1) := by decide +kernel
theorem dX7_isSameName_39 : decode cX7_isSameName 39 = .ok (.invokevirtual 100, 3) := by decide +kernel
theorem dX7_isSameName_42 : decode cX7_isSameName 42 = .ok (.aload_n 0, 1) := by decide +kernel
theorem dX7_isSameName_43 : decode cX7_isSameName 43 = .ok (.iload 4, 2) := by decide +kernel
theorem dX7_isSameName_45 : decode cX7_isSameName 45 = .ok (.iload 6, 2) := by decide +kernel
theorem dX7_isSameName_47 : decode cX7_isSameName 47 = .ok (.iadd, 1) := by decide +kernel
theorem dX7_isSameName_48 : decode cX7_isSameName 48 = .ok (.invokevirtual 100, 3) := by decide +kernel
theorem dX7_isSameName_51 : decode cX7_isSameName 51 = .ok (.if_icmp .eq 5, 3) := by decide +kernel
theorem dX7_isSameName_54 : decode cX7_isSameName 54 = .ok (.iconst 0, 1) := by decide +kernel
theorem dX7_isSameName_55 : decode cX7_isSameName 55 = .ok (.ireturn, 1) := by decide +kernel
theorem dX7_isSameName_56 : decode cX7_isSameName 56 = .ok (.iinc 6 1, 3) := by decide +kernel
theorem dX7_isSameName_59 : decode cX7_isSameName 59 = .ok (.goto (-34), 3) := by decide +kernel
theorem dX7_isSameName_62 : decode cX7_isSameName 62 = .ok (.iconst 1, 1) := by decide +kernel
theorem dX7_isSameName_63 : decode cX7_isSameName 63 = .ok (.ireturn, 1) := by decide +kernel
theorem dX7_isSound_0 : decode cX7_isSound 0 = .ok (.aload_n 0, 1) := by decide +kernel
theorem dX7_isSound_1 : decode cX7_isSound 1 = .ok (.aload_n 1, 1) := by decide +kernel
theorem dX7_isSound_2 : decode cX7_isSound 2 = .ok (.getfield 32, 3) := by decide +kernel
theorem dX7_isSound_5 : decode cX7_isSound 5 = .ok (.putfield 9, 3) := by decide +kernel
theorem dX7_isSound_8 : decode cX7_isSound 8 = .ok (.aload_n 0, 1) := by decide +kernel
theorem dX7_isSound_9 : decode cX7_isSound 9 = .ok (.aload_n 1, 1) := by decide +kernel
theorem dX7_isSound_10 : decode cX7_isSound 10 = .ok (.getfield 35, 3) := by decide +kernel
theorem dX7_isSound_13 : decode cX7_isSound 13 = .ok (.putfield 38, 3) := by decide +kernel
theorem dX7_isSound_16 : decode cX7_isSound 16 = .ok (.aload_n 0, 1) := by decide +kernel
theorem dX7_isSound_17 : decode cX7_isSound 17 = .ok (.iconst 0, 1) := by decide +kernel
theorem dX7_isSound_18 : decode cX7_isSound 18 = .ok (.putfield 41, 3) := by decide +kernel
theorem dX7_isSound_21 : decode cX7_isSound 21 = .ok (.aload_n 0, 1) := by decide +kernel

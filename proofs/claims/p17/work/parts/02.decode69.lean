theorem dX7_headHolds_81 : decode cX7_headHolds 81 = .ok (.aload_n 0, 1) := by decide +kernel
theorem dX7_headHolds_82 : decode cX7_headHolds 82 = .ok (.getfield 128, 3) := by decide +kernel
theorem dX7_headHolds_85 : decode cX7_headHolds 85 = .ok (.bipush 6, 2) := by decide +kernel
theorem dX7_headHolds_87 : decode cX7_headHolds 87 = .ok (.iadd, 1) := by decide +kernel
theorem dX7_headHolds_88 : decode cX7_headHolds 88 = .ok (.invokevirtual 87, 3) := by decide +kernel
theorem dX7_headHolds_91 : decode cX7_headHolds 91 = .ok (.ifCond .eq 7, 3) := by decide +kernel
theorem dX7_headHolds_94 : decode cX7_headHolds 94 = .ok (.iconst 1, 1) := by decide +kernel
theorem dX7_headHolds_95 : decode cX7_headHolds 95 = .ok (.goto 4, 3) := by decide +kernel
theorem dX7_headHolds_98 : decode cX7_headHolds 98 = .ok (.iconst 0, 1) := by decide +kernel
theorem dX7_headHolds_99 : decode cX7_headHolds 99 = .ok (.ireturn, 1) := by decide +kernel
theorem dX7_init_0 : decode cX7_init 0 = .ok (.aload_n 0, 1) := by decide +kernel
theorem dX7_init_1 : decode cX7_init 1 = .ok (.invokespecial 3, 3) := by decide +kernel
theorem dX7_init_4 : decode cX7_init 4 = .ok (.aload_n 0, 1) := by decide +kernel
theorem dX7_init_5 : decode cX7_init 5 = .ok (.iconst 0, 1) := by decide +kernel
theorem dX7_init_6 : decode cX7_init 6 = .ok (.newarray .byte, 2) := by decide +kernel
theorem dX7_init_8 : decode cX7_init 8 = .ok (.putfield 9, 3) := by decide +kernel
theorem dX7_init_11 : decode cX7_init 11 = .ok (.aload_n 0, 1) := by decide +kernel
theorem dX7_init_12 : decode cX7_init 12 = .ok (.iconst (-1), 1) := by decide +kernel
theorem dX7_init_13 : decode cX7_init 13 = .ok (.putfield 15, 3) := by decide +kernel
theorem dX7_init_16 : decode cX7_init 16 = .ok (.aload_n 0, 1) := by decide +kernel
theorem dX7_init_17 : decode cX7_init 17 = .ok (.sipush 500, 3) := by decide +kernel
theorem dX7_init_20 : decode cX7_init 20 = .ok (.newarray .int, 2) := by decide +kernel
theorem dX7_init_22 : decode cX7_init 22 = .ok (.putfield 19, 3) := by decide +kernel
theorem dX7_init_25 : decode cX7_init 25 = .ok (.aload_n 0, 1) := by decide +kernel
theorem dX7_init_26 : decode cX7_init 26 = .ok (.bipush 48, 2) := by decide +kernel
theorem dX7_init_28 : decode cX7_init 28 = .ok (.newarray .int, 2) := by decide +kernel
theorem dX7_init_30 : decode cX7_init 30 = .ok (.putfield 23, 3) := by decide +kernel
theorem dX7_init_33 : decode cX7_init 33 = .ok (.aload_n 0, 1) := by decide +kernel
theorem dX7_init_34 : decode cX7_init 34 = .ok (.bipush 24, 2) := by decide +kernel
theorem dX7_init_36 : decode cX7_init 36 = .ok (.newarray .int, 2) := by decide +kernel
theorem dX7_init_38 : decode cX7_init 38 = .ok (.putfield 26, 3) := by decide +kernel
theorem dX7_init_41 : decode cX7_init 41 = .ok (.aload_n 0, 1) := by decide +kernel
theorem dX7_init_42 : decode cX7_init 42 = .ok (.bipush 24, 2) := by decide +kernel
theorem dX7_init_44 : decode cX7_init 44 = .ok (.newarray .int, 2) := by decide +kernel
theorem dX7_init_46 : decode cX7_init 46 = .ok (.putfield 29, 3) := by decide +kernel
theorem dX7_init_49 : decode cX7_init 49 = .ok (.return_, 1) := by decide +kernel
theorem dX7_isMethodType_0 : decode cX7_isMethodType 0 = .ok (.aload_n 0, 1) := by decide +kernel
theorem dX7_isMethodType_1 : decode cX7_isMethodType 1 = .ok (.iconst 0, 1) := by decide +kernel
theorem dX7_isMethodType_2 : decode cX7_isMethodType 2 = .ok (.putfield 196, 3) := by decide +kernel
theorem dX7_isMethodType_5 : decode cX7_isMethodType 5 = .ok (.aload_n 0, 1) := by decide +kernel
theorem dX7_isMethodType_6 : decode cX7_isMethodType 6 = .ok (.iconst 0, 1) := by decide +kernel
theorem dX7_isMethodType_7 : decode cX7_isMethodType 7 = .ok (.putfield 183, 3) := by decide +kernel
theorem dX7_isMethodType_10 : decode cX7_isMethodType 10 = .ok (.aload_n 0, 1) := by decide +kernel
theorem dX7_isMethodType_11 : decode cX7_isMethodType 11 = .ok (.iconst 0, 1) := by decide +kernel
theorem dX7_isMethodType_12 : decode cX7_isMethodType 12 = .ok (.putfield 199, 3) := by decide +kernel
theorem dX7_isMethodType_15 : decode cX7_isMethodType 15 = .ok (.aload_n 0, 1) := by decide +kernel
theorem dX7_isMethodType_16 : decode cX7_isMethodType 16 = .ok (.iload_n 1, 1) := by decide +kernel
theorem dX7_isMethodType_17 : decode cX7_isMethodType 17 = .ok (.invokevirtual 190, 3) := by decide +kernel
theorem dX7_isMethodType_20 : decode cX7_isMethodType 20 = .ok (.istore_n 2, 1) := by decide +kernel
theorem dX7_isMethodType_21 : decode cX7_isMethodType 21 = .ok (.aload_n 0, 1) := by decide +kernel
theorem dX7_isMethodType_22 : decode cX7_isMethodType 22 = .ok (.iload_n 1, 1) := by decide +kernel
theorem dX7_isMethodType_23 : decode cX7_isMethodType 23 = .ok (.iconst 0, 1) := by decide +kernel
theorem dX7_isMethodType_24 : decode cX7_isMethodType 24 = .ok (.invokevirtual 193, 3) := by decide +kernel
theorem dX7_isMethodType_27 : decode cX7_isMethodType 27 = .ok (.bipush 40, 2) := by decide +kernel
theorem dX7_isMethodType_29 : decode cX7_isMethodType 29 = .ok (.if_icmp .eq 5, 3) := by decide +kernel
theorem dX7_isMethodType_32 : decode cX7_isMethodType 32 = .ok (.iconst 0, 1) := by decide +kernel
theorem dX7_isMethodType_33 : decode cX7_isMethodType 33 = .ok (.ireturn, 1) := by decide +kernel
theorem dX7_isMethodType_34 : decode cX7_isMethodType 34 = .ok (.iconst 1, 1) := by decide +kernel
theorem dX7_isMethodType_35 : decode cX7_isMethodType 35 = .ok (.istore_n 3, 1) := by decide +kernel
theorem dX7_isMethodType_36 : decode cX7_isMethodType 36 = .ok (.aload_n 0, 1) := by decide +kernel
theorem dX7_isMethodType_37 : decode cX7_isMethodType 37 = .ok (.iload_n 1, 1) := by decide +kernel
theorem dX7_isMethodType_38 : decode cX7_isMethodType 38 = .ok (.iload_n 3, 1) := by decide +kernel
theorem dX7_isMethodType_39 : decode cX7_isMethodType 39 = .ok (.invokevirtual 186, 3) := by decide +kernel
theorem dX7_isMethodType_42 : decode cX7_isMethodType 42 = .ok (.istore 4, 2) := by decide +kernel
theorem dX7_isMethodType_44 : decode cX7_isMethodType 44 = .ok (.iload 4, 2) := by decide +kernel
theorem dX7_isMethodType_46 : decode cX7_isMethodType 46 = .ok (.ifCond .eq 66, 3) := by decide +kernel
theorem dX7_isMethodType_49 : decode cX7_isMethodType 49 = .ok (.iload_n 3, 1) := by decide +kernel
theorem dX7_isMethodType_50 : decode cX7_isMethodType 50 = .ok (.iload_n 2, 1) := by decide +kernel
theorem dX7_isMethodType_51 : decode cX7_isMethodType 51 = .ok (.if_icmp .ge 61, 3) := by decide +kernel
theorem dX7_isMethodType_54 : decode cX7_isMethodType 54 = .ok (.aload_n 0, 1) := by decide +kernel
theorem dX7_isMethodType_55 : decode cX7_isMethodType 55 = .ok (.aload_n 0, 1) := by decide +kernel
theorem dX7_isMethodType_56 : decode cX7_isMethodType 56 = .ok (.getfield 196, 3) := by decide +kernel
theorem dX7_isMethodType_59 : decode cX7_isMethodType 59 = .ok (.iconst 4, 1) := by decide +kernel
theorem dX7_isMethodType_60 : decode cX7_isMethodType 60 = .ok (.ishl, 1) := by decide +kernel
theorem dX7_isMethodType_61 : decode cX7_isMethodType 61 = .ok (.iload 4, 2) := by decide +kernel
theorem dX7_isMethodType_63 : decode cX7_isMethodType 63 = .ok (.ior, 1) := by decide +kernel
theorem dX7_isMethodType_64 : decode cX7_isMethodType 64 = .ok (.putfield 196, 3) := by decide +kernel
theorem dX7_isMethodType_67 : decode cX7_isMethodType 67 = .ok (.aload_n 0, 1) := by decide +kernel
theorem dX7_isMethodType_68 : decode cX7_isMethodType 68 = .ok (.dup, 1) := by decide +kernel
theorem dX7_isMethodType_69 : decode cX7_isMethodType 69 = .ok (.getfield 183, 3) := by decide +kernel
theorem dX7_isMethodType_72 : decode cX7_isMethodType 72 = .ok (.iload 4, 2) := by decide +kernel
theorem dX7_isMethodType_74 : decode cX7_isMethodType 74 = .ok (.iconst 2, 1) := by decide +kernel
theorem dX7_isMethodType_75 : decode cX7_isMethodType 75 = .ok (.if_icmp .ne 7, 3) := by decide +kernel
theorem dX7_isMethodType_78 : decode cX7_isMethodType 78 = .ok (.iconst 2, 1) := by decide +kernel
theorem dX7_isMethodType_79 : decode cX7_isMethodType 79 = .ok (.goto 4, 3) := by decide +kernel
theorem dX7_isMethodType_82 : decode cX7_isMethodType 82 = .ok (.iconst 1, 1) := by decide +kernel
theorem dX7_isMethodType_83 : decode cX7_isMethodType 83 = .ok (.iadd, 1) := by decide +kernel
theorem dX7_isMethodType_84 : decode cX7_isMethodType 84 = .ok (.putfield 183, 3) := by decide +kernel
theorem dX7_isMethodType_87 : decode cX7_isMethodType 87 = .ok (.iload_n 3, 1) := by decide +kernel
theorem dX7_isMethodType_88 : decode cX7_isMethodType 88 = .ok (.iload 4, 2) := by decide +kernel
theorem dX7_isMethodType_90 : decode cX7_isMethodType 90 = .ok (.iconst 3, 1) := by decide +kernel
theorem dX7_isMethodType_91 : decode cX7_isMethodType 91 = .ok (.if_icmp .ne 7, 3) := by decide +kernel
theorem dX7_isMethodType_94 : decode cX7_isMethodType 94 = .ok (.iconst 2, 1) := by decide +kernel
theorem dX7_isMethodType_95 : decode cX7_isMethodType 95 = .ok (.goto 4, 3) := by decide +kernel
theorem dX7_isMethodType_98 : decode cX7_isMethodType 98 = .ok (.iconst 1, 1) := by decide +kernel
theorem dX7_isMethodType_99 : decode cX7_isMethodType 99 = .ok (.iadd, 1) := by decide +kernel
theorem dX7_isMethodType_100 : decode cX7_isMethodType 100 = .ok (.istore_n 3, 1) := by decide +kernel
theorem dX7_isMethodType_101 : decode cX7_isMethodType 101 = .ok (.aload_n 0, 1) := by decide +kernel
theorem dX7_isMethodType_102 : decode cX7_isMethodType 102 = .ok (.iload_n 1, 1) := by decide +kernel
theorem dX7_isMethodType_103 : decode cX7_isMethodType 103 = .ok (.iload_n 3, 1) := by decide +kernel
theorem dX7_isMethodType_104 : decode cX7_isMethodType 104 = .ok (.invokevirtual 186, 3) := by decide +kernel
theorem dX7_isMethodType_107 : decode cX7_isMethodType 107 = .ok (.istore 4, 2) := by decide +kernel
theorem dX7_isMethodType_109 : decode cX7_isMethodType 109 = .ok (.goto (-65), 3) := by decide +kernel
theorem dX7_isMethodType_112 : decode cX7_isMethodType 112 = .ok (.iload_n 3, 1) := by decide +kernel
theorem dX7_isMethodType_113 : decode cX7_isMethodType 113 = .ok (.iconst 1, 1) := by decide +kernel
theorem dX7_isMethodType_114 : decode cX7_isMethodType 114 = .ok (.iadd, 1) := by decide +kernel
theorem dX7_isMethodType_115 : decode cX7_isMethodType 115 = .ok (.iload_n 2, 1) := by decide +kernel
theorem dX7_isMethodType_116 : decode cX7_isMethodType 116 = .ok (.if_icmp .ge 14, 3) := by decide +kernel
theorem dX7_isMethodType_119 : decode cX7_isMethodType 119 = .ok (.aload_n 0, 1) := by decide +kernel
theorem dX7_isMethodType_120 : decode cX7_isMethodType 120 = .ok (.iload_n 1, 1) := by decide +kernel
theorem dX7_isMethodType_121 : decode cX7_isMethodType 121 = .ok (.iload_n 3, 1) := by decide +kernel
theorem dX7_isMethodType_122 : decode cX7_isMethodType 122 = .ok (.invokevirtual 193, 3) := by decide +kernel
theorem dX7_isMethodType_125 : decode cX7_isMethodType 125 = .ok (.bipush 41, 2) := by decide +kernel
theorem dX7_isMethodType_127 : decode cX7_isMethodType 127 = .ok (.if_icmp .eq 5, 3) := by decide +kernel
theorem dX7_isMethodType_130 : decode cX7_isMethodType 130 = .ok (.iconst 0, 1) := by decide +kernel
theorem dX7_isMethodType_131 : decode cX7_isMethodType 131 = .ok (.ireturn, 1) := by decide +kernel
theorem dX7_isMethodType_132 : decode cX7_isMethodType 132 = .ok (.iinc 3 1, 3) := by decide +kernel
theorem dX7_isMethodType_135 : decode cX7_isMethodType 135 = .ok (.aload_n 0, 1) := by decide +kernel
theorem dX7_isMethodType_136 : decode cX7_isMethodType 136 = .ok (.aload_n 0, 1) := by decide +kernel
theorem dX7_isMethodType_137 : decode cX7_isMethodType 137 = .ok (.iload_n 1, 1) := by decide +kernel
theorem dX7_isMethodType_138 : decode cX7_isMethodType 138 = .ok (.iload_n 3, 1) := by decide +kernel
theorem dX7_isMethodType_139 : decode cX7_isMethodType 139 = .ok (.invokevirtual 186, 3) := by decide +kernel
theorem dX7_isMethodType_142 : decode cX7_isMethodType 142 = .ok (.putfield 199, 3) := by decide +kernel
theorem dX7_isMethodType_145 : decode cX7_isMethodType 145 = .ok (.aload_n 0, 1) := by decide +kernel
theorem dX7_isMethodType_146 : decode cX7_isMethodType 146 = .ok (.getfield 199, 3) := by decide +kernel
theorem dX7_isMethodType_149 : decode cX7_isMethodType 149 = .ok (.ifCond .ne 16, 3) := by decide +kernel
theorem dX7_isMethodType_152 : decode cX7_isMethodType 152 = .ok (.aload_n 0, 1) := by decide +kernel
theorem dX7_isMethodType_153 : decode cX7_isMethodType 153 = .ok (.iload_n 1, 1) := by decide +kernel
theorem dX7_isMethodType_154 : decode cX7_isMethodType 154 = .ok (.iload_n 3, 1) := by decide +kernel
theorem dX7_isMethodType_155 : decode cX7_isMethodType 155 = .ok (.invokevirtual 193, 3) := by decide +kernel
theorem dX7_isMethodType_158 : decode cX7_isMethodType 158 = .ok (.bipush 86, 2) := by decide +kernel
theorem dX7_isMethodType_160 : decode cX7_isMethodType 160 = .ok (.if_icmp .eq 5, 3) := by decide +kernel
theorem dX7_isMethodType_163 : decode cX7_isMethodType 163 = .ok (.iconst 0, 1) := by decide +kernel
theorem dX7_isMethodType_164 : decode cX7_isMethodType 164 = .ok (.ireturn, 1) := by decide +kernel
theorem dX7_isMethodType_165 : decode cX7_isMethodType 165 = .ok (.iload_n 3, 1) := by decide +kernel
theorem dX7_isMethodType_166 : decode cX7_isMethodType 166 = .ok (.aload_n 0, 1) := by decide +kernel
theorem dX7_isMethodType_167 : decode cX7_isMethodType 167 = .ok (.getfield 199, 3) := by decide +kernel
theorem dX7_isMethodType_170 : decode cX7_isMethodType 170 = .ok (.iconst 3, 1) := by decide +kernel
theorem dX7_isMethodType_171 : decode cX7_isMethodType 171 = .ok (.if_icmp .ne 7, 3) := by decide +kernel
theorem dX7_isMethodType_174 : decode cX7_isMethodType 174 = .ok (.iconst 2, 1) := by decide +kernel
theorem dX7_isMethodType_175 : decode cX7_isMethodType 175 = .ok (.goto 4, 3) := by decide +kernel
theorem dX7_isMethodType_178 : decode cX7_isMethodType 178 = .ok (.iconst 1, 1) := by decide +kernel
theorem dX7_isMethodType_179 : decode cX7_isMethodType 179 = .ok (.iadd, 1) := by decide +kernel
theorem dX7_isMethodType_180 : decode cX7_isMethodType 180 = .ok (.iload_n 2, 1) := by decide +kernel
theorem dX7_isMethodType_181 : decode cX7_isMethodType 181 = .ok (.if_icmp .ne 7, 3) := by decide +kernel
theorem dX7_isMethodType_184 : decode cX7_isMethodType 184 = .ok (.iconst 1, 1) := by decide +kernel
theorem dX7_isMethodType_185 : decode cX7_isMethodType 185 = .ok (.goto 4, 3) := by decide +kernel
theorem dX7_isMethodType_188 : decode cX7_isMethodType 188 = .ok (.iconst 0, 1) := by decide +kernel
theorem dX7_isMethodType_189 : decode cX7_isMethodType 189 = .ok (.ireturn, 1) := by decide +kernel
theorem dX7_isNameAt_0 : decode cX7_isNameAt 0 = .ok (.aload_n 0, 1) := by decide +kernel

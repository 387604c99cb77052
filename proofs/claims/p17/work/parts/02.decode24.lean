theorem dX1_isReference_20 : decode cX1_isReference 20 = .ok (.iconst 0, 1) := by decide +kernel
theorem dX1_isReference_21 : decode cX1_isReference 21 = .ok (.ireturn, 1) := by decide +kernel
theorem dX1_join_0 : decode cX1_join 0 = .ok (.iload_n 0, 1) := by decide +kernel
theorem dX1_join_1 : decode cX1_join 1 = .ok (.iload_n 1, 1) := by decide +kernel
theorem dX1_join_2 : decode cX1_join 2 = .ok (.if_icmp .eq 19, 3) := by decide +kernel
theorem dX1_join_5 : decode cX1_join 5 = .ok (.iload_n 1, 1) := by decide +kernel
theorem dX1_join_6 : decode cX1_join 6 = .ok (.bipush 6, 2) := by decide +kernel
theorem dX1_join_8 : decode cX1_join 8 = .ok (.if_icmp .ne 15, 3) := by decide +kernel
theorem dX1_join_11 : decode cX1_join 11 = .ok (.iload_n 0, 1) := by decide +kernel
theorem dX1_join_12 : decode cX1_join 12 = .ok (.iconst 4, 1) := by decide +kernel
theorem dX1_join_13 : decode cX1_join 13 = .ok (.if_icmp .eq 8, 3) := by decide +kernel
theorem dX1_join_16 : decode cX1_join 16 = .ok (.iload_n 0, 1) := by decide +kernel
theorem dX1_join_17 : decode cX1_join 17 = .ok (.iconst 5, 1) := by decide +kernel
theorem dX1_join_18 : decode cX1_join 18 = .ok (.if_icmp .ne 5, 3) := by decide +kernel
theorem dX1_join_21 : decode cX1_join 21 = .ok (.iload_n 0, 1) := by decide +kernel
theorem dX1_join_22 : decode cX1_join 22 = .ok (.ireturn, 1) := by decide +kernel
theorem dX1_join_23 : decode cX1_join 23 = .ok (.iload_n 0, 1) := by decide +kernel
theorem dX1_join_24 : decode cX1_join 24 = .ok (.bipush 6, 2) := by decide +kernel
theorem dX1_join_26 : decode cX1_join 26 = .ok (.if_icmp .ne 17, 3) := by decide +kernel
theorem dX1_join_29 : decode cX1_join 29 = .ok (.iload_n 1, 1) := by decide +kernel
theorem dX1_join_30 : decode cX1_join 30 = .ok (.iconst 4, 1) := by decide +kernel
theorem dX1_join_31 : decode cX1_join 31 = .ok (.if_icmp .eq 8, 3) := by decide +kernel
theorem dX1_join_34 : decode cX1_join 34 = .ok (.iload_n 1, 1) := by decide +kernel
theorem dX1_join_35 : decode cX1_join 35 = .ok (.iconst 5, 1) := by decide +kernel
theorem dX1_join_36 : decode cX1_join 36 = .ok (.if_icmp .ne 7, 3) := by decide +kernel
theorem dX1_join_39 : decode cX1_join 39 = .ok (.iload_n 1, 1) := by decide +kernel
theorem dX1_join_40 : decode cX1_join 40 = .ok (.goto 4, 3) := by decide +kernel
theorem dX1_join_43 : decode cX1_join 43 = .ok (.iconst 0, 1) := by decide +kernel
theorem dX1_join_44 : decode cX1_join 44 = .ok (.ireturn, 1) := by decide +kernel
theorem dX1_keepTypes_0 : decode cX1_keepTypes 0 = .ok (.aload_n 0, 1) := by decide +kernel
theorem dX1_keepTypes_1 : decode cX1_keepTypes 1 = .ok (.getfield 36, 3) := by decide +kernel
theorem dX1_keepTypes_4 : decode cX1_keepTypes 4 = .ok (.aload_n 0, 1) := by decide +kernel
theorem dX1_keepTypes_5 : decode cX1_keepTypes 5 = .ok (.getfield 36, 3) := by decide +kernel
theorem dX1_keepTypes_8 : decode cX1_keepTypes 8 = .ok (.getfield 50, 3) := by decide +kernel
theorem dX1_keepTypes_11 : decode cX1_keepTypes 11 = .ok (.newarray .byte, 2) := by decide +kernel
theorem dX1_keepTypes_13 : decode cX1_keepTypes 13 = .ok (.putfield 228, 3) := by decide +kernel
theorem dX1_keepTypes_16 : decode cX1_keepTypes 16 = .ok (.aload_n 0, 1) := by decide +kernel
theorem dX1_keepTypes_17 : decode cX1_keepTypes 17 = .ok (.getfield 36, 3) := by decide +kernel
theorem dX1_keepTypes_20 : decode cX1_keepTypes 20 = .ok (.aload_n 0, 1) := by decide +kernel
theorem dX1_keepTypes_21 : decode cX1_keepTypes 21 = .ok (.getfield 36, 3) := by decide +kernel
theorem dX1_keepTypes_24 : decode cX1_keepTypes 24 = .ok (.getfield 50, 3) := by decide +kernel
theorem dX1_keepTypes_27 : decode cX1_keepTypes 27 = .ok (.newarray .long, 2) := by decide +kernel
theorem dX1_keepTypes_29 : decode cX1_keepTypes 29 = .ok (.putfield 230, 3) := by decide +kernel
theorem dX1_keepTypes_32 : decode cX1_keepTypes 32 = .ok (.aload_n 0, 1) := by decide +kernel
theorem dX1_keepTypes_33 : decode cX1_keepTypes 33 = .ok (.getfield 36, 3) := by decide +kernel
theorem dX1_keepTypes_36 : decode cX1_keepTypes 36 = .ok (.aload_n 0, 1) := by decide +kernel
theorem dX1_keepTypes_37 : decode cX1_keepTypes 37 = .ok (.getfield 36, 3) := by decide +kernel
theorem dX1_keepTypes_40 : decode cX1_keepTypes 40 = .ok (.getfield 50, 3) := by decide +kernel
theorem dX1_keepTypes_43 : decode cX1_keepTypes 43 = .ok (.newarray .long, 2) := by decide +kernel
theorem dX1_keepTypes_45 : decode cX1_keepTypes 45 = .ok (.putfield 234, 3) := by decide +kernel
theorem dX1_keepTypes_48 : decode cX1_keepTypes 48 = .ok (.iconst 0, 1) := by decide +kernel
theorem dX1_keepTypes_49 : decode cX1_keepTypes 49 = .ok (.istore_n 1, 1) := by decide +kernel
theorem dX1_keepTypes_50 : decode cX1_keepTypes 50 = .ok (.iload_n 1, 1) := by decide +kernel
theorem dX1_keepTypes_51 : decode cX1_keepTypes 51 = .ok (.aload_n 0, 1) := by decide +kernel
theorem dX1_keepTypes_52 : decode cX1_keepTypes 52 = .ok (.getfield 36, 3) := by decide +kernel
theorem dX1_keepTypes_55 : decode cX1_keepTypes 55 = .ok (.getfield 50, 3) := by decide +kernel
theorem dX1_keepTypes_58 : decode cX1_keepTypes 58 = .ok (.if_icmp .ge 109, 3) := by decide +kernel
theorem dX1_keepTypes_61 : decode cX1_keepTypes 61 = .ok (.aload_n 0, 1) := by decide +kernel
theorem dX1_keepTypes_62 : decode cX1_keepTypes 62 = .ok (.getfield 36, 3) := by decide +kernel
theorem dX1_keepTypes_65 : decode cX1_keepTypes 65 = .ok (.getfield 228, 3) := by decide +kernel
theorem dX1_keepTypes_68 : decode cX1_keepTypes 68 = .ok (.iload_n 1, 1) := by decide +kernel
theorem dX1_keepTypes_69 : decode cX1_keepTypes 69 = .ok (.aload_n 0, 1) := by decide +kernel
theorem dX1_keepTypes_70 : decode cX1_keepTypes 70 = .ok (.getfield 12, 3) := by decide +kernel
theorem dX1_keepTypes_73 : decode cX1_keepTypes 73 = .ok (.iload_n 1, 1) := by decide +kernel
theorem dX1_keepTypes_74 : decode cX1_keepTypes 74 = .ok (.invokevirtual 112, 3) := by decide +kernel
theorem dX1_keepTypes_77 : decode cX1_keepTypes 77 = .ok (.i2b, 1) := by decide +kernel
theorem dX1_keepTypes_78 : decode cX1_keepTypes 78 = .ok (.bastore, 1) := by decide +kernel
theorem dX1_keepTypes_79 : decode cX1_keepTypes 79 = .ok (.iconst 0, 1) := by decide +kernel
theorem dX1_keepTypes_80 : decode cX1_keepTypes 80 = .ok (.istore_n 2, 1) := by decide +kernel
theorem dX1_keepTypes_81 : decode cX1_keepTypes 81 = .ok (.aload_n 0, 1) := by decide +kernel
theorem dX1_keepTypes_82 : decode cX1_keepTypes 82 = .ok (.getfield 22, 3) := by decide +kernel
theorem dX1_keepTypes_85 : decode cX1_keepTypes 85 = .ok (.iload_n 1, 1) := by decide +kernel
theorem dX1_keepTypes_86 : decode cX1_keepTypes 86 = .ok (.baload, 1) := by decide +kernel
theorem dX1_keepTypes_87 : decode cX1_keepTypes 87 = .ok (.ifCond .eq 74, 3) := by decide +kernel
theorem dX1_keepTypes_90 : decode cX1_keepTypes 90 = .ok (.iload_n 2, 1) := by decide +kernel
theorem dX1_keepTypes_91 : decode cX1_keepTypes 91 = .ok (.bipush 24, 2) := by decide +kernel
theorem dX1_keepTypes_93 : decode cX1_keepTypes 93 = .ok (.if_icmp .ge 68, 3) := by decide +kernel
theorem dX1_keepTypes_96 : decode cX1_keepTypes 96 = .ok (.aload_n 0, 1) := by decide +kernel
theorem dX1_keepTypes_97 : decode cX1_keepTypes 97 = .ok (.getfield 18, 3) := by decide +kernel
theorem dX1_keepTypes_100 : decode cX1_keepTypes 100 = .ok (.iload_n 1, 1) := by decide +kernel
theorem dX1_keepTypes_101 : decode cX1_keepTypes 101 = .ok (.bipush 48, 2) := by decide +kernel
theorem dX1_keepTypes_103 : decode cX1_keepTypes 103 = .ok (.imul, 1) := by decide +kernel
theorem dX1_keepTypes_104 : decode cX1_keepTypes 104 = .ok (.iload_n 2, 1) := by decide +kernel
theorem dX1_keepTypes_105 : decode cX1_keepTypes 105 = .ok (.iadd, 1) := by decide +kernel
theorem dX1_keepTypes_106 : decode cX1_keepTypes 106 = .ok (.baload, 1) := by decide +kernel
theorem dX1_keepTypes_107 : decode cX1_keepTypes 107 = .ok (.i2l, 1) := by decide +kernel
theorem dX1_keepTypes_108 : decode cX1_keepTypes 108 = .ok (.lstore_n 3, 1) := by decide +kernel
theorem dX1_keepTypes_109 : decode cX1_keepTypes 109 = .ok (.iload_n 2, 1) := by decide +kernel
theorem dX1_keepTypes_110 : decode cX1_keepTypes 110 = .ok (.bipush 16, 2) := by decide +kernel
theorem dX1_keepTypes_112 : decode cX1_keepTypes 112 = .ok (.if_icmp .ge 23, 3) := by decide +kernel
theorem dX1_keepTypes_115 : decode cX1_keepTypes 115 = .ok (.aload_n 0, 1) := by decide +kernel
theorem dX1_keepTypes_116 : decode cX1_keepTypes 116 = .ok (.getfield 36, 3) := by decide +kernel
theorem dX1_keepTypes_119 : decode cX1_keepTypes 119 = .ok (.getfield 230, 3) := by decide +kernel
theorem dX1_keepTypes_122 : decode cX1_keepTypes 122 = .ok (.iload_n 1, 1) := by decide +kernel
theorem dX1_keepTypes_123 : decode cX1_keepTypes 123 = .ok (.dup2, 1) := by decide +kernel
theorem dX1_keepTypes_124 : decode cX1_keepTypes 124 = .ok (.laload, 1) := by decide +kernel
theorem dX1_keepTypes_125 : decode cX1_keepTypes 125 = .ok (.lload_n 3, 1) := by decide +kernel
theorem dX1_keepTypes_126 : decode cX1_keepTypes 126 = .ok (.iconst 4, 1) := by decide +kernel
theorem dX1_keepTypes_127 : decode cX1_keepTypes 127 = .ok (.iload_n 2, 1) := by decide +kernel
theorem dX1_keepTypes_128 : decode cX1_keepTypes 128 = .ok (.imul, 1) := by decide +kernel
theorem dX1_keepTypes_129 : decode cX1_keepTypes 129 = .ok (.lshl, 1) := by decide +kernel
theorem dX1_keepTypes_130 : decode cX1_keepTypes 130 = .ok (.lor, 1) := by decide +kernel
theorem dX1_keepTypes_131 : decode cX1_keepTypes 131 = .ok (.lastore, 1) := by decide +kernel
theorem dX1_keepTypes_132 : decode cX1_keepTypes 132 = .ok (.goto 23, 3) := by decide +kernel
theorem dX1_keepTypes_135 : decode cX1_keepTypes 135 = .ok (.aload_n 0, 1) := by decide +kernel
theorem dX1_keepTypes_136 : decode cX1_keepTypes 136 = .ok (.getfield 36, 3) := by decide +kernel
theorem dX1_keepTypes_139 : decode cX1_keepTypes 139 = .ok (.getfield 234, 3) := by decide +kernel
theorem dX1_keepTypes_142 : decode cX1_keepTypes 142 = .ok (.iload_n 1, 1) := by decide +kernel
theorem dX1_keepTypes_143 : decode cX1_keepTypes 143 = .ok (.dup2, 1) := by decide +kernel
theorem dX1_keepTypes_144 : decode cX1_keepTypes 144 = .ok (.laload, 1) := by decide +kernel
theorem dX1_keepTypes_145 : decode cX1_keepTypes 145 = .ok (.lload_n 3, 1) := by decide +kernel
theorem dX1_keepTypes_146 : decode cX1_keepTypes 146 = .ok (.iconst 4, 1) := by decide +kernel
theorem dX1_keepTypes_147 : decode cX1_keepTypes 147 = .ok (.iload_n 2, 1) := by decide +kernel
theorem dX1_keepTypes_148 : decode cX1_keepTypes 148 = .ok (.bipush 16, 2) := by decide +kernel
theorem dX1_keepTypes_150 : decode cX1_keepTypes 150 = .ok (.isub, 1) := by decide +kernel
theorem dX1_keepTypes_151 : decode cX1_keepTypes 151 = .ok (.imul, 1) := by decide +kernel
theorem dX1_keepTypes_152 : decode cX1_keepTypes 152 = .ok (.lshl, 1) := by decide +kernel
theorem dX1_keepTypes_153 : decode cX1_keepTypes 153 = .ok (.lor, 1) := by decide +kernel
theorem dX1_keepTypes_154 : decode cX1_keepTypes 154 = .ok (.lastore, 1) := by decide +kernel
theorem dX1_keepTypes_155 : decode cX1_keepTypes 155 = .ok (.iinc 2 1, 3) := by decide +kernel
theorem dX1_keepTypes_158 : decode cX1_keepTypes 158 = .ok (.goto (-77), 3) := by decide +kernel
theorem dX1_keepTypes_161 : decode cX1_keepTypes 161 = .ok (.iinc 1 1, 3) := by decide +kernel
theorem dX1_keepTypes_164 : decode cX1_keepTypes 164 = .ok (.goto (-114), 3) := by decide +kernel
theorem dX1_keepTypes_167 : decode cX1_keepTypes 167 = .ok (.return_, 1) := by decide +kernel
theorem dX1_load_0 : decode cX1_load 0 = .ok (.aload_n 0, 1) := by decide +kernel
theorem dX1_load_1 : decode cX1_load 1 = .ok (.iload_n 2, 1) := by decide +kernel
theorem dX1_load_2 : decode cX1_load 2 = .ok (.invokevirtual 182, 3) := by decide +kernel
theorem dX1_load_5 : decode cX1_load 5 = .ok (.istore_n 3, 1) := by decide +kernel
theorem dX1_load_6 : decode cX1_load 6 = .ok (.iload_n 1, 1) := by decide +kernel
theorem dX1_load_7 : decode cX1_load 7 = .ok (.bipush 25, 2) := by decide +kernel
theorem dX1_load_9 : decode cX1_load 9 = .ok (.if_icmp .ne 41, 3) := by decide +kernel
theorem dX1_load_12 : decode cX1_load 12 = .ok (.aload_n 0, 1) := by decide +kernel
theorem dX1_load_13 : decode cX1_load 13 = .ok (.dup, 1) := by decide +kernel
theorem dX1_load_14 : decode cX1_load 14 = .ok (.getfield 161, 3) := by decide +kernel
theorem dX1_load_17 : decode cX1_load 17 = .ok (.iload_n 3, 1) := by decide +kernel
theorem dX1_load_18 : decode cX1_load 18 = .ok (.invokestatic 205, 3) := by decide +kernel
theorem dX1_load_21 : decode cX1_load 21 = .ok (.ifCond .ne 7, 3) := by decide +kernel
theorem dX1_load_24 : decode cX1_load 24 = .ok (.iconst 1, 1) := by decide +kernel
theorem dX1_load_25 : decode cX1_load 25 = .ok (.goto 4, 3) := by decide +kernel
theorem dX1_load_28 : decode cX1_load 28 = .ok (.iconst 0, 1) := by decide +kernel
theorem dX1_load_29 : decode cX1_load 29 = .ok (.ior, 1) := by decide +kernel
theorem dX1_load_30 : decode cX1_load 30 = .ok (.putfield 161, 3) := by decide +kernel
theorem dX1_load_33 : decode cX1_load 33 = .ok (.aload_n 0, 1) := by decide +kernel
theorem dX1_load_34 : decode cX1_load 34 = .ok (.iload_n 3, 1) := by decide +kernel
theorem dX1_load_35 : decode cX1_load 35 = .ok (.invokestatic 205, 3) := by decide +kernel
theorem dX1_load_38 : decode cX1_load 38 = .ok (.ifCond .eq 7, 3) := by decide +kernel
theorem dX1_load_41 : decode cX1_load 41 = .ok (.iload_n 3, 1) := by decide +kernel
theorem dX1_load_42 : decode cX1_load 42 = .ok (.goto 4, 3) := by decide +kernel
theorem dX1_load_45 : decode cX1_load 45 = .ok (.iconst 0, 1) := by decide +kernel
theorem dX1_load_46 : decode cX1_load 46 = .ok (.invokevirtual 211, 3) := by decide +kernel

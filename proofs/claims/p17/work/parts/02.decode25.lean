theorem dX1_keepTypes_107 : decode cX1_keepTypes 107 = .ok (.i2l, 1) := by decide +kernel
theorem dX1_keepTypes_108 : decode cX1_keepTypes 108 = .ok (.lstore_n 3, 1) := by decide +kernel
theorem dX1_keepTypes_109 : decode cX1_keepTypes 109 = .ok (.iload_n 2, 1) := by decide +kernel
theorem dX1_keepTypes_110 : decode cX1_keepTypes 110 = .ok (.bipush 16, 2) := by decide +kernel
theorem dX1_keepTypes_112 : decode cX1_keepTypes 112 = .ok (.if_icmp .ge 23, 3) := by decide +kernel
theorem dX1_keepTypes_115 : decode cX1_keepTypes 115 = .ok (.aload_n 0, 1) := by decide +kernel
theorem dX1_keepTypes_116 : decode cX1_keepTypes 116 = .ok (.getfield 36, 3) := by decide +kernel
theorem dX1_keepTypes_119 : decode cX1_keepTypes 119 = .ok (.getfield 230, 3) := by decide +kernel
theorem dX1_keepTypes_122 : decode cX1_keepTypes 122 = .ok (.iload_n 1, 1) := by decide +kernel
theorem dX1_keepTypes_123 : decode cX1_keepTypes 123 = .ok (.dup2, 1) := by decide +kernel
theorem dX1_keepTypes_124 : decode cX1_keepTypes 124 = .ok (.laload, 1) := by decide +kernel
theorem dX1_keepTypes_125 : decode cX1_keepTypes 125 = .ok (.lload_n 3, 1) := by decide +kernel
theorem dX1_keepTypes_126 : decode cX1_keepTypes 126 = .ok (.iconst 4, 1) := by decide +kernel
theorem dX1_keepTypes_127 : decode cX1_keepTypes 127 = .ok (.iload_n 2, 1) := by decide +kernel
theorem dX1_keepTypes_128 : decode cX1_keepTypes 128 = .ok (.imul, 1) := by decide +kernel
theorem dX1_keepTypes_129 : decode cX1_keepTypes 129 = .ok (.lshl, 1) := by decide +kernel
theorem dX1_keepTypes_130 : decode cX1_keepTypes 130 = .ok (.lor, 1) := by decide +kernel
theorem dX1_keepTypes_131 : decode cX1_keepTypes 131 = .ok (.lastore, 1) := by decide +kernel
theorem dX1_keepTypes_132 : decode cX1_keepTypes 132 = .ok (.goto 23, 3) := by decide +kernel
theorem dX1_keepTypes_135 : decode cX1_keepTypes 135 = .ok (.aload_n 0, 1) := by decide +kernel
theorem dX1_keepTypes_136 : decode cX1_keepTypes 136 = .ok (.getfield 36, 3) := by decide +kernel
theorem dX1_keepTypes_139 : decode cX1_keepTypes 139 = .ok (.getfield 234, 3) := by decide +kernel
theorem dX1_keepTypes_142 : decode cX1_keepTypes 142 = .ok (.iload_n 1, 1) := by decide +kernel
theorem dX1_keepTypes_143 : decode cX1_keepTypes 143 = .ok (.dup2, 1) := by decide +kernel
theorem dX1_keepTypes_144 : decode cX1_keepTypes 144 = .ok (.laload, 1) := by decide +kernel
theorem dX1_keepTypes_145 : decode cX1_keepTypes 145 = .ok (.lload_n 3, 1) := by decide +kernel
theorem dX1_keepTypes_146 : decode cX1_keepTypes 146 = .ok (.iconst 4, 1) := by decide +kernel
theorem dX1_keepTypes_147 : decode cX1_keepTypes 147 = .ok (.iload_n 2, 1) := by decide +kernel
theorem dX1_keepTypes_148 : decode cX1_keepTypes 148 = .ok (.bipush 16, 2) := by decide +kernel
theorem dX1_keepTypes_150 : decode cX1_keepTypes 150 = .ok (.isub, 1) := by decide +kernel
theorem dX1_keepTypes_151 : decode cX1_keepTypes 151 = .ok (.imul, 1) := by decide +kernel
theorem dX1_keepTypes_152 : decode cX1_keepTypes 152 = .ok (.lshl, 1) := by decide +kernel
theorem dX1_keepTypes_153 : decode cX1_keepTypes 153 = .ok (.lor, 1) := by decide +kernel
theorem dX1_keepTypes_154 : decode cX1_keepTypes 154 = .ok (.lastore, 1) := by decide +kernel
theorem dX1_keepTypes_155 : decode cX1_keepTypes 155 = .ok (.iinc 2 1, 3) := by decide +kernel
theorem dX1_keepTypes_158 : decode cX1_keepTypes 158 = .ok (.goto (-77), 3) := by decide +kernel
theorem dX1_keepTypes_161 : decode cX1_keepTypes 161 = .ok (.iinc 1 1, 3) := by decide +kernel
theorem dX1_keepTypes_164 : decode cX1_keepTypes 164 = .ok (.goto (-114), 3) := by decide +kernel
theorem dX1_keepTypes_167 : decode cX1_keepTypes 167 = .ok (.return_, 1) := by decide +kernel
theorem dX1_load_0 : decode cX1_load 0 = .ok (.aload_n 0, 1) := by decide +kernel
theorem dX1_load_1 : decode cX1_load 1 = .ok (.iload_n 2, 1) := by decide +kernel
theorem dX1_load_2 : decode cX1_load 2 = .ok (.invokevirtual 182, 3) := by decide +kernel
theorem dX1_load_5 : decode cX1_load 5 = .ok (.istore_n 3, 1) := by decide +kernel
theorem dX1_load_6 : decode cX1_load 6 = .ok (.iload_n 1, 1) := by decide +kernel
theorem dX1_load_7 : decode cX1_load 7 = .ok (.bipush 25, 2) := by decide +kernel
theorem dX1_load_9 : decode cX1_load 9 = .ok (.if_icmp .ne 41, 3) := by decide +kernel
theorem dX1_load_12 : decode cX1_load 12 = .ok (.aload_n 0, 1) := by decide +kernel
theorem dX1_load_13 : decode cX1_load 13 = .ok (.dup, 1) := by decide +kernel
theorem dX1_load_14 : decode cX1_load 14 = .ok (.getfield 161, 3) := by decide +kernel
theorem dX1_load_17 : decode cX1_load 17 = .ok (.iload_n 3, 1) := by decide +kernel
theorem dX1_load_18 : decode cX1_load 18 = .ok (.invokestatic 205, 3) := by decide +kernel
theorem dX1_load_21 : decode cX1_load 21 = .ok (.ifCond .ne 7, 3) := by decide +kernel
theorem dX1_load_24 : decode cX1_load 24 = .ok (.iconst 1, 1) := by decide +kernel
theorem dX1_load_25 : decode cX1_load 25 = .ok (.goto 4, 3) := by decide +kernel
theorem dX1_load_28 : decode cX1_load 28 = .ok (.iconst 0, 1) := by decide +kernel
theorem dX1_load_29 : decode cX1_load 29 = .ok (.ior, 1) := by decide +kernel
theorem dX1_load_30 : decode cX1_load 30 = .ok (.putfield 161, 3) := by decide +kernel
theorem dX1_load_33 : decode cX1_load 33 = .ok (.aload_n 0, 1) := by decide +kernel
theorem dX1_load_34 : decode cX1_load 34 = .ok (.iload_n 3, 1) := by decide +kernel
theorem dX1_load_35 : decode cX1_load 35 = .ok (.invokestatic 205, 3) := by decide +kernel
theorem dX1_load_38 : decode cX1_load 38 = .ok (.ifCond .eq 7, 3) := by decide +kernel
theorem dX1_load_41 : decode cX1_load 41 = .ok (.iload_n 3, 1) := by decide +kernel
theorem dX1_load_42 : decode cX1_load 42 = .ok (.goto 4, 3) := by decide +kernel
theorem dX1_load_45 : decode cX1_load 45 = .ok (.iconst 0, 1) := by decide +kernel
theorem dX1_load_46 : decode cX1_load 46 = .ok (.invokevirtual 211, 3) := by decide +kernel
theorem dX1_load_49 : decode cX1_load 49 = .ok (.return_, 1) := by decide +kernel
theorem dX1_load_50 : decode cX1_load 50 = .ok (.aload_n 0, 1) := by decide +kernel
theorem dX1_load_51 : decode cX1_load 51 = .ok (.dup, 1) := by decide +kernel
theorem dX1_load_52 : decode cX1_load 52 = .ok (.getfield 161, 3) := by decide +kernel
theorem dX1_load_55 : decode cX1_load 55 = .ok (.iload_n 1, 1) := by decide +kernel
theorem dX1_load_56 : decode cX1_load 56 = .ok (.bipush 21, 2) := by decide +kernel
theorem dX1_load_58 : decode cX1_load 58 = .ok (.if_icmp .ne 16, 3) := by decide +kernel
theorem dX1_load_61 : decode cX1_load 61 = .ok (.iload_n 3, 1) := by decide +kernel
theorem dX1_load_62 : decode cX1_load 62 = .ok (.iconst 1, 1) := by decide +kernel
theorem dX1_load_63 : decode cX1_load 63 = .ok (.if_icmp .eq 7, 3) := by decide +kernel
theorem dX1_load_66 : decode cX1_load 66 = .ok (.iconst 1, 1) := by decide +kernel
theorem dX1_load_67 : decode cX1_load 67 = .ok (.goto 28, 3) := by decide +kernel
theorem dX1_load_70 : decode cX1_load 70 = .ok (.iconst 0, 1) := by decide +kernel
theorem dX1_load_71 : decode cX1_load 71 = .ok (.goto 24, 3) := by decide +kernel
theorem dX1_load_74 : decode cX1_load 74 = .ok (.iload_n 3, 1) := by decide +kernel
theorem dX1_load_75 : decode cX1_load 75 = .ok (.iconst 2, 1) := by decide +kernel
theorem dX1_load_76 : decode cX1_load 76 = .ok (.if_icmp .ne 14, 3) := by decide +kernel
theorem dX1_load_79 : decode cX1_load 79 = .ok (.aload_n 0, 1) := by decide +kernel
theorem dX1_load_80 : decode cX1_load 80 = .ok (.iload_n 2, 1) := by decide +kernel
theorem dX1_load_81 : decode cX1_load 81 = .ok (.iconst 1, 1) := by decide +kernel
theorem dX1_load_82 : decode cX1_load 82 = .ok (.iadd, 1) := by decide +kernel
theorem dX1_load_83 : decode cX1_load 83 = .ok (.invokevirtual 182, 3) := by decide +kernel
theorem dX1_load_86 : decode cX1_load 86 = .ok (.iconst 3, 1) := by decide +kernel
theorem dX1_load_87 : decode cX1_load 87 = .ok (.if_icmp .eq 7, 3) := by decide +kernel
theorem dX1_load_90 : decode cX1_load 90 = .ok (.iconst 1, 1) := by decide +kernel
theorem dX1_load_91 : decode cX1_load 91 = .ok (.goto 4, 3) := by decide +kernel
theorem dX1_load_94 : decode cX1_load 94 = .ok (.iconst 0, 1) := by decide +kernel
theorem dX1_load_95 : decode cX1_load 95 = .ok (.ior, 1) := by decide +kernel
theorem dX1_load_96 : decode cX1_load 96 = .ok (.putfield 161, 3) := by decide +kernel
theorem dX1_load_99 : decode cX1_load 99 = .ok (.aload_n 0, 1) := by decide +kernel
theorem dX1_load_100 : decode cX1_load 100 = .ok (.iload_n 1, 1) := by decide +kernel
theorem dX1_load_101 : decode cX1_load 101 = .ok (.invokestatic 214, 3) := by decide +kernel
theorem dX1_load_104 : decode cX1_load 104 = .ok (.invokevirtual 195, 3) := by decide +kernel
theorem dX1_load_107 : decode cX1_load 107 = .ok (.return_, 1) := by decide +kernel
theorem dX1_lowerType_0 : decode cX1_lowerType 0 = .ok (.iload_n 0, 1) := by decide +kernel
theorem dX1_lowerType_1 : decode cX1_lowerType 1 = .ok (.tableswitch 52 1 7 #[43, 45, 47, 52, 52, 52, 49], 43) := by decide +kernel
theorem dX1_lowerType_44 : decode cX1_lowerType 44 = .ok (.iconst 1, 1) := by decide +kernel
theorem dX1_lowerType_45 : decode cX1_lowerType 45 = .ok (.ireturn, 1) := by decide +kernel
theorem dX1_lowerType_46 : decode cX1_lowerType 46 = .ok (.iconst 2, 1) := by decide +kernel
theorem dX1_lowerType_47 : decode cX1_lowerType 47 = .ok (.ireturn, 1) := by decide +kernel
theorem dX1_lowerType_48 : decode cX1_lowerType 48 = .ok (.iconst 4, 1) := by decide +kernel
theorem dX1_lowerType_49 : decode cX1_lowerType 49 = .ok (.ireturn, 1) := by decide +kernel
theorem dX1_lowerType_50 : decode cX1_lowerType 50 = .ok (.bipush 6, 2) := by decide +kernel
theorem dX1_lowerType_52 : decode cX1_lowerType 52 = .ok (.ireturn, 1) := by decide +kernel
theorem dX1_lowerType_53 : decode cX1_lowerType 53 = .ok (.iconst 0, 1) := by decide +kernel
theorem dX1_lowerType_54 : decode cX1_lowerType 54 = .ok (.ireturn, 1) := by decide +kernel
theorem dX1_makeRoom_0 : decode cX1_makeRoom 0 = .ok (.aload_n 0, 1) := by decide +kernel
theorem dX1_makeRoom_1 : decode cX1_makeRoom 1 = .ok (.getfield 22, 3) := by decide +kernel
theorem dX1_makeRoom_4 : decode cX1_makeRoom 4 = .ok (.arraylength, 1) := by decide +kernel
theorem dX1_makeRoom_5 : decode cX1_makeRoom 5 = .ok (.iload_n 1, 1) := by decide +kernel
theorem dX1_makeRoom_6 : decode cX1_makeRoom 6 = .ok (.if_icmp .ge 31, 3) := by decide +kernel
theorem dX1_makeRoom_9 : decode cX1_makeRoom 9 = .ok (.aload_n 0, 1) := by decide +kernel
theorem dX1_makeRoom_10 : decode cX1_makeRoom 10 = .ok (.bipush 96, 2) := by decide +kernel
theorem dX1_makeRoom_12 : decode cX1_makeRoom 12 = .ok (.iload_n 1, 1) := by decide +kernel
theorem dX1_makeRoom_13 : decode cX1_makeRoom 13 = .ok (.imul, 1) := by decide +kernel
theorem dX1_makeRoom_14 : decode cX1_makeRoom 14 = .ok (.newarray .byte, 2) := by decide +kernel
theorem dX1_makeRoom_16 : decode cX1_makeRoom 16 = .ok (.putfield 18, 3) := by decide +kernel
theorem dX1_makeRoom_19 : decode cX1_makeRoom 19 = .ok (.aload_n 0, 1) := by decide +kernel
theorem dX1_makeRoom_20 : decode cX1_makeRoom 20 = .ok (.iconst 2, 1) := by decide +kernel
theorem dX1_makeRoom_21 : decode cX1_makeRoom 21 = .ok (.iload_n 1, 1) := by decide +kernel
theorem dX1_makeRoom_22 : decode cX1_makeRoom 22 = .ok (.imul, 1) := by decide +kernel
theorem dX1_makeRoom_23 : decode cX1_makeRoom 23 = .ok (.newarray .boolean, 2) := by decide +kernel
theorem dX1_makeRoom_25 : decode cX1_makeRoom 25 = .ok (.putfield 22, 3) := by decide +kernel
theorem dX1_makeRoom_28 : decode cX1_makeRoom 28 = .ok (.aload_n 0, 1) := by decide +kernel
theorem dX1_makeRoom_29 : decode cX1_makeRoom 29 = .ok (.iconst 2, 1) := by decide +kernel
theorem dX1_makeRoom_30 : decode cX1_makeRoom 30 = .ok (.iload_n 1, 1) := by decide +kernel
theorem dX1_makeRoom_31 : decode cX1_makeRoom 31 = .ok (.imul, 1) := by decide +kernel
theorem dX1_makeRoom_32 : decode cX1_makeRoom 32 = .ok (.newarray .boolean, 2) := by decide +kernel
theorem dX1_makeRoom_34 : decode cX1_makeRoom 34 = .ok (.putfield 26, 3) := by decide +kernel
theorem dX1_makeRoom_37 : decode cX1_makeRoom 37 = .ok (.iconst 0, 1) := by decide +kernel
theorem dX1_makeRoom_38 : decode cX1_makeRoom 38 = .ok (.istore_n 2, 1) := by decide +kernel
theorem dX1_makeRoom_39 : decode cX1_makeRoom 39 = .ok (.iload_n 2, 1) := by decide +kernel
theorem dX1_makeRoom_40 : decode cX1_makeRoom 40 = .ok (.aload_n 0, 1) := by decide +kernel
theorem dX1_makeRoom_41 : decode cX1_makeRoom 41 = .ok (.getfield 22, 3) := by decide +kernel
theorem dX1_makeRoom_44 : decode cX1_makeRoom 44 = .ok (.arraylength, 1) := by decide +kernel
theorem dX1_makeRoom_45 : decode cX1_makeRoom 45 = .ok (.if_icmp .ge 23, 3) := by decide +kernel
theorem dX1_makeRoom_48 : decode cX1_makeRoom 48 = .ok (.aload_n 0, 1) := by decide +kernel
theorem dX1_makeRoom_49 : decode cX1_makeRoom 49 = .ok (.getfield 22, 3) := by decide +kernel
theorem dX1_makeRoom_52 : decode cX1_makeRoom 52 = .ok (.iload_n 2, 1) := by decide +kernel
theorem dX1_makeRoom_53 : decode cX1_makeRoom 53 = .ok (.iconst 0, 1) := by decide +kernel
theorem dX1_makeRoom_54 : decode cX1_makeRoom 54 = .ok (.bastore, 1) := by decide +kernel
theorem dX1_makeRoom_55 : decode cX1_makeRoom 55 = .ok (.aload_n 0, 1) := by decide +kernel
theorem dX1_makeRoom_56 : decode cX1_makeRoom 56 = .ok (.getfield 26, 3) := by decide +kernel
theorem dX1_makeRoom_59 : decode cX1_makeRoom 59 = .ok (.iload_n 2, 1) := by decide +kernel
theorem dX1_makeRoom_60 : decode cX1_makeRoom 60 = .ok (.iconst 0, 1) := by decide +kernel

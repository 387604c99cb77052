theorem dX1_comeTo_45 : decode cX1_comeTo 45 = .ok (.iconst 0, 1) := by decide +kernel
theorem dX1_comeTo_46 : decode cX1_comeTo 46 = .ok (.istore_n 3, 1) := by decide +kernel
theorem dX1_comeTo_47 : decode cX1_comeTo 47 = .ok (.iconst 0, 1) := by decide +kernel
theorem dX1_comeTo_48 : decode cX1_comeTo 48 = .ok (.istore 4, 2) := by decide +kernel
theorem dX1_comeTo_50 : decode cX1_comeTo 50 = .ok (.iload 4, 2) := by decide +kernel
theorem dX1_comeTo_52 : decode cX1_comeTo 52 = .ok (.bipush 24, 2) := by decide +kernel
theorem dX1_comeTo_54 : decode cX1_comeTo 54 = .ok (.aload_n 0, 1) := by decide +kernel
theorem dX1_comeTo_55 : decode cX1_comeTo 55 = .ok (.getfield 103, 3) := by decide +kernel
theorem dX1_comeTo_58 : decode cX1_comeTo 58 = .ok (.iadd, 1) := by decide +kernel
theorem dX1_comeTo_59 : decode cX1_comeTo 59 = .ok (.if_icmp .ge 93, 3) := by decide +kernel
theorem dX1_comeTo_62 : decode cX1_comeTo 62 = .ok (.iload 4, 2) := by decide +kernel
theorem dX1_comeTo_64 : decode cX1_comeTo 64 = .ok (.bipush 48, 2) := by decide +kernel
theorem dX1_comeTo_66 : decode cX1_comeTo 66 = .ok (.if_icmp .ge 86, 3) := by decide +kernel
theorem dX1_comeTo_69 : decode cX1_comeTo 69 = .ok (.iload_n 3, 1) := by decide +kernel
theorem dX1_comeTo_70 : decode cX1_comeTo 70 = .ok (.ifCond .eq 13, 3) := by decide +kernel
theorem dX1_comeTo_73 : decode cX1_comeTo 73 = .ok (.aload_n 0, 1) := by decide +kernel
theorem dX1_comeTo_74 : decode cX1_comeTo 74 = .ok (.getfield 29, 3) := by decide +kernel
theorem dX1_comeTo_77 : decode cX1_comeTo 77 = .ok (.iload 4, 2) := by decide +kernel
theorem dX1_comeTo_79 : decode cX1_comeTo 79 = .ok (.baload, 1) := by decide +kernel
theorem dX1_comeTo_80 : decode cX1_comeTo 80 = .ok (.goto 22, 3) := by decide +kernel
theorem dX1_comeTo_83 : decode cX1_comeTo 83 = .ok (.aload_n 0, 1) := by decide +kernel
theorem dX1_comeTo_84 : decode cX1_comeTo 84 = .ok (.getfield 18, 3) := by decide +kernel
theorem dX1_comeTo_87 : decode cX1_comeTo 87 = .ok (.iload_n 2, 1) := by decide +kernel
theorem dX1_comeTo_88 : decode cX1_comeTo 88 = .ok (.iload 4, 2) := by decide +kernel
theorem dX1_comeTo_90 : decode cX1_comeTo 90 = .ok (.iadd, 1) := by decide +kernel
theorem dX1_comeTo_91 : decode cX1_comeTo 91 = .ok (.baload, 1) := by decide +kernel
theorem dX1_comeTo_92 : decode cX1_comeTo 92 = .ok (.aload_n 0, 1) := by decide +kernel
theorem dX1_comeTo_93 : decode cX1_comeTo 93 = .ok (.getfield 29, 3) := by decide +kernel
theorem dX1_comeTo_96 : decode cX1_comeTo 96 = .ok (.iload 4, 2) := by decide +kernel
theorem dX1_comeTo_98 : decode cX1_comeTo 98 = .ok (.baload, 1) := by decide +kernel
theorem dX1_comeTo_99 : decode cX1_comeTo 99 = .ok (.invokestatic 109, 3) := by decide +kernel
theorem dX1_comeTo_102 : decode cX1_comeTo 102 = .ok (.istore 5, 2) := by decide +kernel
theorem dX1_comeTo_104 : decode cX1_comeTo 104 = .ok (.iload_n 3, 1) := by decide +kernel
theorem dX1_comeTo_105 : decode cX1_comeTo 105 = .ok (.ifCond .ne 17, 3) := by decide +kernel
theorem dX1_comeTo_108 : decode cX1_comeTo 108 = .ok (.iload 5, 2) := by decide +kernel
theorem dX1_comeTo_110 : decode cX1_comeTo 110 = .ok (.aload_n 0, 1) := by decide +kernel
theorem dX1_comeTo_111 : decode cX1_comeTo 111 = .ok (.getfield 18, 3) := by decide +kernel
theorem dX1_comeTo_114 : decode cX1_comeTo 114 = .ok (.iload_n 2, 1) := by decide +kernel
theorem dX1_comeTo_115 : decode cX1_comeTo 115 = .ok (.iload 4, 2) := by decide +kernel
theorem dX1_comeTo_117 : decode cX1_comeTo 117 = .ok (.iadd, 1) := by decide +kernel
theorem dX1_comeTo_118 : decode cX1_comeTo 118 = .ok (.baload, 1) := by decide +kernel
theorem dX1_comeTo_119 : decode cX1_comeTo 119 = .ok (.if_icmp .eq 27, 3) := by decide +kernel
theorem dX1_comeTo_122 : decode cX1_comeTo 122 = .ok (.aload_n 0, 1) := by decide +kernel
theorem dX1_comeTo_123 : decode cX1_comeTo 123 = .ok (.getfield 18, 3) := by decide +kernel
theorem dX1_comeTo_126 : decode cX1_comeTo 126 = .ok (.iload_n 2, 1) := by decide +kernel
theorem dX1_comeTo_127 : decode cX1_comeTo 127 = .ok (.iload 4, 2) := by decide +kernel
theorem dX1_comeTo_129 : decode cX1_comeTo 129 = .ok (.iadd, 1) := by decide +kernel
theorem dX1_comeTo_130 : decode cX1_comeTo 130 = .ok (.iload 5, 2) := by decide +kernel
theorem dX1_comeTo_132 : decode cX1_comeTo 132 = .ok (.i2b, 1) := by decide +kernel
theorem dX1_comeTo_133 : decode cX1_comeTo 133 = .ok (.bastore, 1) := by decide +kernel
theorem dX1_comeTo_134 : decode cX1_comeTo 134 = .ok (.aload_n 0, 1) := by decide +kernel
theorem dX1_comeTo_135 : decode cX1_comeTo 135 = .ok (.getfield 26, 3) := by decide +kernel
theorem dX1_comeTo_138 : decode cX1_comeTo 138 = .ok (.iload_n 1, 1) := by decide +kernel
theorem dX1_comeTo_139 : decode cX1_comeTo 139 = .ok (.iconst 1, 1) := by decide +kernel
theorem dX1_comeTo_140 : decode cX1_comeTo 140 = .ok (.bastore, 1) := by decide +kernel
theorem dX1_comeTo_141 : decode cX1_comeTo 141 = .ok (.aload_n 0, 1) := by decide +kernel
theorem dX1_comeTo_142 : decode cX1_comeTo 142 = .ok (.iconst 1, 1) := by decide +kernel
theorem dX1_comeTo_143 : decode cX1_comeTo 143 = .ok (.putfield 60, 3) := by decide +kernel
theorem dX1_comeTo_146 : decode cX1_comeTo 146 = .ok (.iinc 4 1, 3) := by decide +kernel
theorem dX1_comeTo_149 : decode cX1_comeTo 149 = .ok (.goto (-99), 3) := by decide +kernel
theorem dX1_comeTo_152 : decode cX1_comeTo 152 = .ok (.aload_n 0, 1) := by decide +kernel
theorem dX1_comeTo_153 : decode cX1_comeTo 153 = .ok (.getfield 22, 3) := by decide +kernel
theorem dX1_comeTo_156 : decode cX1_comeTo 156 = .ok (.iload_n 1, 1) := by decide +kernel
theorem dX1_comeTo_157 : decode cX1_comeTo 157 = .ok (.iconst 1, 1) := by decide +kernel
theorem dX1_comeTo_158 : decode cX1_comeTo 158 = .ok (.bastore, 1) := by decide +kernel
theorem dX1_comeTo_159 : decode cX1_comeTo 159 = .ok (.return_, 1) := by decide +kernel
theorem dX1_firstFault_0 : decode cX1_firstFault 0 = .ok (.aload_n 2, 1) := by decide +kernel
theorem dX1_firstFault_1 : decode cX1_firstFault 1 = .ok (.ifnonnull 5, 3) := by decide +kernel
theorem dX1_firstFault_4 : decode cX1_firstFault 4 = .ok (.iconst (-1), 1) := by decide +kernel
theorem dX1_firstFault_5 : decode cX1_firstFault 5 = .ok (.ireturn, 1) := by decide +kernel
theorem dX1_firstFault_6 : decode cX1_firstFault 6 = .ok (.aload_n 0, 1) := by decide +kernel
theorem dX1_firstFault_7 : decode cX1_firstFault 7 = .ok (.aload_n 1, 1) := by decide +kernel
theorem dX1_firstFault_8 : decode cX1_firstFault 8 = .ok (.putfield 32, 3) := by decide +kernel
theorem dX1_firstFault_11 : decode cX1_firstFault 11 = .ok (.aload_n 0, 1) := by decide +kernel
theorem dX1_firstFault_12 : decode cX1_firstFault 12 = .ok (.aload_n 2, 1) := by decide +kernel
theorem dX1_firstFault_13 : decode cX1_firstFault 13 = .ok (.putfield 36, 3) := by decide +kernel
theorem dX1_firstFault_16 : decode cX1_firstFault 16 = .ok (.aload_n 0, 1) := by decide +kernel
theorem dX1_firstFault_17 : decode cX1_firstFault 17 = .ok (.getfield 12, 3) := by decide +kernel
theorem dX1_firstFault_20 : decode cX1_firstFault 20 = .ok (.aload_n 0, 1) := by decide +kernel
theorem dX1_firstFault_21 : decode cX1_firstFault 21 = .ok (.getfield 32, 3) := by decide +kernel
theorem dX1_firstFault_24 : decode cX1_firstFault 24 = .ok (.aload_n 0, 1) := by decide +kernel
theorem dX1_firstFault_25 : decode cX1_firstFault 25 = .ok (.getfield 36, 3) := by decide +kernel
theorem dX1_firstFault_28 : decode cX1_firstFault 28 = .ok (.aload_n 0, 1) := by decide +kernel
theorem dX1_firstFault_29 : decode cX1_firstFault 29 = .ok (.getfield 36, 3) := by decide +kernel
theorem dX1_firstFault_32 : decode cX1_firstFault 32 = .ok (.getfield 40, 3) := by decide +kernel
theorem dX1_firstFault_35 : decode cX1_firstFault 35 = .ok (.invokevirtual 46, 3) := by decide +kernel
theorem dX1_firstFault_38 : decode cX1_firstFault 38 = .ok (.aload_n 0, 1) := by decide +kernel
theorem dX1_firstFault_39 : decode cX1_firstFault 39 = .ok (.aload_n 0, 1) := by decide +kernel
theorem dX1_firstFault_40 : decode cX1_firstFault 40 = .ok (.getfield 36, 3) := by decide +kernel
theorem dX1_firstFault_43 : decode cX1_firstFault 43 = .ok (.getfield 50, 3) := by decide +kernel
theorem dX1_firstFault_46 : decode cX1_firstFault 46 = .ok (.invokevirtual 53, 3) := by decide +kernel
theorem dX1_firstFault_49 : decode cX1_firstFault 49 = .ok (.aload_n 0, 1) := by decide +kernel
theorem dX1_firstFault_50 : decode cX1_firstFault 50 = .ok (.invokevirtual 57, 3) := by decide +kernel
theorem dX1_firstFault_53 : decode cX1_firstFault 53 = .ok (.aload_n 0, 1) := by decide +kernel
theorem dX1_firstFault_54 : decode cX1_firstFault 54 = .ok (.iconst 1, 1) := by decide +kernel
theorem dX1_firstFault_55 : decode cX1_firstFault 55 = .ok (.putfield 60, 3) := by decide +kernel
theorem dX1_firstFault_58 : decode cX1_firstFault 58 = .ok (.iconst 0, 1) := by decide +kernel
theorem dX1_firstFault_59 : decode cX1_firstFault 59 = .ok (.istore_n 3, 1) := by decide +kernel
theorem dX1_firstFault_60 : decode cX1_firstFault 60 = .ok (.aload_n 0, 1) := by decide +kernel
theorem dX1_firstFault_61 : decode cX1_firstFault 61 = .ok (.getfield 60, 3) := by decide +kernel
theorem dX1_firstFault_64 : decode cX1_firstFault 64 = .ok (.ifCond .eq 65, 3) := by decide +kernel
theorem dX1_firstFault_67 : decode cX1_firstFault 67 = .ok (.iload_n 3, 1) := by decide +kernel
theorem dX1_firstFault_68 : decode cX1_firstFault 68 = .ok (.ldc 64, 2) := by decide +kernel
theorem dX1_firstFault_70 : decode cX1_firstFault 70 = .ok (.if_icmp .ge 59, 3) := by decide +kernel
theorem dX1_firstFault_73 : decode cX1_firstFault 73 = .ok (.aload_n 0, 1) := by decide +kernel
theorem dX1_firstFault_74 : decode cX1_firstFault 74 = .ok (.iconst 0, 1) := by decide +kernel
theorem dX1_firstFault_75 : decode cX1_firstFault 75 = .ok (.putfield 60, 3) := by decide +kernel
theorem dX1_firstFault_78 : decode cX1_firstFault 78 = .ok (.iconst 0, 1) := by decide +kernel
theorem dX1_firstFault_79 : decode cX1_firstFault 79 = .ok (.istore 4, 2) := by decide +kernel
theorem dX1_firstFault_81 : decode cX1_firstFault 81 = .ok (.iload 4, 2) := by decide +kernel
theorem dX1_firstFault_83 : decode cX1_firstFault 83 = .ok (.aload_n 0, 1) := by decide +kernel
theorem dX1_firstFault_84 : decode cX1_firstFault 84 = .ok (.getfield 36, 3) := by decide +kernel
theorem dX1_firstFault_87 : decode cX1_firstFault 87 = .ok (.getfield 50, 3) := by decide +kernel
theorem dX1_firstFault_90 : decode cX1_firstFault 90 = .ok (.if_icmp .ge 33, 3) := by decide +kernel
theorem dX1_firstFault_93 : decode cX1_firstFault 93 = .ok (.aload_n 0, 1) := by decide +kernel
theorem dX1_firstFault_94 : decode cX1_firstFault 94 = .ok (.getfield 26, 3) := by decide +kernel
theorem dX1_firstFault_97 : decode cX1_firstFault 97 = .ok (.iload 4, 2) := by decide +kernel
theorem dX1_firstFault_99 : decode cX1_firstFault 99 = .ok (.baload, 1) := by decide +kernel
theorem dX1_firstFault_100 : decode cX1_firstFault 100 = .ok (.ifCond .eq 17, 3) := by decide +kernel
theorem dX1_firstFault_103 : decode cX1_firstFault 103 = .ok (.aload_n 0, 1) := by decide +kernel
theorem dX1_firstFault_104 : decode cX1_firstFault 104 = .ok (.getfield 26, 3) := by decide +kernel
theorem dX1_firstFault_107 : decode cX1_firstFault 107 = .ok (.iload 4, 2) := by decide +kernel
theorem dX1_firstFault_109 : decode cX1_firstFault 109 = .ok (.iconst 0, 1) := by decide +kernel
theorem dX1_firstFault_110 : decode cX1_firstFault 110 = .ok (.bastore, 1) := by decide +kernel
theorem dX1_firstFault_111 : decode cX1_firstFault 111 = .ok (.aload_n 0, 1) := by decide +kernel
theorem dX1_firstFault_112 : decode cX1_firstFault 112 = .ok (.iload 4, 2) := by decide +kernel
theorem dX1_firstFault_114 : decode cX1_firstFault 114 = .ok (.invokevirtual 65, 3) := by decide +kernel
theorem dX1_firstFault_117 : decode cX1_firstFault 117 = .ok (.iinc 4 1, 3) := by decide +kernel
theorem dX1_firstFault_120 : decode cX1_firstFault 120 = .ok (.goto (-39), 3) := by decide +kernel
theorem dX1_firstFault_123 : decode cX1_firstFault 123 = .ok (.iinc 3 1, 3) := by decide +kernel
theorem dX1_firstFault_126 : decode cX1_firstFault 126 = .ok (.goto (-66), 3) := by decide +kernel
theorem dX1_firstFault_129 : decode cX1_firstFault 129 = .ok (.iconst 0, 1) := by decide +kernel
theorem dX1_firstFault_130 : decode cX1_firstFault 130 = .ok (.istore_n 3, 1) := by decide +kernel
theorem dX1_firstFault_131 : decode cX1_firstFault 131 = .ok (.iload_n 3, 1) := by decide +kernel
theorem dX1_firstFault_132 : decode cX1_firstFault 132 = .ok (.aload_n 0, 1) := by decide +kernel
theorem dX1_firstFault_133 : decode cX1_firstFault 133 = .ok (.getfield 36, 3) := by decide +kernel
theorem dX1_firstFault_136 : decode cX1_firstFault 136 = .ok (.getfield 50, 3) := by decide +kernel
theorem dX1_firstFault_139 : decode cX1_firstFault 139 = .ok (.if_icmp .ge 30, 3) := by decide +kernel
theorem dX1_firstFault_142 : decode cX1_firstFault 142 = .ok (.aload_n 0, 1) := by decide +kernel
theorem dX1_firstFault_143 : decode cX1_firstFault 143 = .ok (.getfield 12, 3) := by decide +kernel
theorem dX1_firstFault_146 : decode cX1_firstFault 146 = .ok (.iload_n 3, 1) := by decide +kernel
theorem dX1_firstFault_147 : decode cX1_firstFault 147 = .ok (.invokevirtual 68, 3) := by decide +kernel
theorem dX1_firstFault_150 : decode cX1_firstFault 150 = .ok (.ifCond .ne 11, 3) := by decide +kernel
theorem dX1_firstFault_153 : decode cX1_firstFault 153 = .ok (.aload_n 0, 1) := by decide +kernel
theorem dX1_firstFault_154 : decode cX1_firstFault 154 = .ok (.iload_n 3, 1) := by decide +kernel
theorem dX1_firstFault_155 : decode cX1_firstFault 155 = .ok (.invokevirtual 72, 3) := by decide +kernel
theorem dX1_firstFault_158 : decode cX1_firstFault 158 = .ok (.ifCond .eq 5, 3) := by decide +kernel
theorem dX1_firstFault_161 : decode cX1_firstFault 161 = .ok (.iload_n 3, 1) := by decide +kernel
theorem dX1_firstFault_162 : decode cX1_firstFault 162 = .ok (.ireturn, 1) := by decide +kernel
theorem dX1_firstFault_163 : decode cX1_firstFault 163 = .ok (.iinc 3 1, 3) := by decide +kernel

theorem dX1_beginBody_43 : decode cX1_beginBody 43 = .ok (.iconst 0, 1) := by decide +kernel
theorem dX1_beginBody_44 : decode cX1_beginBody 44 = .ok (.istore 4, 2) := by decide +kernel
theorem dX1_beginBody_46 : decode cX1_beginBody 46 = .ok (.iload 4, 2) := by decide +kernel
theorem dX1_beginBody_48 : decode cX1_beginBody 48 = .ok (.iload_n 2, 1) := by decide +kernel
theorem dX1_beginBody_49 : decode cX1_beginBody 49 = .ok (.if_icmp .ge 55, 3) := by decide +kernel
theorem dX1_beginBody_52 : decode cX1_beginBody 52 = .ok (.iload_n 1, 1) := by decide +kernel
theorem dX1_beginBody_53 : decode cX1_beginBody 53 = .ok (.iload 4, 2) := by decide +kernel
theorem dX1_beginBody_55 : decode cX1_beginBody 55 = .ok (.invokestatic 92, 3) := by decide +kernel
theorem dX1_beginBody_58 : decode cX1_beginBody 58 = .ok (.istore 5, 2) := by decide +kernel
theorem dX1_beginBody_60 : decode cX1_beginBody 60 = .ok (.aload_n 0, 1) := by decide +kernel
theorem dX1_beginBody_61 : decode cX1_beginBody 61 = .ok (.iload_n 3, 1) := by decide +kernel
theorem dX1_beginBody_62 : decode cX1_beginBody 62 = .ok (.iload 5, 2) := by decide +kernel
theorem dX1_beginBody_64 : decode cX1_beginBody 64 = .ok (.invokestatic 96, 3) := by decide +kernel
theorem dX1_beginBody_67 : decode cX1_beginBody 67 = .ok (.invokevirtual 99, 3) := by decide +kernel
theorem dX1_beginBody_70 : decode cX1_beginBody 70 = .ok (.iload 5, 2) := by decide +kernel
theorem dX1_beginBody_72 : decode cX1_beginBody 72 = .ok (.iconst 2, 1) := by decide +kernel
theorem dX1_beginBody_73 : decode cX1_beginBody 73 = .ok (.if_icmp .ne 11, 3) := by decide +kernel
theorem dX1_beginBody_76 : decode cX1_beginBody 76 = .ok (.aload_n 0, 1) := by decide +kernel
theorem dX1_beginBody_77 : decode cX1_beginBody 77 = .ok (.iload_n 3, 1) := by decide +kernel
theorem dX1_beginBody_78 : decode cX1_beginBody 78 = .ok (.iconst 1, 1) := by decide +kernel
theorem dX1_beginBody_79 : decode cX1_beginBody 79 = .ok (.iadd, 1) := by decide +kernel
theorem dX1_beginBody_80 : decode cX1_beginBody 80 = .ok (.iconst 3, 1) := by decide +kernel
theorem dX1_beginBody_81 : decode cX1_beginBody 81 = .ok (.invokevirtual 99, 3) := by decide +kernel
theorem dX1_beginBody_84 : decode cX1_beginBody 84 = .ok (.iload_n 3, 1) := by decide +kernel
theorem dX1_beginBody_85 : decode cX1_beginBody 85 = .ok (.iload 5, 2) := by decide +kernel
theorem dX1_beginBody_87 : decode cX1_beginBody 87 = .ok (.iconst 2, 1) := by decide +kernel
theorem dX1_beginBody_88 : decode cX1_beginBody 88 = .ok (.if_icmp .ne 7, 3) := by decide +kernel
theorem dX1_beginBody_91 : decode cX1_beginBody 91 = .ok (.iconst 2, 1) := by decide +kernel
theorem dX1_beginBody_92 : decode cX1_beginBody 92 = .ok (.goto 4, 3) := by decide +kernel
theorem dX1_beginBody_95 : decode cX1_beginBody 95 = .ok (.iconst 1, 1) := by decide +kernel
theorem dX1_beginBody_96 : decode cX1_beginBody 96 = .ok (.iadd, 1) := by decide +kernel
theorem dX1_beginBody_97 : decode cX1_beginBody 97 = .ok (.istore_n 3, 1) := by decide +kernel
theorem dX1_beginBody_98 : decode cX1_beginBody 98 = .ok (.iinc 4 1, 3) := by decide +kernel
theorem dX1_beginBody_101 : decode cX1_beginBody 101 = .ok (.goto (-55), 3) := by decide +kernel
theorem dX1_beginBody_104 : decode cX1_beginBody 104 = .ok (.aload_n 0, 1) := by decide +kernel
theorem dX1_beginBody_105 : decode cX1_beginBody 105 = .ok (.iconst 0, 1) := by decide +kernel
theorem dX1_beginBody_106 : decode cX1_beginBody 106 = .ok (.putfield 103, 3) := by decide +kernel
theorem dX1_beginBody_109 : decode cX1_beginBody 109 = .ok (.aload_n 0, 1) := by decide +kernel
theorem dX1_beginBody_110 : decode cX1_beginBody 110 = .ok (.iconst 0, 1) := by decide +kernel
theorem dX1_beginBody_111 : decode cX1_beginBody 111 = .ok (.invokevirtual 106, 3) := by decide +kernel
theorem dX1_beginBody_114 : decode cX1_beginBody 114 = .ok (.return_, 1) := by decide +kernel
theorem dX1_comeTo_0 : decode cX1_comeTo 0 = .ok (.iload_n 1, 1) := by decide +kernel
theorem dX1_comeTo_1 : decode cX1_comeTo 1 = .ok (.ifCond .lt 25, 3) := by decide +kernel
theorem dX1_comeTo_4 : decode cX1_comeTo 4 = .ok (.iload_n 1, 1) := by decide +kernel
theorem dX1_comeTo_5 : decode cX1_comeTo 5 = .ok (.aload_n 0, 1) := by decide +kernel
theorem dX1_comeTo_6 : decode cX1_comeTo 6 = .ok (.getfield 36, 3) := by decide +kernel
theorem dX1_comeTo_9 : decode cX1_comeTo 9 = .ok (.getfield 50, 3) := by decide +kernel
theorem dX1_comeTo_12 : decode cX1_comeTo 12 = .ok (.if_icmp .ge 14, 3) := by decide +kernel
theorem dX1_comeTo_15 : decode cX1_comeTo 15 = .ok (.aload_n 0, 1) := by decide +kernel
theorem dX1_comeTo_16 : decode cX1_comeTo 16 = .ok (.getfield 12, 3) := by decide +kernel
theorem dX1_comeTo_19 : decode cX1_comeTo 19 = .ok (.iload_n 1, 1) := by decide +kernel
theorem dX1_comeTo_20 : decode cX1_comeTo 20 = .ok (.invokevirtual 68, 3) := by decide +kernel
theorem dX1_comeTo_23 : decode cX1_comeTo 23 = .ok (.ifCond .eq 4, 3) := by decide +kernel
theorem dX1_comeTo_26 : decode cX1_comeTo 26 = .ok (.return_, 1) := by decide +kernel
theorem dX1_comeTo_27 : decode cX1_comeTo 27 = .ok (.iload_n 1, 1) := by decide +kernel
theorem dX1_comeTo_28 : decode cX1_comeTo 28 = .ok (.bipush 48, 2) := by decide +kernel
theorem dX1_comeTo_30 : decode cX1_comeTo 30 = .ok (.imul, 1) := by decide +kernel
theorem dX1_comeTo_31 : decode cX1_comeTo 31 = .ok (.istore_n 2, 1) := by decide +kernel
theorem dX1_comeTo_32 : decode cX1_comeTo 32 = .ok (.aload_n 0, 1) := by decide +kernel
theorem dX1_comeTo_33 : decode cX1_comeTo 33 = .ok (.getfield 22, 3) := by decide +kernel
theorem dX1_comeTo_36 : decode cX1_comeTo 36 = .ok (.iload_n 1, 1) := by decide +kernel
theorem dX1_comeTo_37 : decode cX1_comeTo 37 = .ok (.baload, 1) := by decide +kernel
theorem dX1_comeTo_38 : decode cX1_comeTo 38 = .ok (.ifCond .ne 7, 3) := by decide +kernel
theorem dX1_comeTo_41 : decode cX1_comeTo 41 = .ok (.iconst 1, 1) := by decide +kernel
theorem dX1_comeTo_42 : decode cX1_comeTo 42 = .ok (.goto 4, 3) := by decide +kernel
theorem dX1_comeTo_45 : decode cX1_comeTo 45 = .ok (.iconst 0, 1) := by decide +kernel
theorem dX1_comeTo_46 : decode cX1_comeTo 46 = .ok (.istore_n 3, 1) := by decide +kernel
theorem dX1_comeTo_47 : decode cX1_comeTo 47 = .ok (.iconst 0, 1) := by decide +kernel
theorem dX1_comeTo_48 : decode cX1_comeTo 48 = .ok (.istore 4, 2) := by decide +kernel
theorem dX1_comeTo_50 : decode cX1_comeTo 50 = .ok (.iload 4, 2) := by decide +kernel
theorem dX1_comeTo_52 : decode cX1_comeTo 52 = .ok (.bipush 24, 2) := by decide +kernel
theorem dX1_comeTo_54 : decode cX1_comeTo 54 = .ok (.aload_n 0, 1) := by decide +kernel
theorem dX1_comeTo_55 : decode cX1_comeTo 55 = .ok (.getfield 103, 3) := by decide +kernel
theorem dX1_comeTo_58 : decode cX1_comeTo 58 = .ok (.iadd, 1) := by decide +kernel
theorem dX1_comeTo_59 : decode cX1_comeTo 59 = .ok (.if_icmp .ge 93, 3) := by decide +kernel
theorem dX1_comeTo_62 : decode cX1_comeTo 62 = .ok (.iload 4, 2) := by decide +kernel
theorem dX1_comeTo_64 : decode cX1_comeTo 64 = .ok (.bipush 48, 2) := by decide +kernel
theorem dX1_comeTo_66 : decode cX1_comeTo 66 = .ok (.if_icmp .ge 86, 3) := by decide +kernel
theorem dX1_comeTo_69 : decode cX1_comeTo 69 = .ok (.iload_n 3, 1) := by decide +kernel
theorem dX1_comeTo_70 : decode cX1_comeTo 70 = .ok (.ifCond .eq 13, 3) := by decide +kernel
theorem dX1_comeTo_73 : decode cX1_comeTo 73 = .ok (.aload_n 0, 1) := by decide +kernel
theorem dX1_comeTo_74 : decode cX1_comeTo 74 = .ok (.getfield 29, 3) := by decide +kernel
theorem dX1_comeTo_77 : decode cX1_comeTo 77 = .ok (.iload 4, 2) := by decide +kernel
theorem dX1_comeTo_79 : decode cX1_comeTo 79 = .ok (.baload, 1) := by decide +kernel
theorem dX1_comeTo_80 : decode cX1_comeTo 80 = .ok (.goto 22, 3) := by decide +kernel
theorem dX1_comeTo_83 : decode cX1_comeTo 83 = .ok (.aload_n 0, 1) := by decide +kernel
theorem dX1_comeTo_84 : decode cX1_comeTo 84 = .ok (.getfield 18, 3) := by decide +kernel
theorem dX1_comeTo_87 : decode cX1_comeTo 87 = .ok (.iload_n 2, 1) := by decide +kernel
theorem dX1_comeTo_88 : decode cX1_comeTo 88 = .ok (.iload 4, 2) := by decide +kernel
theorem dX1_comeTo_90 : decode cX1_comeTo 90 = .ok (.iadd, 1) := by decide +kernel
theorem dX1_comeTo_91 : decode cX1_comeTo 91 = .ok (.baload, 1) := by decide +kernel
theorem dX1_comeTo_92 : decode cX1_comeTo 92 = .ok (.aload_n 0, 1) := by decide +kernel
theorem dX1_comeTo_93 : decode cX1_comeTo 93 = .ok (.getfield 29, 3) := by decide +kernel
theorem dX1_comeTo_96 : decode cX1_comeTo 96 = .ok (.iload 4, 2) := by decide +kernel
theorem dX1_comeTo_98 : decode cX1_comeTo 98 = .ok (.baload, 1) := by decide +kernel
theorem dX1_comeTo_99 : decode cX1_comeTo 99 = .ok (.invokestatic 109, 3) := by decide +kernel
theorem dX1_comeTo_102 : decode cX1_comeTo 102 = .ok (.istore 5, 2) := by decide +kernel
theorem dX1_comeTo_104 : decode cX1_comeTo 104 = .ok (.iload_n 3, 1) := by decide +kernel
theorem dX1_comeTo_105 : decode cX1_comeTo 105 = .ok (.ifCond .ne 17, 3) := by decide +kernel
theorem dX1_comeTo_108 : decode cX1_comeTo 108 = .ok (.iload 5, 2) := by decide +kernel
theorem dX1_comeTo_110 : decode cX1_comeTo 110 = .ok (.aload_n 0, 1) := by decide +kernel
theorem dX1_comeTo_111 : decode cX1_comeTo 111 = .ok (.getfield 18, 3) := by decide +kernel
theorem dX1_comeTo_114 : decode cX1_comeTo 114 = .ok (.iload_n 2, 1) := by decide +kernel
theorem dX1_comeTo_115 : decode cX1_comeTo 115 = .ok (.iload 4, 2) := by decide +kernel
theorem dX1_comeTo_117 : decode cX1_comeTo 117 = .ok (.iadd, 1) := by decide +kernel
theorem dX1_comeTo_118 : decode cX1_comeTo 118 = .ok (.baload, 1) := by decide +kernel
theorem dX1_comeTo_119 : decode cX1_comeTo 119 = .ok (.if_icmp .eq 27, 3) := by decide +kernel
theorem dX1_comeTo_122 : decode cX1_comeTo 122 = .ok (.aload_n 0, 1) := by decide +kernel
theorem dX1_comeTo_123 : decode cX1_comeTo 123 = .ok (.getfield 18, 3) := by decide +kernel
theorem dX1_comeTo_126 : decode cX1_comeTo 126 = .ok (.iload_n 2, 1) := by decide +kernel
theorem dX1_comeTo_127 : decode cX1_comeTo 127 = .ok (.iload 4, 2) := by decide +kernel
theorem dX1_comeTo_129 : decode cX1_comeTo 129 = .ok (.iadd, 1) := by decide +kernel
theorem dX1_comeTo_130 : decode cX1_comeTo 130 = .ok (.iload 5, 2) := by decide +kernel
theorem dX1_comeTo_132 : decode cX1_comeTo 132 = .ok (.i2b, 1) := by decide +kernel
theorem dX1_comeTo_133 : decode cX1_comeTo 133 = .ok (.bastore, 1) := by decide +kernel
theorem dX1_comeTo_134 : decode cX1_comeTo 134 = .ok (.aload_n 0, 1) := by decide +kernel
theorem dX1_comeTo_135 : decode cX1_comeTo 135 = .ok (.getfield 26, 3) := by decide +kernel
theorem dX1_comeTo_138 : decode cX1_comeTo 138 = .ok (.iload_n 1, 1) := by decide +kernel
theorem dX1_comeTo_139 : decode cX1_comeTo 139 = .ok (.iconst 1, 1) := by decide +kernel
theorem dX1_comeTo_140 : decode cX1_comeTo 140 = .ok (.bastore, 1) := by decide +kernel
theorem dX1_comeTo_141 : decode cX1_comeTo 141 = .ok (.aload_n 0, 1) := by decide +kernel
theorem dX1_comeTo_142 : decode cX1_comeTo 142 = .ok (.iconst 1, 1) := by decide +kernel
theorem dX1_comeTo_143 : decode cX1_comeTo 143 = .ok (.putfield 60, 3) := by decide +kernel
theorem dX1_comeTo_146 : decode cX1_comeTo 146 = .ok (.iinc 4 1, 3) := by decide +kernel
theorem dX1_comeTo_149 : decode cX1_comeTo 149 = .ok (.goto (-99), 3) := by decide +kernel
theorem dX1_comeTo_152 : decode cX1_comeTo 152 = .ok (.aload_n 0, 1) := by decide +kernel
theorem dX1_comeTo_153 : decode cX1_comeTo 153 = .ok (.getfield 22, 3) := by decide +kernel
theorem dX1_comeTo_156 : decode cX1_comeTo 156 = .ok (.iload_n 1, 1) := by decide +kernel
theorem dX1_comeTo_157 : decode cX1_comeTo 157 = .ok (.iconst 1, 1) := by decide +kernel
theorem dX1_comeTo_158 : decode cX1_comeTo 158 = .ok (.bastore, 1) := by decide +kernel
theorem dX1_comeTo_159 : decode cX1_comeTo 159 = .ok (.return_, 1) := by decide +kernel
theorem dX1_firstFault_0 : decode cX1_firstFault 0 = .ok (.aload_n 2, 1) := by decide +kernel
theorem dX1_firstFault_1 : decode cX1_firstFault 1 = .ok (.ifnonnull 5, 3) := by decide +kernel
theorem dX1_firstFault_4 : decode cX1_firstFault 4 = .ok (.iconst (-1), 1) := by decide +kernel
theorem dX1_firstFault_5 : decode cX1_firstFault 5 = .ok (.ireturn, 1) := by decide +kernel
theorem dX1_firstFault_6 : decode cX1_firstFault 6 = .ok (.aload_n 0, 1) := by decide +kernel
theorem dX1_firstFault_7 : decode cX1_firstFault 7 = .ok (.aload_n 1, 1) := by decide +kernel
theorem dX1_firstFault_8 : decode cX1_firstFault 8 = .ok (.putfield 32, 3) := by decide +kernel
theorem dX1_firstFault_11 : decode cX1_firstFault 11 = .ok (.aload_n 0, 1) := by decide +kernel
theorem dX1_firstFault_12 : decode cX1_firstFault 12 = .ok (.aload_n 2, 1) := by decide +kernel
theorem dX1_firstFault_13 : decode cX1_firstFault 13 = .ok (.putfield 36, 3) := by decide +kernel
theorem dX1_firstFault_16 : decode cX1_firstFault 16 = .ok (.aload_n 0, 1) := by decide +kernel
theorem dX1_firstFault_17 : decode cX1_firstFault 17 = .ok (.getfield 12, 3) := by decide +kernel
theorem dX1_firstFault_20 : decode cX1_firstFault 20 = .ok (.aload_n 0, 1) := by decide +kernel
theorem dX1_firstFault_21 : decode cX1_firstFault 21 = .ok (.getfield 32, 3) := by decide +kernel
theorem dX1_firstFault_24 : decode cX1_firstFault 24 = .ok (.aload_n 0, 1) := by decide +kernel
theorem dX1_firstFault_25 : decode cX1_firstFault 25 = .ok (.getfield 36, 3) := by decide +kernel
theorem dX1_firstFault_28 : decode cX1_firstFault 28 = .ok (.aload_n 0, 1) := by decide +kernel
theorem dX1_firstFault_29 : decode cX1_firstFault 29 = .ok (.getfield 36, 3) := by decide +kernel
theorem dX1_firstFault_32 : decode cX1_firstFault 32 = .ok (.getfield 40, 3) := by decide +kernel

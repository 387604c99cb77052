theorem dX1_firstFault_35 : decode cX1_firstFault 35 = .ok (.invokevirtual 46, 3) := by decide +kernel
theorem dX1_firstFault_38 : decode cX1_firstFault 38 = .ok (.aload_n 0, 1) := by decide +kernel
theorem dX1_firstFault_39 : decode cX1_firstFault 39 = .ok (.aload_n 0, 1) := by decide +kernel
theorem dX1_firstFault_40 : decode cX1_firstFault 40 = .ok (.getfield 36, 3) := by decide +kernel
theorem dX1_firstFault_43 : decode cX1_firstFault 43 = .ok (.getfield 50, 3) := by decide +kernel
theorem dX1_firstFault_46 : decode cX1_firstFault 46 = .ok (.invokevirtual 53, 3) := by decide +kernel
theorem dX1_firstFault_49 : decode cX1_firstFault 49 = .ok (.aload_n 0, 1) := by decide +kernel
theorem dX1_firstFault_50 : decode cX1_firstFault 50 = .ok (.invokevirtual 57, 3) := by decide +kernel
theorem dX1_firstFault_53 : decode cX1_firstFault 53 = .ok (.aload_n 0, 1) := by decide +kernel
theorem dX1_firstFault_54 : decode cX1_firstFault 54 = .ok (.iconst 1, 1) := by decide +kernel
theorem dX1_firstFault_55 : decode cX1_firstFault 55 = .ok (.putfield 60, 3) := by decide +kernel
theorem dX1_firstFault_58 : decode cX1_firstFault 58 = .ok (.iconst 0, 1) := by decide +kernel
theorem dX1_firstFault_59 : decode cX1_firstFault 59 = .ok (.istore_n 3, 1) := by decide +kernel
theorem dX1_firstFault_60 : decode cX1_firstFault 60 = .ok (.aload_n 0, 1) := by decide +kernel
theorem dX1_firstFault_61 : decode cX1_firstFault 61 = .ok (.getfield 60, 3) := by decide +kernel
theorem dX1_firstFault_64 : decode cX1_firstFault 64 = .ok (.ifCond .eq 65, 3) := by decide +kernel
theorem dX1_firstFault_67 : decode cX1_firstFault 67 = .ok (.iload_n 3, 1) := by decide +kernel
theorem dX1_firstFault_68 : decode cX1_firstFault 68 = .ok (.ldc 64, 2) := by decide +kernel
theorem dX1_firstFault_70 : decode cX1_firstFault 70 = .ok (.if_icmp .ge 59, 3) := by decide +kernel
theorem dX1_firstFault_73 : decode cX1_firstFault 73 = .ok (.aload_n 0, 1) := by decide +kernel
theorem dX1_firstFault_74 : decode cX1_firstFault 74 = .ok (.iconst 0, 1) := by decide +kernel
theorem dX1_firstFault_75 : decode cX1_firstFault 75 = .ok (.putfield 60, 3) := by decide +kernel
theorem dX1_firstFault_78 : decode cX1_firstFault 78 = .ok (.iconst 0, 1) := by decide +kernel
theorem dX1_firstFault_79 : decode cX1_firstFault 79 = .ok (.istore 4, 2) := by decide +kernel
theorem dX1_firstFault_81 : decode cX1_firstFault 81 = .ok (.iload 4, 2) := by decide +kernel
theorem dX1_firstFault_83 : decode cX1_firstFault 83 = .ok (.aload_n 0, 1) := by decide +kernel
theorem dX1_firstFault_84 : decode cX1_firstFault 84 = .ok (.getfield 36, 3) := by decide +kernel
theorem dX1_firstFault_87 : decode cX1_firstFault 87 = .ok (.getfield 50, 3) := by decide +kernel
theorem dX1_firstFault_90 : decode cX1_firstFault 90 = .ok (.if_icmp .ge 33, 3) := by decide +kernel
theorem dX1_firstFault_93 : decode cX1_firstFault 93 = .ok (.aload_n 0, 1) := by decide +kernel
theorem dX1_firstFault_94 : decode cX1_firstFault 94 = .ok (.getfield 26, 3) := by decide +kernel
theorem dX1_firstFault_97 : decode cX1_firstFault 97 = .ok (.iload 4, 2) := by decide +kernel
theorem dX1_firstFault_99 : decode cX1_firstFault 99 = .ok (.baload, 1) := by decide +kernel
theorem dX1_firstFault_100 : decode cX1_firstFault 100 = .ok (.ifCond .eq 17, 3) := by decide +kernel
theorem dX1_firstFault_103 : decode cX1_firstFault 103 = .ok (.aload_n 0, 1) := by decide +kernel
theorem dX1_firstFault_104 : decode cX1_firstFault 104 = .ok (.getfield 26, 3) := by decide +kernel
theorem dX1_firstFault_107 : decode cX1_firstFault 107 = .ok (.iload 4, 2) := by decide +kernel
theorem dX1_firstFault_109 : decode cX1_firstFault 109 = .ok (.iconst 0, 1) := by decide +kernel
theorem dX1_firstFault_110 : decode cX1_firstFault 110 = .ok (.bastore, 1) := by decide +kernel
theorem dX1_firstFault_111 : decode cX1_firstFault 111 = .ok (.aload_n 0, 1) := by decide +kernel
theorem dX1_firstFault_112 : decode cX1_firstFault 112 = .ok (.iload 4, 2) := by decide +kernel
theorem dX1_firstFault_114 : decode cX1_firstFault 114 = .ok (.invokevirtual 65, 3) := by decide +kernel
theorem dX1_firstFault_117 : decode cX1_firstFault 117 = .ok (.iinc 4 1, 3) := by decide +kernel
theorem dX1_firstFault_120 : decode cX1_firstFault 120 = .ok (.goto (-39), 3) := by decide +kernel
theorem dX1_firstFault_123 : decode cX1_firstFault 123 = .ok (.iinc 3 1, 3) := by decide +kernel
theorem dX1_firstFault_126 : decode cX1_firstFault 126 = .ok (.goto (-66), 3) := by decide +kernel
theorem dX1_firstFault_129 : decode cX1_firstFault 129 = .ok (.iconst 0, 1) := by decide +kernel
theorem dX1_firstFault_130 : decode cX1_firstFault 130 = .ok (.istore_n 3, 1) := by decide +kernel
theorem dX1_firstFault_131 : decode cX1_firstFault 131 = .ok (.iload_n 3, 1) := by decide +kernel
theorem dX1_firstFault_132 : decode cX1_firstFault 132 = .ok (.aload_n 0, 1) := by decide +kernel
theorem dX1_firstFault_133 : decode cX1_firstFault 133 = .ok (.getfield 36, 3) := by decide +kernel
theorem dX1_firstFault_136 : decode cX1_firstFault 136 = .ok (.getfield 50, 3) := by decide +kernel
theorem dX1_firstFault_139 : decode cX1_firstFault 139 = .ok (.if_icmp .ge 30, 3) := by decide +kernel
theorem dX1_firstFault_142 : decode cX1_firstFault 142 = .ok (.aload_n 0, 1) := by decide +kernel
theorem dX1_firstFault_143 : decode cX1_firstFault 143 = .ok (.getfield 12, 3) := by decide +kernel
theorem dX1_firstFault_146 : decode cX1_firstFault 146 = .ok (.iload_n 3, 1) := by decide +kernel
theorem dX1_firstFault_147 : decode cX1_firstFault 147 = .ok (.invokevirtual 68, 3) := by decide +kernel
theorem dX1_firstFault_150 : decode cX1_firstFault 150 = .ok (.ifCond .ne 11, 3) := by decide +kernel
theorem dX1_firstFault_153 : decode cX1_firstFault 153 = .ok (.aload_n 0, 1) := by decide +kernel
theorem dX1_firstFault_154 : decode cX1_firstFault 154 = .ok (.iload_n 3, 1) := by decide +kernel
theorem dX1_firstFault_155 : decode cX1_firstFault 155 = .ok (.invokevirtual 72, 3) := by decide +kernel
theorem dX1_firstFault_158 : decode cX1_firstFault 158 = .ok (.ifCond .eq 5, 3) := by decide +kernel
theorem dX1_firstFault_161 : decode cX1_firstFault 161 = .ok (.iload_n 3, 1) := by decide +kernel
theorem dX1_firstFault_162 : decode cX1_firstFault 162 = .ok (.ireturn, 1) := by decide +kernel
theorem dX1_firstFault_163 : decode cX1_firstFault 163 = .ok (.iinc 3 1, 3) := by decide +kernel
theorem dX1_firstFault_166 : decode cX1_firstFault 166 = .ok (.goto (-35), 3) := by decide +kernel
theorem dX1_firstFault_169 : decode cX1_firstFault 169 = .ok (.aload_n 0, 1) := by decide +kernel
theorem dX1_firstFault_170 : decode cX1_firstFault 170 = .ok (.invokevirtual 75, 3) := by decide +kernel
theorem dX1_firstFault_173 : decode cX1_firstFault 173 = .ok (.iconst (-1), 1) := by decide +kernel
theorem dX1_firstFault_174 : decode cX1_firstFault 174 = .ok (.ireturn, 1) := by decide +kernel
theorem dX1_flowFrom_0 : decode cX1_flowFrom 0 = .ok (.aload_n 0, 1) := by decide +kernel
theorem dX1_flowFrom_1 : decode cX1_flowFrom 1 = .ok (.getfield 36, 3) := by decide +kernel
theorem dX1_flowFrom_4 : decode cX1_flowFrom 4 = .ok (.iload_n 1, 1) := by decide +kernel
theorem dX1_flowFrom_5 : decode cX1_flowFrom 5 = .ok (.invokevirtual 129, 3) := by decide +kernel
theorem dX1_flowFrom_8 : decode cX1_flowFrom 8 = .ok (.ifCond .eq 64, 3) := by decide +kernel
theorem dX1_flowFrom_11 : decode cX1_flowFrom 11 = .ok (.aload_n 0, 1) := by decide +kernel
theorem dX1_flowFrom_12 : decode cX1_flowFrom 12 = .ok (.iload_n 1, 1) := by decide +kernel
theorem dX1_flowFrom_13 : decode cX1_flowFrom 13 = .ok (.invokevirtual 132, 3) := by decide +kernel
theorem dX1_flowFrom_16 : decode cX1_flowFrom 16 = .ok (.aload_n 0, 1) := by decide +kernel
theorem dX1_flowFrom_17 : decode cX1_flowFrom 17 = .ok (.iconst 1, 1) := by decide +kernel
theorem dX1_flowFrom_18 : decode cX1_flowFrom 18 = .ok (.putfield 103, 3) := by decide +kernel
theorem dX1_flowFrom_21 : decode cX1_flowFrom 21 = .ok (.aload_n 0, 1) := by decide +kernel
theorem dX1_flowFrom_22 : decode cX1_flowFrom 22 = .ok (.bipush 24, 2) := by decide +kernel
theorem dX1_flowFrom_24 : decode cX1_flowFrom 24 = .ok (.iconst 5, 1) := by decide +kernel
theorem dX1_flowFrom_25 : decode cX1_flowFrom 25 = .ok (.invokevirtual 99, 3) := by decide +kernel
theorem dX1_flowFrom_28 : decode cX1_flowFrom 28 = .ok (.iconst 0, 1) := by decide +kernel
theorem dX1_flowFrom_29 : decode cX1_flowFrom 29 = .ok (.istore_n 2, 1) := by decide +kernel
theorem dX1_flowFrom_30 : decode cX1_flowFrom 30 = .ok (.iload_n 2, 1) := by decide +kernel
theorem dX1_flowFrom_31 : decode cX1_flowFrom 31 = .ok (.aload_n 0, 1) := by decide +kernel
theorem dX1_flowFrom_32 : decode cX1_flowFrom 32 = .ok (.getfield 36, 3) := by decide +kernel
theorem dX1_flowFrom_35 : decode cX1_flowFrom 35 = .ok (.getfield 135, 3) := by decide +kernel
theorem dX1_flowFrom_38 : decode cX1_flowFrom 38 = .ok (.if_icmp .ge 34, 3) := by decide +kernel
theorem dX1_flowFrom_41 : decode cX1_flowFrom 41 = .ok (.aload_n 0, 1) := by decide +kernel
theorem dX1_flowFrom_42 : decode cX1_flowFrom 42 = .ok (.getfield 36, 3) := by decide +kernel
theorem dX1_flowFrom_45 : decode cX1_flowFrom 45 = .ok (.iload_n 2, 1) := by decide +kernel
theorem dX1_flowFrom_46 : decode cX1_flowFrom 46 = .ok (.iload_n 1, 1) := by decide +kernel
theorem dX1_flowFrom_47 : decode cX1_flowFrom 47 = .ok (.invokevirtual 138, 3) := by decide +kernel
theorem dX1_flowFrom_50 : decode cX1_flowFrom 50 = .ok (.ifCond .eq 16, 3) := by decide +kernel
theorem dX1_flowFrom_53 : decode cX1_flowFrom 53 = .ok (.aload_n 0, 1) := by decide +kernel
theorem dX1_flowFrom_54 : decode cX1_flowFrom 54 = .ok (.aload_n 0, 1) := by decide +kernel
theorem dX1_flowFrom_55 : decode cX1_flowFrom 55 = .ok (.getfield 36, 3) := by decide +kernel
theorem dX1_flowFrom_58 : decode cX1_flowFrom 58 = .ok (.getfield 142, 3) := by decide +kernel
theorem dX1_flowFrom_61 : decode cX1_flowFrom 61 = .ok (.iload_n 2, 1) := by decide +kernel
theorem dX1_flowFrom_62 : decode cX1_flowFrom 62 = .ok (.iaload, 1) := by decide +kernel
theorem dX1_flowFrom_63 : decode cX1_flowFrom 63 = .ok (.invokevirtual 106, 3) := by decide +kernel
theorem dX1_flowFrom_66 : decode cX1_flowFrom 66 = .ok (.iinc 2 1, 3) := by decide +kernel
theorem dX1_flowFrom_69 : decode cX1_flowFrom 69 = .ok (.goto (-39), 3) := by decide +kernel
theorem dX1_flowFrom_72 : decode cX1_flowFrom 72 = .ok (.aload_n 0, 1) := by decide +kernel
theorem dX1_flowFrom_73 : decode cX1_flowFrom 73 = .ok (.iload_n 1, 1) := by decide +kernel
theorem dX1_flowFrom_74 : decode cX1_flowFrom 74 = .ok (.invokevirtual 132, 3) := by decide +kernel
theorem dX1_flowFrom_77 : decode cX1_flowFrom 77 = .ok (.aload_n 0, 1) := by decide +kernel
theorem dX1_flowFrom_78 : decode cX1_flowFrom 78 = .ok (.iload_n 1, 1) := by decide +kernel
theorem dX1_flowFrom_79 : decode cX1_flowFrom 79 = .ok (.invokevirtual 146, 3) := by decide +kernel
theorem dX1_flowFrom_82 : decode cX1_flowFrom 82 = .ok (.aload_n 0, 1) := by decide +kernel
theorem dX1_flowFrom_83 : decode cX1_flowFrom 83 = .ok (.getfield 36, 3) := by decide +kernel
theorem dX1_flowFrom_86 : decode cX1_flowFrom 86 = .ok (.iload_n 1, 1) := by decide +kernel
theorem dX1_flowFrom_87 : decode cX1_flowFrom 87 = .ok (.invokevirtual 149, 3) := by decide +kernel
theorem dX1_flowFrom_90 : decode cX1_flowFrom 90 = .ok (.invokestatic 152, 3) := by decide +kernel
theorem dX1_flowFrom_93 : decode cX1_flowFrom 93 = .ok (.ifCond .eq 10, 3) := by decide +kernel
theorem dX1_flowFrom_96 : decode cX1_flowFrom 96 = .ok (.aload_n 0, 1) := by decide +kernel
theorem dX1_flowFrom_97 : decode cX1_flowFrom 97 = .ok (.iload_n 1, 1) := by decide +kernel
theorem dX1_flowFrom_98 : decode cX1_flowFrom 98 = .ok (.iconst 1, 1) := by decide +kernel
theorem dX1_flowFrom_99 : decode cX1_flowFrom 99 = .ok (.iadd, 1) := by decide +kernel
theorem dX1_flowFrom_100 : decode cX1_flowFrom 100 = .ok (.invokevirtual 106, 3) := by decide +kernel
theorem dX1_flowFrom_103 : decode cX1_flowFrom 103 = .ok (.aload_n 0, 1) := by decide +kernel
theorem dX1_flowFrom_104 : decode cX1_flowFrom 104 = .ok (.getfield 36, 3) := by decide +kernel
theorem dX1_flowFrom_107 : decode cX1_flowFrom 107 = .ok (.iload_n 1, 1) := by decide +kernel
theorem dX1_flowFrom_108 : decode cX1_flowFrom 108 = .ok (.invokevirtual 155, 3) := by decide +kernel
theorem dX1_flowFrom_111 : decode cX1_flowFrom 111 = .ok (.istore_n 2, 1) := by decide +kernel
theorem dX1_flowFrom_112 : decode cX1_flowFrom 112 = .ok (.iconst 0, 1) := by decide +kernel
theorem dX1_flowFrom_113 : decode cX1_flowFrom 113 = .ok (.istore_n 3, 1) := by decide +kernel
theorem dX1_flowFrom_114 : decode cX1_flowFrom 114 = .ok (.iload_n 3, 1) := by decide +kernel
theorem dX1_flowFrom_115 : decode cX1_flowFrom 115 = .ok (.iload_n 2, 1) := by decide +kernel
theorem dX1_flowFrom_116 : decode cX1_flowFrom 116 = .ok (.if_icmp .ge 22, 3) := by decide +kernel
theorem dX1_flowFrom_119 : decode cX1_flowFrom 119 = .ok (.aload_n 0, 1) := by decide +kernel
theorem dX1_flowFrom_120 : decode cX1_flowFrom 120 = .ok (.aload_n 0, 1) := by decide +kernel
theorem dX1_flowFrom_121 : decode cX1_flowFrom 121 = .ok (.getfield 36, 3) := by decide +kernel
theorem dX1_flowFrom_124 : decode cX1_flowFrom 124 = .ok (.iload_n 1, 1) := by decide +kernel
theorem dX1_flowFrom_125 : decode cX1_flowFrom 125 = .ok (.iload_n 3, 1) := by decide +kernel
theorem dX1_flowFrom_126 : decode cX1_flowFrom 126 = .ok (.invokevirtual 158, 3) := by decide +kernel
theorem dX1_flowFrom_129 : decode cX1_flowFrom 129 = .ok (.invokevirtual 106, 3) := by decide +kernel
theorem dX1_flowFrom_132 : decode cX1_flowFrom 132 = .ok (.iinc 3 1, 3) := by decide +kernel
theorem dX1_flowFrom_135 : decode cX1_flowFrom 135 = .ok (.goto (-21), 3) := by decide +kernel
theorem dX1_flowFrom_138 : decode cX1_flowFrom 138 = .ok (.return_, 1) := by decide +kernel
theorem dX1_give_0 : decode cX1_give 0 = .ok (.iload_n 1, 1) := by decide +kernel
theorem dX1_give_1 : decode cX1_give 1 = .ok (.ifCond .eq 11, 3) := by decide +kernel
theorem dX1_give_4 : decode cX1_give 4 = .ok (.aload_n 0, 1) := by decide +kernel
theorem dX1_give_5 : decode cX1_give 5 = .ok (.iload_n 1, 1) := by decide +kernel
theorem dX1_give_6 : decode cX1_give 6 = .ok (.invokestatic 96, 3) := by decide +kernel
theorem dX1_give_9 : decode cX1_give 9 = .ok (.invokevirtual 211, 3) := by decide +kernel

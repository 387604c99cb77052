theorem dX11_counterEntry_53 : decode cX11_counterEntry 53 = .ok (.getfield 21, 3) := by decide +kernel
theorem dX11_counterEntry_56 : decode cX11_counterEntry 56 = .ok (.bipush 48, 2) := by decide +kernel
theorem dX11_counterEntry_58 : decode cX11_counterEntry 58 = .ok (.iload_n 1, 1) := by decide +kernel
theorem dX11_counterEntry_59 : decode cX11_counterEntry 59 = .ok (.bipush 10, 2) := by decide +kernel
theorem dX11_counterEntry_61 : decode cX11_counterEntry 61 = .ok (.irem, 1) := by decide +kernel
theorem dX11_counterEntry_62 : decode cX11_counterEntry 62 = .ok (.iadd, 1) := by decide +kernel
theorem dX11_counterEntry_63 : decode cX11_counterEntry 63 = .ok (.invokevirtual 129, 3) := by decide +kernel
theorem dX11_counterEntry_66 : decode cX11_counterEntry 66 = .ok (.aload_n 0, 1) := by decide +kernel
theorem dX11_counterEntry_67 : decode cX11_counterEntry 67 = .ok (.invokevirtual 160, 3) := by decide +kernel
theorem dX11_counterEntry_70 : decode cX11_counterEntry 70 = .ok (.ireturn, 1) := by decide +kernel
theorem dX11_entryOfWanted_0 : decode cX11_entryOfWanted 0 = .ok (.iconst 1, 1) := by decide +kernel
theorem dX11_entryOfWanted_1 : decode cX11_entryOfWanted 1 = .ok (.istore_n 1, 1) := by decide +kernel
theorem dX11_entryOfWanted_2 : decode cX11_entryOfWanted 2 = .ok (.iload_n 1, 1) := by decide +kernel
theorem dX11_entryOfWanted_3 : decode cX11_entryOfWanted 3 = .ok (.aload_n 0, 1) := by decide +kernel
theorem dX11_entryOfWanted_4 : decode cX11_entryOfWanted 4 = .ok (.getfield 64, 3) := by decide +kernel
theorem dX11_entryOfWanted_7 : decode cX11_entryOfWanted 7 = .ok (.if_icmp .ge 28, 3) := by decide +kernel
theorem dX11_entryOfWanted_10 : decode cX11_entryOfWanted 10 = .ok (.iload_n 1, 1) := by decide +kernel
theorem dX11_entryOfWanted_11 : decode cX11_entryOfWanted 11 = .ok (.aload_n 0, 1) := by decide +kernel
theorem dX11_entryOfWanted_12 : decode cX11_entryOfWanted 12 = .ok (.getfield 24, 3) := by decide +kernel
theorem dX11_entryOfWanted_15 : decode cX11_entryOfWanted 15 = .ok (.arraylength, 1) := by decide +kernel
theorem dX11_entryOfWanted_16 : decode cX11_entryOfWanted 16 = .ok (.if_icmp .ge 19, 3) := by decide +kernel
theorem dX11_entryOfWanted_19 : decode cX11_entryOfWanted 19 = .ok (.aload_n 0, 1) := by decide +kernel
theorem dX11_entryOfWanted_20 : decode cX11_entryOfWanted 20 = .ok (.iload_n 1, 1) := by decide +kernel
theorem dX11_entryOfWanted_21 : decode cX11_entryOfWanted 21 = .ok (.invokevirtual 136, 3) := by decide +kernel
theorem dX11_entryOfWanted_24 : decode cX11_entryOfWanted 24 = .ok (.ifCond .eq 5, 3) := by decide +kernel
theorem dX11_entryOfWanted_27 : decode cX11_entryOfWanted 27 = .ok (.iload_n 1, 1) := by decide +kernel
theorem dX11_entryOfWanted_28 : decode cX11_entryOfWanted 28 = .ok (.ireturn, 1) := by decide +kernel
theorem dX11_entryOfWanted_29 : decode cX11_entryOfWanted 29 = .ok (.iinc 1 1, 3) := by decide +kernel
theorem dX11_entryOfWanted_32 : decode cX11_entryOfWanted 32 = .ok (.goto (-30), 3) := by decide +kernel
theorem dX11_entryOfWanted_35 : decode cX11_entryOfWanted 35 = .ok (.aload_n 0, 1) := by decide +kernel
theorem dX11_entryOfWanted_36 : decode cX11_entryOfWanted 36 = .ok (.getfield 21, 3) := by decide +kernel
theorem dX11_entryOfWanted_39 : decode cX11_entryOfWanted 39 = .ok (.iconst 0, 1) := by decide +kernel
theorem dX11_entryOfWanted_40 : decode cX11_entryOfWanted 40 = .ok (.invokevirtual 140, 3) := by decide +kernel
theorem dX11_entryOfWanted_43 : decode cX11_entryOfWanted 43 = .ok (.iconst 5, 1) := by decide +kernel
theorem dX11_entryOfWanted_44 : decode cX11_entryOfWanted 44 = .ok (.if_icmp .ne 7, 3) := by decide +kernel
theorem dX11_entryOfWanted_47 : decode cX11_entryOfWanted 47 = .ok (.iconst 2, 1) := by decide +kernel
theorem dX11_entryOfWanted_48 : decode cX11_entryOfWanted 48 = .ok (.goto 4, 3) := by decide +kernel
theorem dX11_entryOfWanted_51 : decode cX11_entryOfWanted 51 = .ok (.iconst 1, 1) := by decide +kernel
theorem dX11_entryOfWanted_52 : decode cX11_entryOfWanted 52 = .ok (.istore_n 1, 1) := by decide +kernel
theorem dX11_entryOfWanted_53 : decode cX11_entryOfWanted 53 = .ok (.aload_n 0, 1) := by decide +kernel
theorem dX11_entryOfWanted_54 : decode cX11_entryOfWanted 54 = .ok (.getfield 64, 3) := by decide +kernel
theorem dX11_entryOfWanted_57 : decode cX11_entryOfWanted 57 = .ok (.iload_n 1, 1) := by decide +kernel
theorem dX11_entryOfWanted_58 : decode cX11_entryOfWanted 58 = .ok (.iadd, 1) := by decide +kernel
theorem dX11_entryOfWanted_59 : decode cX11_entryOfWanted 59 = .ok (.sipush 500, 3) := by decide +kernel
theorem dX11_entryOfWanted_62 : decode cX11_entryOfWanted 62 = .ok (.if_icmp .le 10, 3) := by decide +kernel
theorem dX11_entryOfWanted_65 : decode cX11_entryOfWanted 65 = .ok (.aload_n 0, 1) := by decide +kernel
theorem dX11_entryOfWanted_66 : decode cX11_entryOfWanted 66 = .ok (.iconst 1, 1) := by decide +kernel
theorem dX11_entryOfWanted_67 : decode cX11_entryOfWanted 67 = .ok (.putfield 67, 3) := by decide +kernel
theorem dX11_entryOfWanted_70 : decode cX11_entryOfWanted 70 = .ok (.iconst 0, 1) := by decide +kernel
theorem dX11_entryOfWanted_71 : decode cX11_entryOfWanted 71 = .ok (.ireturn, 1) := by decide +kernel
theorem dX11_entryOfWanted_72 : decode cX11_entryOfWanted 72 = .ok (.aload_n 0, 1) := by decide +kernel
theorem dX11_entryOfWanted_73 : decode cX11_entryOfWanted 73 = .ok (.getfield 24, 3) := by decide +kernel
theorem dX11_entryOfWanted_76 : decode cX11_entryOfWanted 76 = .ok (.aload_n 0, 1) := by decide +kernel
theorem dX11_entryOfWanted_77 : decode cX11_entryOfWanted 77 = .ok (.getfield 64, 3) := by decide +kernel
theorem dX11_entryOfWanted_80 : decode cX11_entryOfWanted 80 = .ok (.aload_n 0, 1) := by decide +kernel
theorem dX11_entryOfWanted_81 : decode cX11_entryOfWanted 81 = .ok (.getfield 12, 3) := by decide +kernel
theorem dX11_entryOfWanted_84 : decode cX11_entryOfWanted 84 = .ok (.getfield 60, 3) := by decide +kernel
theorem dX11_entryOfWanted_87 : decode cX11_entryOfWanted 87 = .ok (.iastore, 1) := by decide +kernel
theorem dX11_entryOfWanted_88 : decode cX11_entryOfWanted 88 = .ok (.aload_n 0, 1) := by decide +kernel
theorem dX11_entryOfWanted_89 : decode cX11_entryOfWanted 89 = .ok (.getfield 12, 3) := by decide +kernel
theorem dX11_entryOfWanted_92 : decode cX11_entryOfWanted 92 = .ok (.aload_n 0, 1) := by decide +kernel
theorem dX11_entryOfWanted_93 : decode cX11_entryOfWanted 93 = .ok (.getfield 21, 3) := by decide +kernel
theorem dX11_entryOfWanted_96 : decode cX11_entryOfWanted 96 = .ok (.invokevirtual 132, 3) := by decide +kernel
theorem dX11_entryOfWanted_99 : decode cX11_entryOfWanted 99 = .ok (.aload_n 0, 1) := by decide +kernel
theorem dX11_entryOfWanted_100 : decode cX11_entryOfWanted 100 = .ok (.getfield 28, 3) := by decide +kernel
theorem dX11_entryOfWanted_103 : decode cX11_entryOfWanted 103 = .ok (.aload_n 0, 1) := by decide +kernel
theorem dX11_entryOfWanted_104 : decode cX11_entryOfWanted 104 = .ok (.getfield 64, 3) := by decide +kernel
theorem dX11_entryOfWanted_107 : decode cX11_entryOfWanted 107 = .ok (.aload_n 0, 1) := by decide +kernel
theorem dX11_entryOfWanted_108 : decode cX11_entryOfWanted 108 = .ok (.getfield 12, 3) := by decide +kernel
theorem dX11_entryOfWanted_111 : decode cX11_entryOfWanted 111 = .ok (.getfield 60, 3) := by decide +kernel
theorem dX11_entryOfWanted_114 : decode cX11_entryOfWanted 114 = .ok (.iastore, 1) := by decide +kernel
theorem dX11_entryOfWanted_115 : decode cX11_entryOfWanted 115 = .ok (.aload_n 0, 1) := by decide +kernel
theorem dX11_entryOfWanted_116 : decode cX11_entryOfWanted 116 = .ok (.dup, 1) := by decide +kernel
theorem dX11_entryOfWanted_117 : decode cX11_entryOfWanted 117 = .ok (.getfield 64, 3) := by decide +kernel
theorem dX11_entryOfWanted_120 : decode cX11_entryOfWanted 120 = .ok (.iload_n 1, 1) := by decide +kernel
theorem dX11_entryOfWanted_121 : decode cX11_entryOfWanted 121 = .ok (.iadd, 1) := by decide +kernel
theorem dX11_entryOfWanted_122 : decode cX11_entryOfWanted 122 = .ok (.putfield 64, 3) := by decide +kernel
theorem dX11_entryOfWanted_125 : decode cX11_entryOfWanted 125 = .ok (.iload_n 1, 1) := by decide +kernel
theorem dX11_entryOfWanted_126 : decode cX11_entryOfWanted 126 = .ok (.iconst 2, 1) := by decide +kernel
theorem dX11_entryOfWanted_127 : decode cX11_entryOfWanted 127 = .ok (.if_icmp .ne 39, 3) := by decide +kernel
theorem dX11_entryOfWanted_130 : decode cX11_entryOfWanted 130 = .ok (.aload_n 0, 1) := by decide +kernel
theorem dX11_entryOfWanted_131 : decode cX11_entryOfWanted 131 = .ok (.getfield 24, 3) := by decide +kernel
theorem dX11_entryOfWanted_134 : decode cX11_entryOfWanted 134 = .ok (.aload_n 0, 1) := by decide +kernel
theorem dX11_entryOfWanted_135 : decode cX11_entryOfWanted 135 = .ok (.getfield 64, 3) := by decide +kernel
theorem dX11_entryOfWanted_138 : decode cX11_entryOfWanted 138 = .ok (.iconst 1, 1) := by decide +kernel
theorem dX11_entryOfWanted_139 : decode cX11_entryOfWanted 139 = .ok (.isub, 1) := by decide +kernel
theorem dX11_entryOfWanted_140 : decode cX11_entryOfWanted 140 = .ok (.aload_n 0, 1) := by decide +kernel
theorem dX11_entryOfWanted_141 : decode cX11_entryOfWanted 141 = .ok (.getfield 12, 3) := by decide +kernel
theorem dX11_entryOfWanted_144 : decode cX11_entryOfWanted 144 = .ok (.getfield 60, 3) := by decide +kernel
theorem dX11_entryOfWanted_147 : decode cX11_entryOfWanted 147 = .ok (.iastore, 1) := by decide +kernel
theorem dX11_entryOfWanted_148 : decode cX11_entryOfWanted 148 = .ok (.aload_n 0, 1) := by decide +kernel
theorem dX11_entryOfWanted_149 : decode cX11_entryOfWanted 149 = .ok (.getfield 28, 3) := by decide +kernel
theorem dX11_entryOfWanted_152 : decode cX11_entryOfWanted 152 = .ok (.aload_n 0, 1) := by decide +kernel
theorem dX11_entryOfWanted_153 : decode cX11_entryOfWanted 153 = .ok (.getfield 64, 3) := by decide +kernel
theorem dX11_entryOfWanted_156 : decode cX11_entryOfWanted 156 = .ok (.iconst 1, 1) := by decide +kernel
theorem dX11_entryOfWanted_157 : decode cX11_entryOfWanted 157 = .ok (.isub, 1) := by decide +kernel
theorem dX11_entryOfWanted_158 : decode cX11_entryOfWanted 158 = .ok (.aload_n 0, 1) := by decide +kernel
theorem dX11_entryOfWanted_159 : decode cX11_entryOfWanted 159 = .ok (.getfield 12, 3) := by decide +kernel
theorem dX11_entryOfWanted_162 : decode cX11_entryOfWanted 162 = .ok (.getfield 60, 3) := by decide +kernel
theorem dX11_entryOfWanted_165 : decode cX11_entryOfWanted 165 = .ok (.iastore, 1) := by decide +kernel
theorem dX11_entryOfWanted_166 : decode cX11_entryOfWanted 166 = .ok (.aload_n 0, 1) := by decide +kernel
theorem dX11_entryOfWanted_167 : decode cX11_entryOfWanted 167 = .ok (.getfield 64, 3) := by decide +kernel
theorem dX11_entryOfWanted_170 : decode cX11_entryOfWanted 170 = .ok (.iload_n 1, 1) := by decide +kernel
theorem dX11_entryOfWanted_171 : decode cX11_entryOfWanted 171 = .ok (.isub, 1) := by decide +kernel
theorem dX11_entryOfWanted_172 : decode cX11_entryOfWanted 172 = .ok (.ireturn, 1) := by decide +kernel
theorem dX11_fieldEntryOf_0 : decode cX11_fieldEntryOf 0 = .ok (.iload_n 1, 1) := by decide +kernel
theorem dX11_fieldEntryOf_1 : decode cX11_fieldEntryOf 1 = .ok (.ifCond .lt 12, 3) := by decide +kernel
theorem dX11_fieldEntryOf_4 : decode cX11_fieldEntryOf 4 = .ok (.iload_n 1, 1) := by decide +kernel
theorem dX11_fieldEntryOf_5 : decode cX11_fieldEntryOf 5 = .ok (.aload_n 0, 1) := by decide +kernel
theorem dX11_fieldEntryOf_6 : decode cX11_fieldEntryOf 6 = .ok (.getfield 37, 3) := by decide +kernel
theorem dX11_fieldEntryOf_9 : decode cX11_fieldEntryOf 9 = .ok (.arraylength, 1) := by decide +kernel
theorem dX11_fieldEntryOf_10 : decode cX11_fieldEntryOf 10 = .ok (.if_icmp .lt 5, 3) := by decide +kernel
theorem dX11_fieldEntryOf_13 : decode cX11_fieldEntryOf 13 = .ok (.iconst 0, 1) := by decide +kernel
theorem dX11_fieldEntryOf_14 : decode cX11_fieldEntryOf 14 = .ok (.ireturn, 1) := by decide +kernel
theorem dX11_fieldEntryOf_15 : decode cX11_fieldEntryOf 15 = .ok (.aload_n 0, 1) := by decide +kernel
theorem dX11_fieldEntryOf_16 : decode cX11_fieldEntryOf 16 = .ok (.getfield 37, 3) := by decide +kernel
theorem dX11_fieldEntryOf_19 : decode cX11_fieldEntryOf 19 = .ok (.iload_n 1, 1) := by decide +kernel
theorem dX11_fieldEntryOf_20 : decode cX11_fieldEntryOf 20 = .ok (.iaload, 1) := by decide +kernel
theorem dX11_fieldEntryOf_21 : decode cX11_fieldEntryOf 21 = .ok (.ifCond .ne 39, 3) := by decide +kernel
theorem dX11_fieldEntryOf_24 : decode cX11_fieldEntryOf 24 = .ok (.aload_n 0, 1) := by decide +kernel
theorem dX11_fieldEntryOf_25 : decode cX11_fieldEntryOf 25 = .ok (.bipush 12, 2) := by decide +kernel
theorem dX11_fieldEntryOf_27 : decode cX11_fieldEntryOf 27 = .ok (.aload_n 0, 1) := by decide +kernel
theorem dX11_fieldEntryOf_28 : decode cX11_fieldEntryOf 28 = .ok (.getfield 31, 3) := by decide +kernel
theorem dX11_fieldEntryOf_31 : decode cX11_fieldEntryOf 31 = .ok (.iload_n 1, 1) := by decide +kernel
theorem dX11_fieldEntryOf_32 : decode cX11_fieldEntryOf 32 = .ok (.iaload, 1) := by decide +kernel
theorem dX11_fieldEntryOf_33 : decode cX11_fieldEntryOf 33 = .ok (.aload_n 0, 1) := by decide +kernel
theorem dX11_fieldEntryOf_34 : decode cX11_fieldEntryOf 34 = .ok (.getfield 34, 3) := by decide +kernel
theorem dX11_fieldEntryOf_37 : decode cX11_fieldEntryOf 37 = .ok (.iload_n 1, 1) := by decide +kernel
theorem dX11_fieldEntryOf_38 : decode cX11_fieldEntryOf 38 = .ok (.iaload, 1) := by decide +kernel
theorem dX11_fieldEntryOf_39 : decode cX11_fieldEntryOf 39 = .ok (.invokevirtual 170, 3) := by decide +kernel
theorem dX11_fieldEntryOf_42 : decode cX11_fieldEntryOf 42 = .ok (.istore_n 2, 1) := by decide +kernel
theorem dX11_fieldEntryOf_43 : decode cX11_fieldEntryOf 43 = .ok (.aload_n 0, 1) := by decide +kernel
theorem dX11_fieldEntryOf_44 : decode cX11_fieldEntryOf 44 = .ok (.getfield 37, 3) := by decide +kernel
theorem dX11_fieldEntryOf_47 : decode cX11_fieldEntryOf 47 = .ok (.iload_n 1, 1) := by decide +kernel
theorem dX11_fieldEntryOf_48 : decode cX11_fieldEntryOf 48 = .ok (.aload_n 0, 1) := by decide +kernel
theorem dX11_fieldEntryOf_49 : decode cX11_fieldEntryOf 49 = .ok (.bipush 9, 2) := by decide +kernel
theorem dX11_fieldEntryOf_51 : decode cX11_fieldEntryOf 51 = .ok (.aload_n 0, 1) := by decide +kernel
theorem dX11_fieldEntryOf_52 : decode cX11_fieldEntryOf 52 = .ok (.getfield 99, 3) := by decide +kernel
theorem dX11_fieldEntryOf_55 : decode cX11_fieldEntryOf 55 = .ok (.iload_n 2, 1) := by decide +kernel
theorem dX11_fieldEntryOf_56 : decode cX11_fieldEntryOf 56 = .ok (.invokevirtual 170, 3) := by decide +kernel
theorem dX11_fieldEntryOf_59 : decode cX11_fieldEntryOf 59 = .ok (.iastore, 1) := by decide +kernel
theorem dX11_fieldEntryOf_60 : decode cX11_fieldEntryOf 60 = .ok (.aload_n 0, 1) := by decide +kernel
theorem dX11_fieldEntryOf_61 : decode cX11_fieldEntryOf 61 = .ok (.getfield 37, 3) := by decide +kernel
theorem dX11_fieldEntryOf_64 : decode cX11_fieldEntryOf 64 = .ok (.iload_n 1, 1) := by decide +kernel
theorem dX11_fieldEntryOf_65 : decode cX11_fieldEntryOf 65 = .ok (.iaload, 1) := by decide +kernel
theorem dX11_fieldEntryOf_66 : decode cX11_fieldEntryOf 66 = .ok (.ireturn, 1) := by decide +kernel
theorem dX11_finish_0 : decode cX11_finish 0 = .ok (.aload_n 0, 1) := by decide +kernel
theorem dX11_finish_1 : decode cX11_finish 1 = .ok (.getfield 18, 3) := by decide +kernel
theorem dX11_finish_4 : decode cX11_finish 4 = .ok (.iconst 0, 1) := by decide +kernel
theorem dX11_finish_5 : decode cX11_finish 5 = .ok (.invokevirtual 105, 3) := by decide +kernel

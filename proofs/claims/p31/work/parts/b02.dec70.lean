theorem dX14_size_7 : decode cX14_size 7 = .ok (.ifnonnull 5, 3) := by decide +kernel
theorem dX14_size_10 : decode cX14_size 10 = .ok (.iconst (-1), 1) := by decide +kernel
theorem dX14_size_11 : decode cX14_size 11 = .ok (.ireturn, 1) := by decide +kernel
theorem dX14_size_12 : decode cX14_size 12 = .ok (.iload_n 2, 1) := by decide +kernel
theorem dX14_size_13 : decode cX14_size 13 = .ok (.ifCond .ne 10, 3) := by decide +kernel
theorem dX14_size_16 : decode cX14_size 16 = .ok (.aload_n 3, 1) := by decide +kernel
theorem dX14_size_17 : decode cX14_size 17 = .ok (.getfield 594, 3) := by decide +kernel
theorem dX14_size_20 : decode cX14_size 20 = .ok (.goto 43, 3) := by decide +kernel
theorem dX14_size_23 : decode cX14_size 23 = .ok (.iload_n 2, 1) := by decide +kernel
theorem dX14_size_24 : decode cX14_size 24 = .ok (.iconst 1, 1) := by decide +kernel
theorem dX14_size_25 : decode cX14_size 25 = .ok (.if_icmp .ne 10, 3) := by decide +kernel
theorem dX14_size_28 : decode cX14_size 28 = .ok (.aload_n 3, 1) := by decide +kernel
theorem dX14_size_29 : decode cX14_size 29 = .ok (.getfield 597, 3) := by decide +kernel
theorem dX14_size_32 : decode cX14_size 32 = .ok (.goto 31, 3) := by decide +kernel
theorem dX14_size_35 : decode cX14_size 35 = .ok (.iload_n 2, 1) := by decide +kernel
theorem dX14_size_36 : decode cX14_size 36 = .ok (.iconst 2, 1) := by decide +kernel
theorem dX14_size_37 : decode cX14_size 37 = .ok (.if_icmp .ne 10, 3) := by decide +kernel
theorem dX14_size_40 : decode cX14_size 40 = .ok (.aload_n 3, 1) := by decide +kernel
theorem dX14_size_41 : decode cX14_size 41 = .ok (.getfield 591, 3) := by decide +kernel
theorem dX14_size_44 : decode cX14_size 44 = .ok (.goto 19, 3) := by decide +kernel
theorem dX14_size_47 : decode cX14_size 47 = .ok (.iload_n 2, 1) := by decide +kernel
theorem dX14_size_48 : decode cX14_size 48 = .ok (.iconst 3, 1) := by decide +kernel
theorem dX14_size_49 : decode cX14_size 49 = .ok (.if_icmp .ne 13, 3) := by decide +kernel
theorem dX14_size_52 : decode cX14_size 52 = .ok (.aload_n 3, 1) := by decide +kernel
theorem dX14_size_53 : decode cX14_size 53 = .ok (.getfield 638, 3) := by decide +kernel
theorem dX14_size_56 : decode cX14_size 56 = .ok (.arraylength, 1) := by decide +kernel
theorem dX14_size_57 : decode cX14_size 57 = .ok (.iconst 3, 1) := by decide +kernel
theorem dX14_size_58 : decode cX14_size 58 = .ok (.idiv, 1) := by decide +kernel
theorem dX14_size_59 : decode cX14_size 59 = .ok (.goto 4, 3) := by decide +kernel
theorem dX14_size_62 : decode cX14_size 62 = .ok (.iconst (-1), 1) := by decide +kernel
theorem dX14_size_63 : decode cX14_size 63 = .ok (.ireturn, 1) := by decide +kernel
theorem dX14_slot_0 : decode cX14_slot 0 = .ok (.bipush 24, 2) := by decide +kernel
theorem dX14_slot_2 : decode cX14_slot 2 = .ok (.aload_n 0, 1) := by decide +kernel
theorem dX14_slot_3 : decode cX14_slot 3 = .ok (.getfield 974, 3) := by decide +kernel
theorem dX14_slot_6 : decode cX14_slot 6 = .ok (.iconst 1, 1) := by decide +kernel
theorem dX14_slot_7 : decode cX14_slot 7 = .ok (.isub, 1) := by decide +kernel
theorem dX14_slot_8 : decode cX14_slot 8 = .ok (.imul, 1) := by decide +kernel
theorem dX14_slot_9 : decode cX14_slot 9 = .ok (.iload_n 1, 1) := by decide +kernel
theorem dX14_slot_10 : decode cX14_slot 10 = .ok (.iadd, 1) := by decide +kernel
theorem dX14_slot_11 : decode cX14_slot 11 = .ok (.ireturn, 1) := by decide +kernel
theorem dX14_span_0 : decode cX14_span 0 = .ok (.aload_n 0, 1) := by decide +kernel
theorem dX14_span_1 : decode cX14_span 1 = .ok (.iload_n 1, 1) := by decide +kernel
theorem dX14_span_2 : decode cX14_span 2 = .ok (.invokevirtual 430, 3) := by decide +kernel
theorem dX14_span_5 : decode cX14_span 5 = .ok (.istore_n 2, 1) := by decide +kernel
theorem dX14_span_6 : decode cX14_span 6 = .ok (.iload_n 2, 1) := by decide +kernel
theorem dX14_span_7 : decode cX14_span 7 = .ok (.invokestatic 433, 3) := by decide +kernel
theorem dX14_span_10 : decode cX14_span 10 = .ok (.istore_n 3, 1) := by decide +kernel
theorem dX14_span_11 : decode cX14_span 11 = .ok (.iload_n 3, 1) := by decide +kernel
theorem dX14_span_12 : decode cX14_span 12 = .ok (.bipush (-2), 2) := by decide +kernel
theorem dX14_span_14 : decode cX14_span 14 = .ok (.if_icmp .ne 87, 3) := by decide +kernel
theorem dX14_span_17 : decode cX14_span 17 = .ok (.iload_n 1, 1) := by decide +kernel
theorem dX14_span_18 : decode cX14_span 18 = .ok (.iconst 1, 1) := by decide +kernel
theorem dX14_span_19 : decode cX14_span 19 = .ok (.iadd, 1) := by decide +kernel
theorem dX14_span_20 : decode cX14_span 20 = .ok (.aload_n 0, 1) := by decide +kernel
theorem dX14_span_21 : decode cX14_span 21 = .ok (.getfield 436, 3) := by decide +kernel
theorem dX14_span_24 : decode cX14_span 24 = .ok (.if_icmp .ge 13, 3) := by decide +kernel
theorem dX14_span_27 : decode cX14_span 27 = .ok (.aload_n 0, 1) := by decide +kernel
theorem dX14_span_28 : decode cX14_span 28 = .ok (.iload_n 1, 1) := by decide +kernel
theorem dX14_span_29 : decode cX14_span 29 = .ok (.iconst 1, 1) := by decide +kernel
theorem dX14_span_30 : decode cX14_span 30 = .ok (.iadd, 1) := by decide +kernel
theorem dX14_span_31 : decode cX14_span 31 = .ok (.invokevirtual 430, 3) := by decide +kernel
theorem dX14_span_34 : decode cX14_span 34 = .ok (.goto 4, 3) := by decide +kernel
theorem dX14_span_37 : decode cX14_span 37 = .ok (.iconst 0, 1) := by decide +kernel
theorem dX14_span_38 : decode cX14_span 38 = .ok (.istore 4, 2) := by decide +kernel
theorem dX14_span_40 : decode cX14_span 40 = .ok (.iload 4, 2) := by decide +kernel
theorem dX14_span_42 : decode cX14_span 42 = .ok (.sipush 132, 3) := by decide +kernel
theorem dX14_span_45 : decode cX14_span 45 = .ok (.if_icmp .ne 8, 3) := by decide +kernel
theorem dX14_span_48 : decode cX14_span 48 = .ok (.bipush 6, 2) := by decide +kernel
theorem dX14_span_50 : decode cX14_span 50 = .ok (.goto 50, 3) := by decide +kernel
theorem dX14_span_53 : decode cX14_span 53 = .ok (.iload 4, 2) := by decide +kernel
theorem dX14_span_55 : decode cX14_span 55 = .ok (.bipush 21, 2) := by decide +kernel
theorem dX14_span_57 : decode cX14_span 57 = .ok (.if_icmp .eq 38, 3) := by decide +kernel
theorem dX14_span_60 : decode cX14_span 60 = .ok (.iload 4, 2) := by decide +kernel
theorem dX14_span_62 : decode cX14_span 62 = .ok (.bipush 22, 2) := by decide +kernel
theorem dX14_span_64 : decode cX14_span 64 = .ok (.if_icmp .eq 31, 3) := by decide +kernel
theorem dX14_span_67 : decode cX14_span 67 = .ok (.iload 4, 2) := by decide +kernel
theorem dX14_span_69 : decode cX14_span 69 = .ok (.bipush 25, 2) := by decide +kernel
theorem dX14_span_71 : decode cX14_span 71 = .ok (.if_icmp .eq 24, 3) := by decide +kernel
theorem dX14_span_74 : decode cX14_span 74 = .ok (.iload 4, 2) := by decide +kernel
theorem dX14_span_76 : decode cX14_span 76 = .ok (.bipush 54, 2) := by decide +kernel
theorem dX14_span_78 : decode cX14_span 78 = .ok (.if_icmp .eq 17, 3) := by decide +kernel
theorem dX14_span_81 : decode cX14_span 81 = .ok (.iload 4, 2) := by decide +kernel
theorem dX14_span_83 : decode cX14_span 83 = .ok (.bipush 55, 2) := by decide +kernel
theorem dX14_span_85 : decode cX14_span 85 = .ok (.if_icmp .eq 10, 3) := by decide +kernel
theorem dX14_span_88 : decode cX14_span 88 = .ok (.iload 4, 2) := by decide +kernel
theorem dX14_span_90 : decode cX14_span 90 = .ok (.bipush 58, 2) := by decide +kernel
theorem dX14_span_92 : decode cX14_span 92 = .ok (.if_icmp .ne 7, 3) := by decide +kernel
theorem dX14_span_95 : decode cX14_span 95 = .ok (.iconst 4, 1) := by decide +kernel
theorem dX14_span_96 : decode cX14_span 96 = .ok (.goto 4, 3) := by decide +kernel
theorem dX14_span_99 : decode cX14_span 99 = .ok (.iconst 0, 1) := by decide +kernel
theorem dX14_span_100 : decode cX14_span 100 = .ok (.istore_n 3, 1) := by decide +kernel
theorem dX14_span_101 : decode cX14_span 101 = .ok (.iload_n 3, 1) := by decide +kernel
theorem dX14_span_102 : decode cX14_span 102 = .ok (.iconst (-1), 1) := by decide +kernel
theorem dX14_span_103 : decode cX14_span 103 = .ok (.if_icmp .ne 10, 3) := by decide +kernel
theorem dX14_span_106 : decode cX14_span 106 = .ok (.aload_n 0, 1) := by decide +kernel
theorem dX14_span_107 : decode cX14_span 107 = .ok (.iload_n 1, 1) := by decide +kernel
theorem dX14_span_108 : decode cX14_span 108 = .ok (.iload_n 2, 1) := by decide +kernel
theorem dX14_span_109 : decode cX14_span 109 = .ok (.invokevirtual 439, 3) := by decide +kernel
theorem dX14_span_112 : decode cX14_span 112 = .ok (.istore_n 3, 1) := by decide +kernel
theorem dX14_span_113 : decode cX14_span 113 = .ok (.iload_n 3, 1) := by decide +kernel
theorem dX14_span_114 : decode cX14_span 114 = .ok (.ifCond .le 13, 3) := by decide +kernel
theorem dX14_span_117 : decode cX14_span 117 = .ok (.iload_n 1, 1) := by decide +kernel
theorem dX14_span_118 : decode cX14_span 118 = .ok (.iload_n 3, 1) := by decide +kernel
theorem dX14_span_119 : decode cX14_span 119 = .ok (.iadd, 1) := by decide +kernel
theorem dX14_span_120 : decode cX14_span 120 = .ok (.aload_n 0, 1) := by decide +kernel
theorem dX14_span_121 : decode cX14_span 121 = .ok (.getfield 436, 3) := by decide +kernel
theorem dX14_span_124 : decode cX14_span 124 = .ok (.if_icmp .le 5, 3) := by decide +kernel
theorem dX14_span_127 : decode cX14_span 127 = .ok (.iconst (-1), 1) := by decide +kernel
theorem dX14_span_128 : decode cX14_span 128 = .ok (.ireturn, 1) := by decide +kernel
theorem dX14_span_129 : decode cX14_span 129 = .ok (.iload_n 2, 1) := by decide +kernel
theorem dX14_span_130 : decode cX14_span 130 = .ok (.sipush 188, 3) := by decide +kernel
theorem dX14_span_133 : decode cX14_span 133 = .ok (.if_icmp .ne 19, 3) := by decide +kernel
theorem dX14_span_136 : decode cX14_span 136 = .ok (.aload_n 0, 1) := by decide +kernel
theorem dX14_span_137 : decode cX14_span 137 = .ok (.iload_n 1, 1) := by decide +kernel
theorem dX14_span_138 : decode cX14_span 138 = .ok (.iconst 1, 1) := by decide +kernel
theorem dX14_span_139 : decode cX14_span 139 = .ok (.iadd, 1) := by decide +kernel
theorem dX14_span_140 : decode cX14_span 140 = .ok (.invokevirtual 430, 3) := by decide +kernel
theorem dX14_span_143 : decode cX14_span 143 = .ok (.bipush 10, 2) := by decide +kernel
theorem dX14_span_145 : decode cX14_span 145 = .ok (.if_icmp .eq 7, 3) := by decide +kernel
theorem dX14_span_148 : decode cX14_span 148 = .ok (.iconst (-1), 1) := by decide +kernel
theorem dX14_span_149 : decode cX14_span 149 = .ok (.goto 4, 3) := by decide +kernel
theorem dX14_span_152 : decode cX14_span 152 = .ok (.iload_n 3, 1) := by decide +kernel
theorem dX14_span_153 : decode cX14_span 153 = .ok (.ireturn, 1) := by decide +kernel
theorem dX14_spanOf_0 : decode cX14_spanOf 0 = .ok (.iload_n 0, 1) := by decide +kernel
theorem dX14_spanOf_1 : decode cX14_spanOf 1 = .ok (.bipush 10, 2) := by decide +kernel
theorem dX14_spanOf_3 : decode cX14_spanOf 3 = .ok (.if_icmp .le 51, 3) := by decide +kernel
theorem dX14_spanOf_6 : decode cX14_spanOf 6 = .ok (.iload_n 0, 1) := by decide +kernel
theorem dX14_spanOf_7 : decode cX14_spanOf 7 = .ok (.bipush 26, 2) := by decide +kernel
theorem dX14_spanOf_9 : decode cX14_spanOf 9 = .ok (.if_icmp .lt 9, 3) := by decide +kernel
theorem dX14_spanOf_12 : decode cX14_spanOf 12 = .ok (.iload_n 0, 1) := by decide +kernel
theorem dX14_spanOf_13 : decode cX14_spanOf 13 = .ok (.bipush 33, 2) := by decide +kernel
theorem dX14_spanOf_15 : decode cX14_spanOf 15 = .ok (.if_icmp .le 39, 3) := by decide +kernel
theorem dX14_spanOf_18 : decode cX14_spanOf 18 = .ok (.iload_n 0, 1) := by decide +kernel
theorem dX14_spanOf_19 : decode cX14_spanOf 19 = .ok (.bipush 42, 2) := by decide +kernel
theorem dX14_spanOf_21 : decode cX14_spanOf 21 = .ok (.if_icmp .lt 9, 3) := by decide +kernel
theorem dX14_spanOf_24 : decode cX14_spanOf 24 = .ok (.iload_n 0, 1) := by decide +kernel
theorem dX14_spanOf_25 : decode cX14_spanOf 25 = .ok (.bipush 46, 2) := by decide +kernel
theorem dX14_spanOf_27 : decode cX14_spanOf 27 = .ok (.if_icmp .le 27, 3) := by decide +kernel
theorem dX14_spanOf_30 : decode cX14_spanOf 30 = .ok (.iload_n 0, 1) := by decide +kernel
theorem dX14_spanOf_31 : decode cX14_spanOf 31 = .ok (.bipush 59, 2) := by decide +kernel
theorem dX14_spanOf_33 : decode cX14_spanOf 33 = .ok (.if_icmp .lt 9, 3) := by decide +kernel
theorem dX14_spanOf_36 : decode cX14_spanOf 36 = .ok (.iload_n 0, 1) := by decide +kernel
theorem dX14_spanOf_37 : decode cX14_spanOf 37 = .ok (.bipush 66, 2) := by decide +kernel
theorem dX14_spanOf_39 : decode cX14_spanOf 39 = .ok (.if_icmp .le 15, 3) := by decide +kernel
theorem dX14_spanOf_42 : decode cX14_spanOf 42 = .ok (.iload_n 0, 1) := by decide +kernel
theorem dX14_spanOf_43 : decode cX14_spanOf 43 = .ok (.bipush 75, 2) := by decide +kernel
theorem dX14_spanOf_45 : decode cX14_spanOf 45 = .ok (.if_icmp .lt 11, 3) := by decide +kernel
theorem dX14_spanOf_48 : decode cX14_spanOf 48 = .ok (.iload_n 0, 1) := by decide +kernel
theorem dX14_spanOf_49 : decode cX14_spanOf 49 = .ok (.bipush 79, 2) := by decide +kernel
theorem dX14_spanOf_51 : decode cX14_spanOf 51 = .ok (.if_icmp .gt 5, 3) := by decide +kernel
theorem dX14_spanOf_54 : decode cX14_spanOf 54 = .ok (.iconst 1, 1) := by decide +kernel
theorem dX14_spanOf_55 : decode cX14_spanOf 55 = .ok (.ireturn, 1) := by decide +kernel
theorem dX14_spanOf_56 : decode cX14_spanOf 56 = .ok (.iload_n 0, 1) := by decide +kernel
theorem dX14_spanOf_57 : decode cX14_spanOf 57 = .ok (.bipush 87, 2) := by decide +kernel
theorem dX14_spanOf_59 : decode cX14_spanOf 59 = .ok (.if_icmp .lt 9, 3) := by decide +kernel
theorem dX14_spanOf_62 : decode cX14_spanOf 62 = .ok (.iload_n 0, 1) := by decide +kernel
theorem dX14_spanOf_63 : decode cX14_spanOf 63 = .ok (.bipush 90, 2) := by decide +kernel
theorem dX14_spanOf_65 : decode cX14_spanOf 65 = .ok (.if_icmp .le 47, 3) := by decide +kernel
theorem dX14_spanOf_68 : decode cX14_spanOf 68 = .ok (.iload_n 0, 1) := by decide +kernel
theorem dX14_spanOf_69 : decode cX14_spanOf 69 = .ok (.bipush 92, 2) := by decide +kernel
theorem dX14_spanOf_71 : decode cX14_spanOf 71 = .ok (.if_icmp .eq 41, 3) := by decide +kernel
theorem dX14_spanOf_74 : decode cX14_spanOf 74 = .ok (.iload_n 0, 1) := by decide +kernel
theorem dX14_spanOf_75 : decode cX14_spanOf 75 = .ok (.bipush 95, 2) := by decide +kernel
theorem dX14_spanOf_77 : decode cX14_spanOf 77 = .ok (.if_icmp .eq 35, 3) := by decide +kernel
theorem dX14_spanOf_80 : decode cX14_spanOf 80 = .ok (.iload_n 0, 1) := by decide +kernel
theorem dX14_spanOf_81 : decode cX14_spanOf 81 = .ok (.bipush 96, 2) := by decide +kernel
theorem dX14_spanOf_83 : decode cX14_spanOf 83 = .ok (.if_icmp .lt 16, 3) := by decide +kernel
theorem dX14_spanOf_86 : decode cX14_spanOf 86 = .ok (.iload_n 0, 1) := by decide +kernel
theorem dX14_spanOf_87 : decode cX14_spanOf 87 = .ok (.bipush 119, 2) := by decide +kernel
theorem dX14_spanOf_89 : decode cX14_spanOf 89 = .ok (.if_icmp .gt 10, 3) := by decide +kernel
theorem dX14_spanOf_92 : decode cX14_spanOf 92 = .ok (.iload_n 0, 1) := by decide +kernel
theorem dX14_spanOf_93 : decode cX14_spanOf 93 = .ok (.iconst 4, 1) := by decide +kernel
theorem dX14_spanOf_94 : decode cX14_spanOf 94 = .ok (.irem, 1) := by decide +kernel
theorem dX14_spanOf_95 : decode cX14_spanOf 95 = .ok (.iconst 2, 1) := by decide +kernel
theorem dX14_spanOf_96 : decode cX14_spanOf 96 = .ok (.if_icmp .lt 16, 3) := by decide +kernel
theorem dX14_spanOf_99 : decode cX14_spanOf 99 = .ok (.iload_n 0, 1) := by decide +kernel
theorem dX14_spanOf_100 : decode cX14_spanOf 100 = .ok (.bipush 120, 2) := by decide +kernel
theorem dX14_spanOf_102 : decode cX14_spanOf 102 = .ok (.if_icmp .lt 12, 3) := by decide +kernel
theorem dX14_spanOf_105 : decode cX14_spanOf 105 = .ok (.iload_n 0, 1) := by decide +kernel
theorem dX14_spanOf_106 : decode cX14_spanOf 106 = .ok (.sipush 131, 3) := by decide +kernel
theorem dX14_spanOf_109 : decode cX14_spanOf 109 = .ok (.if_icmp .gt 5, 3) := by decide +kernel
theorem dX14_spanOf_112 : decode cX14_spanOf 112 = .ok (.iconst 1, 1) := by decide +kernel
theorem dX14_spanOf_113 : decode cX14_spanOf 113 = .ok (.ireturn, 1) := by decide +kernel
theorem dX14_spanOf_114 : decode cX14_spanOf 114 = .ok (.iload_n 0, 1) := by decide +kernel
theorem dX14_spanOf_115 : decode cX14_spanOf 115 = .ok (.sipush 133, 3) := by decide +kernel
theorem dX14_spanOf_118 : decode cX14_spanOf 118 = .ok (.if_icmp .eq 66, 3) := by decide +kernel
theorem dX14_spanOf_121 : decode cX14_spanOf 121 = .ok (.iload_n 0, 1) := by decide +kernel
theorem dX14_spanOf_122 : decode cX14_spanOf 122 = .ok (.sipush 136, 3) := by decide +kernel
theorem dX14_spanOf_125 : decode cX14_spanOf 125 = .ok (.if_icmp .eq 59, 3) := by decide +kernel
theorem dX14_spanOf_128 : decode cX14_spanOf 128 = .ok (.iload_n 0, 1) := by decide +kernel
theorem dX14_spanOf_129 : decode cX14_spanOf 129 = .ok (.sipush 145, 3) := by decide +kernel
theorem dX14_spanOf_132 : decode cX14_spanOf 132 = .ok (.if_icmp .lt 10, 3) := by decide +kernel
theorem dX14_spanOf_135 : decode cX14_spanOf 135 = .ok (.iload_n 0, 1) := by decide +kernel
theorem dX14_spanOf_136 : decode cX14_spanOf 136 = .ok (.sipush 148, 3) := by decide +kernel
theorem dX14_spanOf_139 : decode cX14_spanOf 139 = .ok (.if_icmp .le 45, 3) := by decide +kernel
theorem dX14_spanOf_142 : decode cX14_spanOf 142 = .ok (.iload_n 0, 1) := by decide +kernel
theorem dX14_spanOf_143 : decode cX14_spanOf 143 = .ok (.sipush 172, 3) := by decide +kernel
theorem dX14_spanOf_146 : decode cX14_spanOf 146 = .ok (.if_icmp .eq 38, 3) := by decide +kernel
theorem dX14_spanOf_149 : decode cX14_spanOf 149 = .ok (.iload_n 0, 1) := by decide +kernel
theorem dX14_spanOf_150 : decode cX14_spanOf 150 = .ok (.sipush 173, 3) := by decide +kernel
theorem dX14_spanOf_153 : decode cX14_spanOf 153 = .ok (.if_icmp .eq 31, 3) := by decide +kernel
theorem dX14_spanOf_156 : decode cX14_spanOf 156 = .ok (.iload_n 0, 1) := by decide +kernel
theorem dX14_spanOf_157 : decode cX14_spanOf 157 = .ok (.sipush 176, 3) := by decide +kernel
theorem dX14_spanOf_160 : decode cX14_spanOf 160 = .ok (.if_icmp .eq 24, 3) := by decide +kernel
theorem dX14_spanOf_163 : decode cX14_spanOf 163 = .ok (.iload_n 0, 1) := by decide +kernel
theorem dX14_spanOf_164 : decode cX14_spanOf 164 = .ok (.sipush 177, 3) := by decide +kernel
theorem dX14_spanOf_167 : decode cX14_spanOf 167 = .ok (.if_icmp .eq 17, 3) := by decide +kernel
theorem dX14_spanOf_170 : decode cX14_spanOf 170 = .ok (.iload_n 0, 1) := by decide +kernel
theorem dX14_spanOf_171 : decode cX14_spanOf 171 = .ok (.sipush 190, 3) := by decide +kernel
theorem dX14_spanOf_174 : decode cX14_spanOf 174 = .ok (.if_icmp .eq 10, 3) := by decide +kernel
theorem dX14_spanOf_177 : decode cX14_spanOf 177 = .ok (.iload_n 0, 1) := by decide +kernel
theorem dX14_spanOf_178 : decode cX14_spanOf 178 = .ok (.sipush 191, 3) := by decide +kernel
theorem dX14_spanOf_181 : decode cX14_spanOf 181 = .ok (.if_icmp .ne 5, 3) := by decide +kernel
theorem dX14_spanOf_184 : decode cX14_spanOf 184 = .ok (.iconst 1, 1) := by decide +kernel
theorem dX14_spanOf_185 : decode cX14_spanOf 185 = .ok (.ireturn, 1) := by decide +kernel
theorem dX14_spanOf_186 : decode cX14_spanOf 186 = .ok (.iload_n 0, 1) := by decide +kernel
theorem dX14_spanOf_187 : decode cX14_spanOf 187 = .ok (.bipush 16, 2) := by decide +kernel
theorem dX14_spanOf_189 : decode cX14_spanOf 189 = .ok (.if_icmp .eq 52, 3) := by decide +kernel
theorem dX14_spanOf_192 : decode cX14_spanOf 192 = .ok (.iload_n 0, 1) := by decide +kernel
theorem dX14_spanOf_193 : decode cX14_spanOf 193 = .ok (.bipush 18, 2) := by decide +kernel
theorem dX14_spanOf_195 : decode cX14_spanOf 195 = .ok (.if_icmp .eq 46, 3) := by decide +kernel
theorem dX14_spanOf_198 : decode cX14_spanOf 198 = .ok (.iload_n 0, 1) := by decide +kernel
theorem dX14_spanOf_199 : decode cX14_spanOf 199 = .ok (.bipush 21, 2) := by decide +kernel
theorem dX14_spanOf_201 : decode cX14_spanOf 201 = .ok (.if_icmp .eq 40, 3) := by decide +kernel
theorem dX14_spanOf_204 : decode cX14_spanOf 204 = .ok (.iload_n 0, 1) := by decide +kernel
theorem dX14_spanOf_205 : decode cX14_spanOf 205 = .ok (.bipush 22, 2) := by decide +kernel
theorem dX14_spanOf_207 : decode cX14_spanOf 207 = .ok (.if_icmp .eq 34, 3) := by decide +kernel
theorem dX14_spanOf_210 : decode cX14_spanOf 210 = .ok (.iload_n 0, 1) := by decide +kernel
theorem dX14_spanOf_211 : decode cX14_spanOf 211 = .ok (.bipush 25, 2) := by decide +kernel
theorem dX14_spanOf_213 : decode cX14_spanOf 213 = .ok (.if_icmp .eq 28, 3) := by decide +kernel
theorem dX14_spanOf_216 : decode cX14_spanOf 216 = .ok (.iload_n 0, 1) := by decide +kernel
theorem dX14_spanOf_217 : decode cX14_spanOf 217 = .ok (.bipush 54, 2) := by decide +kernel
theorem dX14_spanOf_219 : decode cX14_spanOf 219 = .ok (.if_icmp .eq 22, 3) := by decide +kernel
theorem dX14_spanOf_222 : decode cX14_spanOf 222 = .ok (.iload_n 0, 1) := by decide +kernel
theorem dX14_spanOf_223 : decode cX14_spanOf 223 = .ok (.bipush 55, 2) := by decide +kernel
theorem dX14_spanOf_225 : decode cX14_spanOf 225 = .ok (.if_icmp .eq 16, 3) := by decide +kernel
theorem dX14_spanOf_228 : decode cX14_spanOf 228 = .ok (.iload_n 0, 1) := by decide +kernel
theorem dX14_spanOf_229 : decode cX14_spanOf 229 = .ok (.bipush 58, 2) := by decide +kernel
theorem dX14_spanOf_231 : decode cX14_spanOf 231 = .ok (.if_icmp .eq 10, 3) := by decide +kernel
theorem dX14_spanOf_234 : decode cX14_spanOf 234 = .ok (.iload_n 0, 1) := by decide +kernel
theorem dX14_spanOf_235 : decode cX14_spanOf 235 = .ok (.sipush 188, 3) := by decide +kernel
theorem dX14_spanOf_238 : decode cX14_spanOf 238 = .ok (.if_icmp .ne 5, 3) := by decide +kernel
theorem dX14_spanOf_241 : decode cX14_spanOf 241 = .ok (.iconst 2, 1) := by decide +kernel
theorem dX14_spanOf_242 : decode cX14_spanOf 242 = .ok (.ireturn, 1) := by decide +kernel
theorem dX14_spanOf_243 : decode cX14_spanOf 243 = .ok (.iload_n 0, 1) := by decide +kernel
theorem dX14_spanOf_244 : decode cX14_spanOf 244 = .ok (.bipush 17, 2) := by decide +kernel
theorem dX14_spanOf_246 : decode cX14_spanOf 246 = .ok (.if_icmp .eq 71, 3) := by decide +kernel
theorem dX14_spanOf_249 : decode cX14_spanOf 249 = .ok (.iload_n 0, 1) := by decide +kernel
theorem dX14_spanOf_250 : decode cX14_spanOf 250 = .ok (.bipush 19, 2) := by decide +kernel
theorem dX14_spanOf_252 : decode cX14_spanOf 252 = .ok (.if_icmp .eq 65, 3) := by decide +kernel
theorem dX14_spanOf_255 : decode cX14_spanOf 255 = .ok (.iload_n 0, 1) := by decide +kernel
theorem dX14_spanOf_256 : decode cX14_spanOf 256 = .ok (.bipush 20, 2) := by decide +kernel
theorem dX14_spanOf_258 : decode cX14_spanOf 258 = .ok (.if_icmp .eq 59, 3) := by decide +kernel
theorem dX14_spanOf_261 : decode cX14_spanOf 261 = .ok (.iload_n 0, 1) := by decide +kernel
theorem dX14_spanOf_262 : decode cX14_spanOf 262 = .ok (.sipush 132, 3) := by decide +kernel
theorem dX14_spanOf_265 : decode cX14_spanOf 265 = .ok (.if_icmp .eq 52, 3) := by decide +kernel
theorem dX14_spanOf_268 : decode cX14_spanOf 268 = .ok (.iload_n 0, 1) := by decide +kernel
theorem dX14_spanOf_269 : decode cX14_spanOf 269 = .ok (.sipush 153, 3) := by decide +kernel
theorem dX14_spanOf_272 : decode cX14_spanOf 272 = .ok (.if_icmp .lt 10, 3) := by decide +kernel
theorem dX14_spanOf_275 : decode cX14_spanOf 275 = .ok (.iload_n 0, 1) := by decide +kernel
theorem dX14_spanOf_276 : decode cX14_spanOf 276 = .ok (.sipush 167, 3) := by decide +kernel
theorem dX14_spanOf_279 : decode cX14_spanOf 279 = .ok (.if_icmp .le 38, 3) := by decide +kernel
theorem dX14_spanOf_282 : decode cX14_spanOf 282 = .ok (.iload_n 0, 1) := by decide +kernel
theorem dX14_spanOf_283 : decode cX14_spanOf 283 = .ok (.sipush 178, 3) := by decide +kernel
theorem dX14_spanOf_286 : decode cX14_spanOf 286 = .ok (.if_icmp .eq 31, 3) := by decide +kernel
theorem dX14_spanOf_289 : decode cX14_spanOf 289 = .ok (.iload_n 0, 1) := by decide +kernel
theorem dX14_spanOf_290 : decode cX14_spanOf 290 = .ok (.sipush 179, 3) := by decide +kernel
theorem dX14_spanOf_293 : decode cX14_spanOf 293 = .ok (.if_icmp .eq 24, 3) := by decide +kernel
theorem dX14_spanOf_296 : decode cX14_spanOf 296 = .ok (.iload_n 0, 1) := by decide +kernel
theorem dX14_spanOf_297 : decode cX14_spanOf 297 = .ok (.sipush 184, 3) := by decide +kernel
theorem dX14_spanOf_300 : decode cX14_spanOf 300 = .ok (.if_icmp .eq 17, 3) := by decide +kernel
theorem dX14_spanOf_303 : decode cX14_spanOf 303 = .ok (.iload_n 0, 1) := by decide +kernel
theorem dX14_spanOf_304 : decode cX14_spanOf 304 = .ok (.sipush 198, 3) := by decide +kernel
theorem dX14_spanOf_307 : decode cX14_spanOf 307 = .ok (.if_icmp .eq 10, 3) := by decide +kernel
theorem dX14_spanOf_310 : decode cX14_spanOf 310 = .ok (.iload_n 0, 1) := by decide +kernel
theorem dX14_spanOf_311 : decode cX14_spanOf 311 = .ok (.sipush 199, 3) := by decide +kernel
theorem dX14_spanOf_314 : decode cX14_spanOf 314 = .ok (.if_icmp .ne 5, 3) := by decide +kernel
theorem dX14_spanOf_317 : decode cX14_spanOf 317 = .ok (.iconst 3, 1) := by decide +kernel
theorem dX14_spanOf_318 : decode cX14_spanOf 318 = .ok (.ireturn, 1) := by decide +kernel
theorem dX14_spanOf_319 : decode cX14_spanOf 319 = .ok (.iload_n 0, 1) := by decide +kernel
theorem dX14_spanOf_320 : decode cX14_spanOf 320 = .ok (.sipush 200, 3) := by decide +kernel
theorem dX14_spanOf_323 : decode cX14_spanOf 323 = .ok (.if_icmp .ne 7, 3) := by decide +kernel
theorem dX14_spanOf_326 : decode cX14_spanOf 326 = .ok (.iconst 5, 1) := by decide +kernel
theorem dX14_spanOf_327 : decode cX14_spanOf 327 = .ok (.goto 34, 3) := by decide +kernel
theorem dX14_spanOf_330 : decode cX14_spanOf 330 = .ok (.iload_n 0, 1) := by decide +kernel
theorem dX14_spanOf_331 : decode cX14_spanOf 331 = .ok (.sipush 170, 3) := by decide +kernel
theorem dX14_spanOf_334 : decode cX14_spanOf 334 = .ok (.if_icmp .eq 10, 3) := by decide +kernel
theorem dX14_spanOf_337 : decode cX14_spanOf 337 = .ok (.iload_n 0, 1) := by decide +kernel
theorem dX14_spanOf_338 : decode cX14_spanOf 338 = .ok (.sipush 171, 3) := by decide +kernel
theorem dX14_spanOf_341 : decode cX14_spanOf 341 = .ok (.if_icmp .ne 7, 3) := by decide +kernel
theorem dX14_spanOf_344 : decode cX14_spanOf 344 = .ok (.iconst (-1), 1) := by decide +kernel
theorem dX14_spanOf_345 : decode cX14_spanOf 345 = .ok (.goto 16, 3) := by decide +kernel
theorem dX14_spanOf_348 : decode cX14_spanOf 348 = .ok (.iload_n 0, 1) := by decide +kernel
theorem dX14_spanOf_349 : decode cX14_spanOf 349 = .ok (.sipush 196, 3) := by decide +kernel
theorem dX14_spanOf_352 : decode cX14_spanOf 352 = .ok (.if_icmp .ne 8, 3) := by decide +kernel
theorem dX14_spanOf_355 : decode cX14_spanOf 355 = .ok (.bipush (-2), 2) := by decide +kernel
theorem dX14_spanOf_357 : decode cX14_spanOf 357 = .ok (.goto 4, 3) := by decide +kernel
theorem dX14_spanOf_360 : decode cX14_spanOf 360 = .ok (.iconst 0, 1) := by decide +kernel
theorem dX14_spanOf_361 : decode cX14_spanOf 361 = .ok (.ireturn, 1) := by decide +kernel
theorem dX14_spread_0 : decode cX14_spread 0 = .ok (.aload_n 0, 1) := by decide +kernel
theorem dX14_spread_1 : decode cX14_spread 1 = .ok (.iload_n 1, 1) := by decide +kernel
theorem dX14_spread_2 : decode cX14_spread 2 = .ok (.iload_n 2, 1) := by decide +kernel
theorem dX14_spread_3 : decode cX14_spread 3 = .ok (.invokevirtual 747, 3) := by decide +kernel
theorem dX14_spread_6 : decode cX14_spread 6 = .ok (.istore_n 3, 1) := by decide +kernel
theorem dX14_spread_7 : decode cX14_spread 7 = .ok (.aload_n 0, 1) := by decide +kernel
theorem dX14_spread_8 : decode cX14_spread 8 = .ok (.iload_n 1, 1) := by decide +kernel
theorem dX14_spread_9 : decode cX14_spread 9 = .ok (.invokevirtual 685, 3) := by decide +kernel
theorem dX14_spread_12 : decode cX14_spread 12 = .ok (.invokestatic 756, 3) := by decide +kernel
theorem dX14_spread_15 : decode cX14_spread 15 = .ok (.ifCond .eq 11, 3) := by decide +kernel
theorem dX14_spread_18 : decode cX14_spread 18 = .ok (.aload_n 0, 1) := by decide +kernel
theorem dX14_spread_19 : decode cX14_spread 19 = .ok (.iload_n 1, 1) := by decide +kernel
theorem dX14_spread_20 : decode cX14_spread 20 = .ok (.iconst 1, 1) := by decide +kernel
theorem dX14_spread_21 : decode cX14_spread 21 = .ok (.iadd, 1) := by decide +kernel
theorem dX14_spread_22 : decode cX14_spread 22 = .ok (.iload_n 3, 1) := by decide +kernel
theorem dX14_spread_23 : decode cX14_spread 23 = .ok (.invokevirtual 759, 3) := by decide +kernel
theorem dX14_spread_26 : decode cX14_spread 26 = .ok (.iconst 0, 1) := by decide +kernel
theorem dX14_spread_27 : decode cX14_spread 27 = .ok (.istore 4, 2) := by decide +kernel
theorem dX14_spread_29 : decode cX14_spread 29 = .ok (.iload 4, 2) := by decide +kernel
theorem dX14_spread_31 : decode cX14_spread 31 = .ok (.aload_n 0, 1) := by decide +kernel
theorem dX14_spread_32 : decode cX14_spread 32 = .ok (.iload_n 1, 1) := by decide +kernel
theorem dX14_spread_33 : decode cX14_spread 33 = .ok (.invokevirtual 762, 3) := by decide +kernel
theorem dX14_spread_36 : decode cX14_spread 36 = .ok (.if_icmp .ge 21, 3) := by decide +kernel
theorem dX14_spread_39 : decode cX14_spread 39 = .ok (.aload_n 0, 1) := by decide +kernel
theorem dX14_spread_40 : decode cX14_spread 40 = .ok (.aload_n 0, 1) := by decide +kernel
theorem dX14_spread_41 : decode cX14_spread 41 = .ok (.iload_n 1, 1) := by decide +kernel
theorem dX14_spread_42 : decode cX14_spread 42 = .ok (.iload 4, 2) := by decide +kernel
theorem dX14_spread_44 : decode cX14_spread 44 = .ok (.invokevirtual 765, 3) := by decide +kernel
theorem dX14_spread_47 : decode cX14_spread 47 = .ok (.iload_n 3, 1) := by decide +kernel
theorem dX14_spread_48 : decode cX14_spread 48 = .ok (.invokevirtual 759, 3) := by decide +kernel
theorem dX14_spread_51 : decode cX14_spread 51 = .ok (.iinc 4 1, 3) := by decide +kernel
theorem dX14_spread_54 : decode cX14_spread 54 = .ok (.goto (-25), 3) := by decide +kernel
theorem dX14_spread_57 : decode cX14_spread 57 = .ok (.iconst 0, 1) := by decide +kernel
theorem dX14_spread_58 : decode cX14_spread 58 = .ok (.istore 4, 2) := by decide +kernel
theorem dX14_spread_60 : decode cX14_spread 60 = .ok (.iload 4, 2) := by decide +kernel
theorem dX14_spread_62 : decode cX14_spread 62 = .ok (.aload_n 0, 1) := by decide +kernel
theorem dX14_spread_63 : decode cX14_spread 63 = .ok (.getfield 679, 3) := by decide +kernel
theorem dX14_spread_66 : decode cX14_spread 66 = .ok (.if_icmp .ge 31, 3) := by decide +kernel
theorem dX14_spread_69 : decode cX14_spread 69 = .ok (.aload_n 0, 1) := by decide +kernel
theorem dX14_spread_70 : decode cX14_spread 70 = .ok (.iload_n 1, 1) := by decide +kernel
theorem dX14_spread_71 : decode cX14_spread 71 = .ok (.iload 4, 2) := by decide +kernel
theorem dX14_spread_73 : decode cX14_spread 73 = .ok (.invokevirtual 744, 3) := by decide +kernel
theorem dX14_spread_76 : decode cX14_spread 76 = .ok (.ifCond .eq 15, 3) := by decide +kernel
theorem dX14_spread_79 : decode cX14_spread 79 = .ok (.aload_n 0, 1) := by decide +kernel
theorem dX14_spread_80 : decode cX14_spread 80 = .ok (.aload_n 0, 1) := by decide +kernel
theorem dX14_spread_81 : decode cX14_spread 81 = .ok (.iload 4, 2) := by decide +kernel
theorem dX14_spread_83 : decode cX14_spread 83 = .ok (.iconst 2, 1) := by decide +kernel
theorem dX14_spread_84 : decode cX14_spread 84 = .ok (.invokevirtual 682, 3) := by decide +kernel
theorem dX14_spread_87 : decode cX14_spread 87 = .ok (.iconst 1, 1) := by decide +kernel
theorem dX14_spread_88 : decode cX14_spread 88 = .ok (.invokevirtual 759, 3) := by decide +kernel
theorem dX14_spread_91 : decode cX14_spread 91 = .ok (.iinc 4 1, 3) := by decide +kernel
theorem dX14_spread_94 : decode cX14_spread 94 = .ok (.goto (-34), 3) := by decide +kernel
theorem dX14_spread_97 : decode cX14_spread 97 = .ok (.return_, 1) := by decide +kernel
theorem dX14_stage_0 : decode cX14_stage 0 = .ok (.aload_n 0, 1) := by decide +kernel
theorem dX14_stage_1 : decode cX14_stage 1 = .ok (.iload_n 1, 1) := by decide +kernel
theorem dX14_stage_2 : decode cX14_stage 2 = .ok (.invokevirtual 860, 3) := by decide +kernel
theorem dX14_stage_5 : decode cX14_stage 5 = .ok (.ifCond .ne 5, 3) := by decide +kernel
theorem dX14_stage_8 : decode cX14_stage 8 = .ok (.iconst 0, 1) := by decide +kernel
theorem dX14_stage_9 : decode cX14_stage 9 = .ok (.ireturn, 1) := by decide +kernel
theorem dX14_stage_10 : decode cX14_stage 10 = .ok (.aload_n 0, 1) := by decide +kernel
theorem dX14_stage_11 : decode cX14_stage 11 = .ok (.aload_n 0, 1) := by decide +kernel
theorem dX14_stage_12 : decode cX14_stage 12 = .ok (.getfield 11, 3) := by decide +kernel
theorem dX14_stage_15 : decode cX14_stage 15 = .ok (.iload_n 1, 1) := by decide +kernel
theorem dX14_stage_16 : decode cX14_stage 16 = .ok (.aaload, 1) := by decide +kernel
theorem dX14_stage_17 : decode cX14_stage 17 = .ok (.putfield 961, 3) := by decide +kernel
theorem dX14_stage_20 : decode cX14_stage 20 = .ok (.iconst 0, 1) := by decide +kernel
theorem dX14_stage_21 : decode cX14_stage 21 = .ok (.istore_n 2, 1) := by decide +kernel
theorem dX14_stage_22 : decode cX14_stage 22 = .ok (.iload_n 2, 1) := by decide +kernel
theorem dX14_stage_23 : decode cX14_stage 23 = .ok (.bipush 24, 2) := by decide +kernel
theorem dX14_stage_25 : decode cX14_stage 25 = .ok (.if_icmp .ge 16, 3) := by decide +kernel
theorem dX14_stage_28 : decode cX14_stage 28 = .ok (.aload_n 0, 1) := by decide +kernel
theorem dX14_stage_29 : decode cX14_stage 29 = .ok (.getfield 146, 3) := by decide +kernel
theorem dX14_stage_32 : decode cX14_stage 32 = .ok (.iload_n 2, 1) := by decide +kernel
theorem dX14_stage_33 : decode cX14_stage 33 = .ok (.lconst 0, 1) := by decide +kernel
theorem dX14_stage_34 : decode cX14_stage 34 = .ok (.lastore, 1) := by decide +kernel
theorem dX14_stage_35 : decode cX14_stage 35 = .ok (.iinc 2 1, 3) := by decide +kernel
theorem dX14_stage_38 : decode cX14_stage 38 = .ok (.goto (-16), 3) := by decide +kernel
theorem dX14_stage_41 : decode cX14_stage 41 = .ok (.iconst 0, 1) := by decide +kernel
theorem dX14_stage_42 : decode cX14_stage 42 = .ok (.istore_n 2, 1) := by decide +kernel
theorem dX14_stage_43 : decode cX14_stage 43 = .ok (.iload_n 2, 1) := by decide +kernel
theorem dX14_stage_44 : decode cX14_stage 44 = .ok (.sipush 20000, 3) := by decide +kernel
theorem dX14_stage_47 : decode cX14_stage 47 = .ok (.if_icmp .ge 16, 3) := by decide +kernel
theorem dX14_stage_50 : decode cX14_stage 50 = .ok (.aload_n 0, 1) := by decide +kernel
theorem dX14_stage_51 : decode cX14_stage 51 = .ok (.getfield 149, 3) := by decide +kernel
theorem dX14_stage_54 : decode cX14_stage 54 = .ok (.iload_n 2, 1) := by decide +kernel
theorem dX14_stage_55 : decode cX14_stage 55 = .ok (.iconst 0, 1) := by decide +kernel
theorem dX14_stage_56 : decode cX14_stage 56 = .ok (.iastore, 1) := by decide +kernel
theorem dX14_stage_57 : decode cX14_stage 57 = .ok (.iinc 2 1, 3) := by decide +kernel
theorem dX14_stage_60 : decode cX14_stage 60 = .ok (.goto (-17), 3) := by decide +kernel
theorem dX14_stage_63 : decode cX14_stage 63 = .ok (.aload_n 0, 1) := by decide +kernel
theorem dX14_stage_64 : decode cX14_stage 64 = .ok (.iconst 0, 1) := by decide +kernel
theorem dX14_stage_65 : decode cX14_stage 65 = .ok (.putfield 964, 3) := by decide +kernel
theorem dX14_stage_68 : decode cX14_stage 68 = .ok (.aload_n 0, 1) := by decide +kernel
theorem dX14_stage_69 : decode cX14_stage 69 = .ok (.iconst 0, 1) := by decide +kernel
theorem dX14_stage_70 : decode cX14_stage 70 = .ok (.putfield 967, 3) := by decide +kernel
theorem dX14_stage_73 : decode cX14_stage 73 = .ok (.iconst 1, 1) := by decide +kernel
theorem dX14_stage_74 : decode cX14_stage 74 = .ok (.ireturn, 1) := by decide +kernel
theorem dX14_stateAt_0 : decode cX14_stateAt 0 = .ok (.aload_n 0, 1) := by decide +kernel
theorem dX14_stateAt_1 : decode cX14_stateAt 1 = .ok (.iload_n 1, 1) := by decide +kernel
theorem dX14_stateAt_2 : decode cX14_stateAt 2 = .ok (.invokevirtual 860, 3) := by decide +kernel
theorem dX14_stateAt_5 : decode cX14_stateAt 5 = .ok (.ifCond .eq 49, 3) := by decide +kernel
theorem dX14_stateAt_8 : decode cX14_stateAt 8 = .ok (.aload_n 0, 1) := by decide +kernel
theorem dX14_stateAt_9 : decode cX14_stateAt 9 = .ok (.iload_n 1, 1) := by decide +kernel
theorem dX14_stateAt_10 : decode cX14_stateAt 10 = .ok (.iload_n 2, 1) := by decide +kernel
theorem dX14_stateAt_11 : decode cX14_stateAt 11 = .ok (.invokevirtual 662, 3) := by decide +kernel
theorem dX14_stateAt_14 : decode cX14_stateAt 14 = .ok (.ifCond .eq 40, 3) := by decide +kernel
theorem dX14_stateAt_17 : decode cX14_stateAt 17 = .ok (.iload_n 3, 1) := by decide +kernel
theorem dX14_stateAt_18 : decode cX14_stateAt 18 = .ok (.ifCond .lt 36, 3) := by decide +kernel
theorem dX14_stateAt_21 : decode cX14_stateAt 21 = .ok (.iload_n 3, 1) := by decide +kernel
theorem dX14_stateAt_22 : decode cX14_stateAt 22 = .ok (.aload_n 0, 1) := by decide +kernel
theorem dX14_stateAt_23 : decode cX14_stateAt 23 = .ok (.getfield 11, 3) := by decide +kernel
theorem dX14_stateAt_26 : decode cX14_stateAt 26 = .ok (.iload_n 1, 1) := by decide +kernel
theorem dX14_stateAt_27 : decode cX14_stateAt 27 = .ok (.aaload, 1) := by decide +kernel
theorem dX14_stateAt_28 : decode cX14_stateAt 28 = .ok (.getfield 510, 3) := by decide +kernel
theorem dX14_stateAt_31 : decode cX14_stateAt 31 = .ok (.iload_n 2, 1) := by decide +kernel
theorem dX14_stateAt_32 : decode cX14_stateAt 32 = .ok (.iaload, 1) := by decide +kernel
theorem dX14_stateAt_33 : decode cX14_stateAt 33 = .ok (.if_icmp .ge 21, 3) := by decide +kernel
theorem dX14_stateAt_36 : decode cX14_stateAt 36 = .ok (.iconst 4, 1) := by decide +kernel
theorem dX14_stateAt_37 : decode cX14_stateAt 37 = .ok (.aload_n 0, 1) := by decide +kernel
theorem dX14_stateAt_38 : decode cX14_stateAt 38 = .ok (.getfield 11, 3) := by decide +kernel
theorem dX14_stateAt_41 : decode cX14_stateAt 41 = .ok (.iload_n 1, 1) := by decide +kernel
theorem dX14_stateAt_42 : decode cX14_stateAt 42 = .ok (.aaload, 1) := by decide +kernel
theorem dX14_stateAt_43 : decode cX14_stateAt 43 = .ok (.getfield 507, 3) := by decide +kernel
theorem dX14_stateAt_46 : decode cX14_stateAt 46 = .ok (.iload_n 2, 1) := by decide +kernel
theorem dX14_stateAt_47 : decode cX14_stateAt 47 = .ok (.iaload, 1) := by decide +kernel
theorem dX14_stateAt_48 : decode cX14_stateAt 48 = .ok (.iload_n 3, 1) := by decide +kernel
theorem dX14_stateAt_49 : decode cX14_stateAt 49 = .ok (.iadd, 1) := by decide +kernel
theorem dX14_stateAt_50 : decode cX14_stateAt 50 = .ok (.imul, 1) := by decide +kernel
theorem dX14_stateAt_51 : decode cX14_stateAt 51 = .ok (.goto 4, 3) := by decide +kernel
theorem dX14_stateAt_54 : decode cX14_stateAt 54 = .ok (.iconst (-1), 1) := by decide +kernel
theorem dX14_stateAt_55 : decode cX14_stateAt 55 = .ok (.ireturn, 1) := by decide +kernel
theorem dX14_step_0 : decode cX14_step 0 = .ok (.aload_n 0, 1) := by decide +kernel
theorem dX14_step_1 : decode cX14_step 1 = .ok (.aload_n 0, 1) := by decide +kernel
theorem dX14_step_2 : decode cX14_step 2 = .ok (.getfield 961, 3) := by decide +kernel
theorem dX14_step_5 : decode cX14_step 5 = .ok (.aload_n 0, 1) := by decide +kernel
theorem dX14_step_6 : decode cX14_step 6 = .ok (.getfield 161, 3) := by decide +kernel
theorem dX14_step_9 : decode cX14_step 9 = .ok (.aload_n 0, 1) := by decide +kernel
theorem dX14_step_10 : decode cX14_step 10 = .ok (.getfield 974, 3) := by decide +kernel
theorem dX14_step_13 : decode cX14_step 13 = .ok (.iconst 1, 1) := by decide +kernel
theorem dX14_step_14 : decode cX14_step 14 = .ok (.isub, 1) := by decide +kernel
theorem dX14_step_15 : decode cX14_step 15 = .ok (.iaload, 1) := by decide +kernel
theorem dX14_step_16 : decode cX14_step 16 = .ok (.invokevirtual 834, 3) := by decide +kernel
theorem dX14_step_19 : decode cX14_step 19 = .ok (.aload_n 0, 1) := by decide +kernel
theorem dX14_step_20 : decode cX14_step 20 = .ok (.getfield 164, 3) := by decide +kernel
theorem dX14_step_23 : decode cX14_step 23 = .ok (.aload_n 0, 1) := by decide +kernel
theorem dX14_step_24 : decode cX14_step 24 = .ok (.getfield 974, 3) := by decide +kernel
theorem dX14_step_27 : decode cX14_step 27 = .ok (.iconst 1, 1) := by decide +kernel
theorem dX14_step_28 : decode cX14_step 28 = .ok (.isub, 1) := by decide +kernel
theorem dX14_step_29 : decode cX14_step 29 = .ok (.iaload, 1) := by decide +kernel
theorem dX14_step_30 : decode cX14_step 30 = .ok (.istore_n 1, 1) := by decide +kernel
theorem dX14_step_31 : decode cX14_step 31 = .ok (.aload_n 0, 1) := by decide +kernel
theorem dX14_step_32 : decode cX14_step 32 = .ok (.iload_n 1, 1) := by decide +kernel
theorem dX14_step_33 : decode cX14_step 33 = .ok (.invokevirtual 1009, 3) := by decide +kernel
theorem dX14_step_36 : decode cX14_step 36 = .ok (.aload_n 0, 1) := by decide +kernel
theorem dX14_step_37 : decode cX14_step 37 = .ok (.iload_n 1, 1) := by decide +kernel
theorem dX14_step_38 : decode cX14_step 38 = .ok (.invokevirtual 685, 3) := by decide +kernel
theorem dX14_step_41 : decode cX14_step 41 = .ok (.istore_n 2, 1) := by decide +kernel
theorem dX14_step_42 : decode cX14_step 42 = .ok (.aload_n 0, 1) := by decide +kernel
theorem dX14_step_43 : decode cX14_step 43 = .ok (.iload_n 1, 1) := by decide +kernel
theorem dX14_step_44 : decode cX14_step 44 = .ok (.invokevirtual 697, 3) := by decide +kernel
theorem dX14_step_47 : decode cX14_step 47 = .ok (.istore_n 3, 1) := by decide +kernel
theorem dX14_step_48 : decode cX14_step 48 = .ok (.iload_n 2, 1) := by decide +kernel
theorem dX14_step_49 : decode cX14_step 49 = .ok (.invokestatic 688, 3) := by decide +kernel
theorem dX14_step_52 : decode cX14_step 52 = .ok (.ifCond .eq 13, 3) := by decide +kernel
theorem dX14_step_55 : decode cX14_step 55 = .ok (.aload_n 0, 1) := by decide +kernel
theorem dX14_step_56 : decode cX14_step 56 = .ok (.iload_n 1, 1) := by decide +kernel
theorem dX14_step_57 : decode cX14_step 57 = .ok (.iload_n 2, 1) := by decide +kernel
theorem dX14_step_58 : decode cX14_step 58 = .ok (.iload_n 3, 1) := by decide +kernel
theorem dX14_step_59 : decode cX14_step 59 = .ok (.invokevirtual 1012, 3) := by decide +kernel
theorem dX14_step_62 : decode cX14_step 62 = .ok (.goto 132, 3) := by decide +kernel
theorem dX14_step_65 : decode cX14_step 65 = .ok (.iload_n 2, 1) := by decide +kernel
theorem dX14_step_66 : decode cX14_step 66 = .ok (.bipush 96, 2) := by decide +kernel
theorem dX14_step_68 : decode cX14_step 68 = .ok (.if_icmp .lt 10, 3) := by decide +kernel
theorem dX14_step_71 : decode cX14_step 71 = .ok (.iload_n 2, 1) := by decide +kernel
theorem dX14_step_72 : decode cX14_step 72 = .ok (.sipush 131, 3) := by decide +kernel
theorem dX14_step_75 : decode cX14_step 75 = .ok (.if_icmp .le 10, 3) := by decide +kernel
theorem dX14_step_78 : decode cX14_step 78 = .ok (.iload_n 2, 1) := by decide +kernel
theorem dX14_step_79 : decode cX14_step 79 = .ok (.sipush 148, 3) := by decide +kernel
theorem dX14_step_82 : decode cX14_step 82 = .ok (.if_icmp .ne 21, 3) := by decide +kernel
theorem dX14_step_85 : decode cX14_step 85 = .ok (.aload_n 0, 1) := by decide +kernel
theorem dX14_step_86 : decode cX14_step 86 = .ok (.iload_n 2, 1) := by decide +kernel
theorem dX14_step_87 : decode cX14_step 87 = .ok (.invokevirtual 1015, 3) := by decide +kernel
theorem dX14_step_90 : decode cX14_step 90 = .ok (.ifCond .eq 104, 3) := by decide +kernel
theorem dX14_step_93 : decode cX14_step 93 = .ok (.aload_n 0, 1) := by decide +kernel
theorem dX14_step_94 : decode cX14_step 94 = .ok (.iload_n 1, 1) := by decide +kernel
theorem dX14_step_95 : decode cX14_step 95 = .ok (.iconst 1, 1) := by decide +kernel
theorem dX14_step_96 : decode cX14_step 96 = .ok (.iadd, 1) := by decide +kernel
theorem dX14_step_97 : decode cX14_step 97 = .ok (.invokevirtual 1006, 3) := by decide +kernel
theorem dX14_step_100 : decode cX14_step 100 = .ok (.goto 94, 3) := by decide +kernel
theorem dX14_step_103 : decode cX14_step 103 = .ok (.iload_n 2, 1) := by decide +kernel
theorem dX14_step_104 : decode cX14_step 104 = .ok (.invokestatic 691, 3) := by decide +kernel
theorem dX14_step_107 : decode cX14_step 107 = .ok (.ifCond .eq 19, 3) := by decide +kernel
theorem dX14_step_110 : decode cX14_step 110 = .ok (.aload_n 0, 1) := by decide +kernel
theorem dX14_step_111 : decode cX14_step 111 = .ok (.aload_n 0, 1) := by decide +kernel
theorem dX14_step_112 : decode cX14_step 112 = .ok (.iload_n 1, 1) := by decide +kernel
theorem dX14_step_113 : decode cX14_step 113 = .ok (.aload_n 0, 1) := by decide +kernel
theorem dX14_step_114 : decode cX14_step 114 = .ok (.invokevirtual 1018, 3) := by decide +kernel
theorem dX14_step_117 : decode cX14_step 117 = .ok (.invokevirtual 1021, 3) := by decide +kernel
theorem dX14_step_120 : decode cX14_step 120 = .ok (.invokevirtual 1006, 3) := by decide +kernel
theorem dX14_step_123 : decode cX14_step 123 = .ok (.goto 71, 3) := by decide +kernel
theorem dX14_step_126 : decode cX14_step 126 = .ok (.iload_n 2, 1) := by decide +kernel
theorem dX14_step_127 : decode cX14_step 127 = .ok (.sipush 172, 3) := by decide +kernel
theorem dX14_step_130 : decode cX14_step 130 = .ok (.if_icmp .eq 24, 3) := by decide +kernel
theorem dX14_step_133 : decode cX14_step 133 = .ok (.iload_n 2, 1) := by decide +kernel
theorem dX14_step_134 : decode cX14_step 134 = .ok (.sipush 173, 3) := by decide +kernel
theorem dX14_step_137 : decode cX14_step 137 = .ok (.if_icmp .eq 17, 3) := by decide +kernel
theorem dX14_step_140 : decode cX14_step 140 = .ok (.iload_n 2, 1) := by decide +kernel
theorem dX14_step_141 : decode cX14_step 141 = .ok (.sipush 176, 3) := by decide +kernel
theorem dX14_step_144 : decode cX14_step 144 = .ok (.if_icmp .eq 10, 3) := by decide +kernel
theorem dX14_step_147 : decode cX14_step 147 = .ok (.iload_n 2, 1) := by decide +kernel
theorem dX14_step_148 : decode cX14_step 148 = .ok (.sipush 177, 3) := by decide +kernel
theorem dX14_step_151 : decode cX14_step 151 = .ok (.if_icmp .ne 11, 3) := by decide +kernel
theorem dX14_step_154 : decode cX14_step 154 = .ok (.aload_n 0, 1) := by decide +kernel
theorem dX14_step_155 : decode cX14_step 155 = .ok (.iload_n 2, 1) := by decide +kernel
theorem dX14_step_156 : decode cX14_step 156 = .ok (.invokevirtual 1024, 3) := by decide +kernel
theorem dX14_step_159 : decode cX14_step 159 = .ok (.goto 35, 3) := by decide +kernel
theorem dX14_step_162 : decode cX14_step 162 = .ok (.iload_n 2, 1) := by decide +kernel
theorem dX14_step_163 : decode cX14_step 163 = .ok (.sipush 184, 3) := by decide +kernel
theorem dX14_step_166 : decode cX14_step 166 = .ok (.if_icmp .ne 11, 3) := by decide +kernel
theorem dX14_step_169 : decode cX14_step 169 = .ok (.aload_n 0, 1) := by decide +kernel
theorem dX14_step_170 : decode cX14_step 170 = .ok (.iload_n 3, 1) := by decide +kernel
theorem dX14_step_171 : decode cX14_step 171 = .ok (.invokevirtual 1027, 3) := by decide +kernel
theorem dX14_step_174 : decode cX14_step 174 = .ok (.goto 20, 3) := by decide +kernel
theorem dX14_step_177 : decode cX14_step 177 = .ok (.aload_n 0, 1) := by decide +kernel
theorem dX14_step_178 : decode cX14_step 178 = .ok (.iload_n 1, 1) := by decide +kernel
theorem dX14_step_179 : decode cX14_step 179 = .ok (.iload_n 2, 1) := by decide +kernel
theorem dX14_step_180 : decode cX14_step 180 = .ok (.iload_n 3, 1) := by decide +kernel
theorem dX14_step_181 : decode cX14_step 181 = .ok (.invokevirtual 1030, 3) := by decide +kernel
theorem dX14_step_184 : decode cX14_step 184 = .ok (.ifCond .eq 10, 3) := by decide +kernel
theorem dX14_step_187 : decode cX14_step 187 = .ok (.aload_n 0, 1) := by decide +kernel
theorem dX14_step_188 : decode cX14_step 188 = .ok (.iload_n 1, 1) := by decide +kernel
theorem dX14_step_189 : decode cX14_step 189 = .ok (.iconst 1, 1) := by decide +kernel
theorem dX14_step_190 : decode cX14_step 190 = .ok (.iadd, 1) := by decide +kernel
theorem dX14_step_191 : decode cX14_step 191 = .ok (.invokevirtual 1006, 3) := by decide +kernel
theorem dX14_step_194 : decode cX14_step 194 = .ok (.return_, 1) := by decide +kernel
theorem dX14_steps_0 : decode cX14_steps 0 = .ok (.aload_n 0, 1) := by decide +kernel
theorem dX14_steps_1 : decode cX14_steps 1 = .ok (.getfield 983, 3) := by decide +kernel
theorem dX14_steps_4 : decode cX14_steps 4 = .ok (.ireturn, 1) := by decide +kernel
theorem dX14_store_0 : decode cX14_store 0 = .ok (.iload_n 1, 1) := by decide +kernel
theorem dX14_store_1 : decode cX14_store 1 = .ok (.bipush 55, 2) := by decide +kernel
theorem dX14_store_3 : decode cX14_store 3 = .ok (.if_icmp .ne 7, 3) := by decide +kernel
theorem dX14_store_6 : decode cX14_store 6 = .ok (.iconst 2, 1) := by decide +kernel
theorem dX14_store_7 : decode cX14_store 7 = .ok (.goto 4, 3) := by decide +kernel
theorem dX14_store_10 : decode cX14_store 10 = .ok (.iconst 1, 1) := by decide +kernel
theorem dX14_store_11 : decode cX14_store 11 = .ok (.istore 4, 2) := by decide +kernel
theorem dX14_store_13 : decode cX14_store 13 = .ok (.iload_n 2, 1) := by decide +kernel
theorem dX14_store_14 : decode cX14_store 14 = .ok (.ifCond .le 23, 3) := by decide +kernel
theorem dX14_store_17 : decode cX14_store 17 = .ok (.aload_n 0, 1) := by decide +kernel
theorem dX14_store_18 : decode cX14_store 18 = .ok (.getfield 99, 3) := by decide +kernel
theorem dX14_store_21 : decode cX14_store 21 = .ok (.iload_n 2, 1) := by decide +kernel
theorem dX14_store_22 : decode cX14_store 22 = .ok (.iconst 1, 1) := by decide +kernel
theorem dX14_store_23 : decode cX14_store 23 = .ok (.isub, 1) := by decide +kernel
theorem dX14_store_24 : decode cX14_store 24 = .ok (.baload, 1) := by decide +kernel
theorem dX14_store_25 : decode cX14_store 25 = .ok (.iconst 2, 1) := by decide +kernel
theorem dX14_store_26 : decode cX14_store 26 = .ok (.if_icmp .ne 11, 3) := by decide +kernel
theorem dX14_store_29 : decode cX14_store 29 = .ok (.aload_n 0, 1) := by decide +kernel
theorem dX14_store_30 : decode cX14_store 30 = .ok (.iload_n 2, 1) := by decide +kernel
theorem dX14_store_31 : decode cX14_store 31 = .ok (.iconst 1, 1) := by decide +kernel
theorem dX14_store_32 : decode cX14_store 32 = .ok (.isub, 1) := by decide +kernel
theorem dX14_store_33 : decode cX14_store 33 = .ok (.iconst 0, 1) := by decide +kernel
theorem dX14_store_34 : decode cX14_store 34 = .ok (.invokevirtual 814, 3) := by decide +kernel
theorem dX14_store_37 : decode cX14_store 37 = .ok (.iload_n 2, 1) := by decide +kernel
theorem dX14_store_38 : decode cX14_store 38 = .ok (.iload 4, 2) := by decide +kernel
theorem dX14_store_40 : decode cX14_store 40 = .ok (.iadd, 1) := by decide +kernel
theorem dX14_store_41 : decode cX14_store 41 = .ok (.bipush 24, 2) := by decide +kernel
theorem dX14_store_43 : decode cX14_store 43 = .ok (.if_icmp .ge 25, 3) := by decide +kernel
theorem dX14_store_46 : decode cX14_store 46 = .ok (.aload_n 0, 1) := by decide +kernel
theorem dX14_store_47 : decode cX14_store 47 = .ok (.getfield 99, 3) := by decide +kernel
theorem dX14_store_50 : decode cX14_store 50 = .ok (.iload_n 2, 1) := by decide +kernel
theorem dX14_store_51 : decode cX14_store 51 = .ok (.iload 4, 2) := by decide +kernel
theorem dX14_store_53 : decode cX14_store 53 = .ok (.iadd, 1) := by decide +kernel
theorem dX14_store_54 : decode cX14_store 54 = .ok (.baload, 1) := by decide +kernel
theorem dX14_store_55 : decode cX14_store 55 = .ok (.iconst 3, 1) := by decide +kernel
theorem dX14_store_56 : decode cX14_store 56 = .ok (.if_icmp .ne 12, 3) := by decide +kernel
theorem dX14_store_59 : decode cX14_store 59 = .ok (.aload_n 0, 1) := by decide +kernel
theorem dX14_store_60 : decode cX14_store 60 = .ok (.iload_n 2, 1) := by decide +kernel
theorem dX14_store_61 : decode cX14_store 61 = .ok (.iload 4, 2) := by decide +kernel
theorem dX14_store_63 : decode cX14_store 63 = .ok (.iadd, 1) := by decide +kernel
theorem dX14_store_64 : decode cX14_store 64 = .ok (.iconst 0, 1) := by decide +kernel
theorem dX14_store_65 : decode cX14_store 65 = .ok (.invokevirtual 814, 3) := by decide +kernel
theorem dX14_store_68 : decode cX14_store 68 = .ok (.aload_n 0, 1) := by decide +kernel
theorem dX14_store_69 : decode cX14_store 69 = .ok (.iload_n 2, 1) := by decide +kernel
theorem dX14_store_70 : decode cX14_store 70 = .ok (.iload_n 1, 1) := by decide +kernel
theorem dX14_store_71 : decode cX14_store 71 = .ok (.bipush 54, 2) := by decide +kernel
theorem dX14_store_73 : decode cX14_store 73 = .ok (.if_icmp .ne 7, 3) := by decide +kernel
theorem dX14_store_76 : decode cX14_store 76 = .ok (.iconst 1, 1) := by decide +kernel
theorem dX14_store_77 : decode cX14_store 77 = .ok (.goto 14, 3) := by decide +kernel
theorem dX14_store_80 : decode cX14_store 80 = .ok (.iload_n 1, 1) := by decide +kernel
theorem dX14_store_81 : decode cX14_store 81 = .ok (.bipush 55, 2) := by decide +kernel
theorem dX14_store_83 : decode cX14_store 83 = .ok (.if_icmp .ne 7, 3) := by decide +kernel
theorem dX14_store_86 : decode cX14_store 86 = .ok (.iconst 2, 1) := by decide +kernel
theorem dX14_store_87 : decode cX14_store 87 = .ok (.goto 4, 3) := by decide +kernel
theorem dX14_store_90 : decode cX14_store 90 = .ok (.iload_n 3, 1) := by decide +kernel
theorem dX14_store_91 : decode cX14_store 91 = .ok (.invokevirtual 814, 3) := by decide +kernel
theorem dX14_store_94 : decode cX14_store 94 = .ok (.iload 4, 2) := by decide +kernel
theorem dX14_store_96 : decode cX14_store 96 = .ok (.iconst 2, 1) := by decide +kernel
theorem dX14_store_97 : decode cX14_store 97 = .ok (.if_icmp .ne 11, 3) := by decide +kernel
theorem dX14_store_100 : decode cX14_store 100 = .ok (.aload_n 0, 1) := by decide +kernel
theorem dX14_store_101 : decode cX14_store 101 = .ok (.iload_n 2, 1) := by decide +kernel
theorem dX14_store_102 : decode cX14_store 102 = .ok (.iconst 1, 1) := by decide +kernel
theorem dX14_store_103 : decode cX14_store 103 = .ok (.iadd, 1) := by decide +kernel
theorem dX14_store_104 : decode cX14_store 104 = .ok (.iconst 3, 1) := by decide +kernel
theorem dX14_store_105 : decode cX14_store 105 = .ok (.invokevirtual 814, 3) := by decide +kernel
theorem dX14_store_108 : decode cX14_store 108 = .ok (.return_, 1) := by decide +kernel
theorem dX14_strays_0 : decode cX14_strays 0 = .ok (.aload_n 0, 1) := by decide +kernel
theorem dX14_strays_1 : decode cX14_strays 1 = .ok (.getfield 1050, 3) := by decide +kernel
theorem dX14_strays_4 : decode cX14_strays 4 = .ok (.ireturn, 1) := by decide +kernel
theorem dX14_sweep_0 : decode cX14_sweep 0 = .ok (.iconst 0, 1) := by decide +kernel
theorem dX14_sweep_1 : decode cX14_sweep 1 = .ok (.istore_n 1, 1) := by decide +kernel
theorem dX14_sweep_2 : decode cX14_sweep 2 = .ok (.iload_n 1, 1) := by decide +kernel
theorem dX14_sweep_3 : decode cX14_sweep 3 = .ok (.aload_n 0, 1) := by decide +kernel
theorem dX14_sweep_4 : decode cX14_sweep 4 = .ok (.getfield 1130, 3) := by decide +kernel
theorem dX14_sweep_7 : decode cX14_sweep 7 = .ok (.if_icmp .ge 16, 3) := by decide +kernel
theorem dX14_sweep_10 : decode cX14_sweep 10 = .ok (.aload_n 0, 1) := by decide +kernel
theorem dX14_sweep_11 : decode cX14_sweep 11 = .ok (.getfield 270, 3) := by decide +kernel
theorem dX14_sweep_14 : decode cX14_sweep 14 = .ok (.iload_n 1, 1) := by decide +kernel
theorem dX14_sweep_15 : decode cX14_sweep 15 = .ok (.iconst 0, 1) := by decide +kernel
theorem dX14_sweep_16 : decode cX14_sweep 16 = .ok (.bastore, 1) := by decide +kernel
theorem dX14_sweep_17 : decode cX14_sweep 17 = .ok (.iinc 1 1, 3) := by decide +kernel
theorem dX14_sweep_20 : decode cX14_sweep 20 = .ok (.goto (-18), 3) := by decide +kernel
theorem dX14_sweep_23 : decode cX14_sweep 23 = .ok (.aload_n 0, 1) := by decide +kernel
theorem dX14_sweep_24 : decode cX14_sweep 24 = .ok (.aload_n 0, 1) := by decide +kernel
theorem dX14_sweep_25 : decode cX14_sweep 25 = .ok (.iconst 0, 1) := by decide +kernel
theorem dX14_sweep_26 : decode cX14_sweep 26 = .ok (.invokevirtual 1133, 3) := by decide +kernel
theorem dX14_sweep_29 : decode cX14_sweep 29 = .ok (.invokevirtual 1193, 3) := by decide +kernel
theorem dX14_sweep_32 : decode cX14_sweep 32 = .ok (.istore_n 1, 1) := by decide +kernel
theorem dX14_sweep_33 : decode cX14_sweep 33 = .ok (.iload_n 1, 1) := by decide +kernel
theorem dX14_sweep_34 : decode cX14_sweep 34 = .ok (.ifCond .eq 60, 3) := by decide +kernel
theorem dX14_sweep_37 : decode cX14_sweep 37 = .ok (.iconst 0, 1) := by decide +kernel
theorem dX14_sweep_38 : decode cX14_sweep 38 = .ok (.istore_n 1, 1) := by decide +kernel
theorem dX14_sweep_39 : decode cX14_sweep 39 = .ok (.iconst 0, 1) := by decide +kernel
theorem dX14_sweep_40 : decode cX14_sweep 40 = .ok (.istore_n 2, 1) := by decide +kernel
theorem dX14_sweep_41 : decode cX14_sweep 41 = .ok (.iload_n 2, 1) := by decide +kernel
theorem dX14_sweep_42 : decode cX14_sweep 42 = .ok (.aload_n 0, 1) := by decide +kernel
theorem dX14_sweep_43 : decode cX14_sweep 43 = .ok (.getfield 1130, 3) := by decide +kernel
theorem dX14_sweep_46 : decode cX14_sweep 46 = .ok (.if_icmp .ge 45, 3) := by decide +kernel
theorem dX14_sweep_49 : decode cX14_sweep 49 = .ok (.aload_n 0, 1) := by decide +kernel
theorem dX14_sweep_50 : decode cX14_sweep 50 = .ok (.getfield 249, 3) := by decide +kernel
theorem dX14_sweep_53 : decode cX14_sweep 53 = .ok (.iload_n 2, 1) := by decide +kernel
theorem dX14_sweep_54 : decode cX14_sweep 54 = .ok (.baload, 1) := by decide +kernel
theorem dX14_sweep_55 : decode cX14_sweep 55 = .ok (.ifCond .ne 30, 3) := by decide +kernel
theorem dX14_sweep_58 : decode cX14_sweep 58 = .ok (.aload_n 0, 1) := by decide +kernel
theorem dX14_sweep_59 : decode cX14_sweep 59 = .ok (.getfield 270, 3) := by decide +kernel
theorem dX14_sweep_62 : decode cX14_sweep 62 = .ok (.iload_n 2, 1) := by decide +kernel
theorem dX14_sweep_63 : decode cX14_sweep 63 = .ok (.baload, 1) := by decide +kernel
theorem dX14_sweep_64 : decode cX14_sweep 64 = .ok (.ifCond .eq 21, 3) := by decide +kernel
theorem dX14_sweep_67 : decode cX14_sweep 67 = .ok (.aload_n 0, 1) := by decide +kernel
theorem dX14_sweep_68 : decode cX14_sweep 68 = .ok (.iload_n 2, 1) := by decide +kernel
theorem dX14_sweep_69 : decode cX14_sweep 69 = .ok (.invokevirtual 1199, 3) := by decide +kernel
theorem dX14_sweep_72 : decode cX14_sweep 72 = .ok (.ifCond .ne 7, 3) := by decide +kernel
theorem dX14_sweep_75 : decode cX14_sweep 75 = .ok (.iload_n 1, 1) := by decide +kernel
theorem dX14_sweep_76 : decode cX14_sweep 76 = .ok (.ifCond .eq 7, 3) := by decide +kernel
theorem dX14_sweep_79 : decode cX14_sweep 79 = .ok (.iconst 1, 1) := by decide +kernel
theorem dX14_sweep_80 : decode cX14_sweep 80 = .ok (.goto 4, 3) := by decide +kernel
theorem dX14_sweep_83 : decode cX14_sweep 83 = .ok (.iconst 0, 1) := by decide +kernel
theorem dX14_sweep_84 : decode cX14_sweep 84 = .ok (.istore_n 1, 1) := by decide +kernel
theorem dX14_sweep_85 : decode cX14_sweep 85 = .ok (.iinc 2 1, 3) := by decide +kernel
theorem dX14_sweep_88 : decode cX14_sweep 88 = .ok (.goto (-47), 3) := by decide +kernel
theorem dX14_sweep_91 : decode cX14_sweep 91 = .ok (.goto (-58), 3) := by decide +kernel
theorem dX14_sweep_94 : decode cX14_sweep 94 = .ok (.iconst 0, 1) := by decide +kernel
theorem dX14_sweep_95 : decode cX14_sweep 95 = .ok (.istore_n 2, 1) := by decide +kernel
theorem dX14_sweep_96 : decode cX14_sweep 96 = .ok (.iconst 0, 1) := by decide +kernel
theorem dX14_sweep_97 : decode cX14_sweep 97 = .ok (.istore_n 3, 1) := by decide +kernel
theorem dX14_sweep_98 : decode cX14_sweep 98 = .ok (.iload_n 3, 1) := by decide +kernel
theorem dX14_sweep_99 : decode cX14_sweep 99 = .ok (.aload_n 0, 1) := by decide +kernel
theorem dX14_sweep_100 : decode cX14_sweep 100 = .ok (.getfield 1130, 3) := by decide +kernel
theorem dX14_sweep_103 : decode cX14_sweep 103 = .ok (.if_icmp .ge 49, 3) := by decide +kernel
theorem dX14_sweep_106 : decode cX14_sweep 106 = .ok (.aload_n 0, 1) := by decide +kernel
theorem dX14_sweep_107 : decode cX14_sweep 107 = .ok (.getfield 249, 3) := by decide +kernel
theorem dX14_sweep_110 : decode cX14_sweep 110 = .ok (.iload_n 3, 1) := by decide +kernel
theorem dX14_sweep_111 : decode cX14_sweep 111 = .ok (.baload, 1) := by decide +kernel
theorem dX14_sweep_112 : decode cX14_sweep 112 = .ok (.ifCond .ne 34, 3) := by decide +kernel
theorem dX14_sweep_115 : decode cX14_sweep 115 = .ok (.aload_n 0, 1) := by decide +kernel
theorem dX14_sweep_116 : decode cX14_sweep 116 = .ok (.getfield 270, 3) := by decide +kernel
theorem dX14_sweep_119 : decode cX14_sweep 119 = .ok (.iload_n 3, 1) := by decide +kernel
theorem dX14_sweep_120 : decode cX14_sweep 120 = .ok (.baload, 1) := by decide +kernel
theorem dX14_sweep_121 : decode cX14_sweep 121 = .ok (.ifCond .eq 6, 3) := by decide +kernel
theorem dX14_sweep_124 : decode cX14_sweep 124 = .ok (.goto 22, 3) := by decide +kernel
theorem dX14_sweep_127 : decode cX14_sweep 127 = .ok (.aload_n 0, 1) := by decide +kernel
theorem dX14_sweep_128 : decode cX14_sweep 128 = .ok (.getfield 249, 3) := by decide +kernel
theorem dX14_sweep_131 : decode cX14_sweep 131 = .ok (.iload_n 3, 1) := by decide +kernel
theorem dX14_sweep_132 : decode cX14_sweep 132 = .ok (.iconst 1, 1) := by decide +kernel
theorem dX14_sweep_133 : decode cX14_sweep 133 = .ok (.bastore, 1) := by decide +kernel
theorem dX14_sweep_134 : decode cX14_sweep 134 = .ok (.aload_n 0, 1) := by decide +kernel
theorem dX14_sweep_135 : decode cX14_sweep 135 = .ok (.getfield 237, 3) := by decide +kernel
theorem dX14_sweep_138 : decode cX14_sweep 138 = .ok (.iconst 1, 1) := by decide +kernel
theorem dX14_sweep_139 : decode cX14_sweep 139 = .ok (.dup2, 1) := by decide +kernel
theorem dX14_sweep_140 : decode cX14_sweep 140 = .ok (.iaload, 1) := by decide +kernel
theorem dX14_sweep_141 : decode cX14_sweep 141 = .ok (.iconst 1, 1) := by decide +kernel
theorem dX14_sweep_142 : decode cX14_sweep 142 = .ok (.iadd, 1) := by decide +kernel
theorem dX14_sweep_143 : decode cX14_sweep 143 = .ok (.iastore, 1) := by decide +kernel
theorem dX14_sweep_144 : decode cX14_sweep 144 = .ok (.iconst 1, 1) := by decide +kernel
theorem dX14_sweep_145 : decode cX14_sweep 145 = .ok (.istore_n 2, 1) := by decide +kernel
theorem dX14_sweep_146 : decode cX14_sweep 146 = .ok (.iinc 3 1, 3) := by decide +kernel
theorem dX14_sweep_149 : decode cX14_sweep 149 = .ok (.goto (-51), 3) := by decide +kernel
theorem dX14_sweep_152 : decode cX14_sweep 152 = .ok (.aload_n 0, 1) := by decide +kernel
theorem dX14_sweep_153 : decode cX14_sweep 153 = .ok (.invokevirtual 1148, 3) := by decide +kernel
theorem dX14_sweep_156 : decode cX14_sweep 156 = .ok (.iload_n 2, 1) := by decide +kernel
theorem dX14_sweep_157 : decode cX14_sweep 157 = .ok (.ireturn, 1) := by decide +kernel
theorem dX14_switchFrom_0 : decode cX14_switchFrom 0 = .ok (.iload_n 0, 1) := by decide +kernel
theorem dX14_switchFrom_1 : decode cX14_switchFrom 1 = .ok (.iconst 1, 1) := by decide +kernel
theorem dX14_switchFrom_2 : decode cX14_switchFrom 2 = .ok (.iadd, 1) := by decide +kernel
theorem dX14_switchFrom_3 : decode cX14_switchFrom 3 = .ok (.iconst 3, 1) := by decide +kernel
theorem dX14_switchFrom_4 : decode cX14_switchFrom 4 = .ok (.iload_n 0, 1) := by decide +kernel
theorem dX14_switchFrom_5 : decode cX14_switchFrom 5 = .ok (.iconst 4, 1) := by decide +kernel
theorem dX14_switchFrom_6 : decode cX14_switchFrom 6 = .ok (.irem, 1) := by decide +kernel
theorem dX14_switchFrom_7 : decode cX14_switchFrom 7 = .ok (.isub, 1) := by decide +kernel
theorem dX14_switchFrom_8 : decode cX14_switchFrom 8 = .ok (.iadd, 1) := by decide +kernel
theorem dX14_switchFrom_9 : decode cX14_switchFrom 9 = .ok (.ireturn, 1) := by decide +kernel
theorem dX14_switchSpan_0 : decode cX14_switchSpan 0 = .ok (.iload_n 1, 1) := by decide +kernel
theorem dX14_switchSpan_1 : decode cX14_switchSpan 1 = .ok (.invokestatic 442, 3) := by decide +kernel
theorem dX14_switchSpan_4 : decode cX14_switchSpan 4 = .ok (.istore_n 3, 1) := by decide +kernel
theorem dX14_switchSpan_5 : decode cX14_switchSpan 5 = .ok (.iload_n 3, 1) := by decide +kernel
theorem dX14_switchSpan_6 : decode cX14_switchSpan 6 = .ok (.iload_n 2, 1) := by decide +kernel
theorem dX14_switchSpan_7 : decode cX14_switchSpan 7 = .ok (.sipush 170, 3) := by decide +kernel
theorem dX14_switchSpan_10 : decode cX14_switchSpan 10 = .ok (.if_icmp .ne 8, 3) := by decide +kernel
theorem dX14_switchSpan_13 : decode cX14_switchSpan 13 = .ok (.bipush 12, 2) := by decide +kernel
theorem dX14_switchSpan_15 : decode cX14_switchSpan 15 = .ok (.goto 5, 3) := by decide +kernel
theorem dX14_switchSpan_18 : decode cX14_switchSpan 18 = .ok (.bipush 8, 2) := by decide +kernel
theorem dX14_switchSpan_20 : decode cX14_switchSpan 20 = .ok (.iadd, 1) := by decide +kernel
theorem dX14_switchSpan_21 : decode cX14_switchSpan 21 = .ok (.aload_n 0, 1) := by decide +kernel
theorem dX14_switchSpan_22 : decode cX14_switchSpan 22 = .ok (.getfield 436, 3) := by decide +kernel
theorem dX14_switchSpan_25 : decode cX14_switchSpan 25 = .ok (.if_icmp .le 5, 3) := by decide +kernel
theorem dX14_switchSpan_28 : decode cX14_switchSpan 28 = .ok (.iconst 0, 1) := by decide +kernel
theorem dX14_switchSpan_29 : decode cX14_switchSpan 29 = .ok (.ireturn, 1) := by decide +kernel
theorem dX14_switchSpan_30 : decode cX14_switchSpan 30 = .ok (.iload_n 2, 1) := by decide +kernel
theorem dX14_switchSpan_31 : decode cX14_switchSpan 31 = .ok (.sipush 170, 3) := by decide +kernel
theorem dX14_switchSpan_34 : decode cX14_switchSpan 34 = .ok (.if_icmp .ne 58, 3) := by decide +kernel
theorem dX14_switchSpan_37 : decode cX14_switchSpan 37 = .ok (.aload_n 0, 1) := by decide +kernel
theorem dX14_switchSpan_38 : decode cX14_switchSpan 38 = .ok (.iload_n 3, 1) := by decide +kernel
theorem dX14_switchSpan_39 : decode cX14_switchSpan 39 = .ok (.bipush 8, 2) := by decide +kernel
theorem dX14_switchSpan_41 : decode cX14_switchSpan 41 = .ok (.iadd, 1) := by decide +kernel
theorem dX14_switchSpan_42 : decode cX14_switchSpan 42 = .ok (.invokevirtual 445, 3) := by decide +kernel
theorem dX14_switchSpan_45 : decode cX14_switchSpan 45 = .ok (.i2l, 1) := by decide +kernel
theorem dX14_switchSpan_46 : decode cX14_switchSpan 46 = .ok (.aload_n 0, 1) := by decide +kernel
theorem dX14_switchSpan_47 : decode cX14_switchSpan 47 = .ok (.iload_n 3, 1) := by decide +kernel
theorem dX14_switchSpan_48 : decode cX14_switchSpan 48 = .ok (.iconst 4, 1) := by decide +kernel
theorem dX14_switchSpan_49 : decode cX14_switchSpan 49 = .ok (.iadd, 1) := by decide +kernel
theorem dX14_switchSpan_50 : decode cX14_switchSpan 50 = .ok (.invokevirtual 445, 3) := by decide +kernel
theorem dX14_switchSpan_53 : decode cX14_switchSpan 53 = .ok (.i2l, 1) := by decide +kernel
theorem dX14_switchSpan_54 : decode cX14_switchSpan 54 = .ok (.lsub, 1) := by decide +kernel
theorem dX14_switchSpan_55 : decode cX14_switchSpan 55 = .ok (.lstore 4, 2) := by decide +kernel
theorem dX14_switchSpan_57 : decode cX14_switchSpan 57 = .ok (.lload 4, 2) := by decide +kernel
theorem dX14_switchSpan_59 : decode cX14_switchSpan 59 = .ok (.lconst 0, 1) := by decide +kernel
theorem dX14_switchSpan_60 : decode cX14_switchSpan 60 = .ok (.lcmp, 1) := by decide +kernel
theorem dX14_switchSpan_61 : decode cX14_switchSpan 61 = .ok (.ifCond .lt 12, 3) := by decide +kernel
theorem dX14_switchSpan_64 : decode cX14_switchSpan 64 = .ok (.lload 4, 2) := by decide +kernel
theorem dX14_switchSpan_66 : decode cX14_switchSpan 66 = .ok (.ldc2_w 448, 3) := by decide +kernel
theorem dX14_switchSpan_69 : decode cX14_switchSpan 69 = .ok (.lcmp, 1) := by decide +kernel
theorem dX14_switchSpan_70 : decode cX14_switchSpan 70 = .ok (.ifCond .le 7, 3) := by decide +kernel
theorem dX14_switchSpan_73 : decode cX14_switchSpan 73 = .ok (.iconst 0, 1) := by decide +kernel
theorem dX14_switchSpan_74 : decode cX14_switchSpan 74 = .ok (.goto 17, 3) := by decide +kernel
theorem dX14_switchSpan_77 : decode cX14_switchSpan 77 = .ok (.iload_n 3, 1) := by decide +kernel
theorem dX14_switchSpan_78 : decode cX14_switchSpan 78 = .ok (.bipush 12, 2) := by decide +kernel
theorem dX14_switchSpan_80 : decode cX14_switchSpan 80 = .ok (.iadd, 1) := by decide +kernel
theorem dX14_switchSpan_81 : decode cX14_switchSpan 81 = .ok (.iconst 4, 1) := by decide +kernel
theorem dX14_switchSpan_82 : decode cX14_switchSpan 82 = .ok (.lload 4, 2) := by decide +kernel
theorem dX14_switchSpan_84 : decode cX14_switchSpan 84 = .ok (.l2i, 1) := by decide +kernel
theorem dX14_switchSpan_85 : decode cX14_switchSpan 85 = .ok (.iconst 1, 1) := by decide +kernel
theorem dX14_switchSpan_86 : decode cX14_switchSpan 86 = .ok (.iadd, 1) := by decide +kernel
theorem dX14_switchSpan_87 : decode cX14_switchSpan 87 = .ok (.imul, 1) := by decide +kernel
theorem dX14_switchSpan_88 : decode cX14_switchSpan 88 = .ok (.iadd, 1) := by decide +kernel
theorem dX14_switchSpan_89 : decode cX14_switchSpan 89 = .ok (.iload_n 1, 1) := by decide +kernel
theorem dX14_switchSpan_90 : decode cX14_switchSpan 90 = .ok (.isub, 1) := by decide +kernel
theorem dX14_switchSpan_91 : decode cX14_switchSpan 91 = .ok (.ireturn, 1) := by decide +kernel
theorem dX14_switchSpan_92 : decode cX14_switchSpan 92 = .ok (.aload_n 0, 1) := by decide +kernel
theorem dX14_switchSpan_93 : decode cX14_switchSpan 93 = .ok (.iload_n 3, 1) := by decide +kernel
theorem dX14_switchSpan_94 : decode cX14_switchSpan 94 = .ok (.iconst 4, 1) := by decide +kernel
theorem dX14_switchSpan_95 : decode cX14_switchSpan 95 = .ok (.iadd, 1) := by decide +kernel
theorem dX14_switchSpan_96 : decode cX14_switchSpan 96 = .ok (.invokevirtual 445, 3) := by decide +kernel
theorem dX14_switchSpan_99 : decode cX14_switchSpan 99 = .ok (.istore 4, 2) := by decide +kernel
theorem dX14_switchSpan_101 : decode cX14_switchSpan 101 = .ok (.iload 4, 2) := by decide +kernel
theorem dX14_switchSpan_103 : decode cX14_switchSpan 103 = .ok (.ifCond .lt 28, 3) := by decide +kernel
theorem dX14_switchSpan_106 : decode cX14_switchSpan 106 = .ok (.iload 4, 2) := by decide +kernel
theorem dX14_switchSpan_108 : decode cX14_switchSpan 108 = .ok (.sipush 200, 3) := by decide +kernel
theorem dX14_switchSpan_111 : decode cX14_switchSpan 111 = .ok (.if_icmp .gt 20, 3) := by decide +kernel
theorem dX14_switchSpan_114 : decode cX14_switchSpan 114 = .ok (.iload_n 3, 1) := by decide +kernel
theorem dX14_switchSpan_115 : decode cX14_switchSpan 115 = .ok (.bipush 8, 2) := by decide +kernel
theorem dX14_switchSpan_117 : decode cX14_switchSpan 117 = .ok (.iadd, 1) := by decide +kernel
theorem dX14_switchSpan_118 : decode cX14_switchSpan 118 = .ok (.bipush 8, 2) := by decide +kernel
theorem dX14_switchSpan_120 : decode cX14_switchSpan 120 = .ok (.iload 4, 2) := by decide +kernel
theorem dX14_switchSpan_122 : decode cX14_switchSpan 122 = .ok (.imul, 1) := by decide +kernel
theorem dX14_switchSpan_123 : decode cX14_switchSpan 123 = .ok (.iadd, 1) := by decide +kernel
theorem dX14_switchSpan_124 : decode cX14_switchSpan 124 = .ok (.aload_n 0, 1) := by decide +kernel
theorem dX14_switchSpan_125 : decode cX14_switchSpan 125 = .ok (.getfield 436, 3) := by decide +kernel
theorem dX14_switchSpan_128 : decode cX14_switchSpan 128 = .ok (.if_icmp .le 5, 3) := by decide +kernel
theorem dX14_switchSpan_131 : decode cX14_switchSpan 131 = .ok (.iconst 0, 1) := by decide +kernel
theorem dX14_switchSpan_132 : decode cX14_switchSpan 132 = .ok (.ireturn, 1) := by decide +kernel
theorem dX14_switchSpan_133 : decode cX14_switchSpan 133 = .ok (.iconst 1, 1) := by decide +kernel
theorem dX14_switchSpan_134 : decode cX14_switchSpan 134 = .ok (.istore 5, 2) := by decide +kernel
theorem dX14_switchSpan_136 : decode cX14_switchSpan 136 = .ok (.iload 5, 2) := by decide +kernel
theorem dX14_switchSpan_138 : decode cX14_switchSpan 138 = .ok (.iload 4, 2) := by decide +kernel
theorem dX14_switchSpan_140 : decode cX14_switchSpan 140 = .ok (.if_icmp .ge 39, 3) := by decide +kernel
theorem dX14_switchSpan_143 : decode cX14_switchSpan 143 = .ok (.aload_n 0, 1) := by decide +kernel
theorem dX14_switchSpan_144 : decode cX14_switchSpan 144 = .ok (.iload_n 3, 1) := by decide +kernel
theorem dX14_switchSpan_145 : decode cX14_switchSpan 145 = .ok (.bipush 8, 2) := by decide +kernel
theorem dX14_switchSpan_147 : decode cX14_switchSpan 147 = .ok (.iadd, 1) := by decide +kernel
theorem dX14_switchSpan_148 : decode cX14_switchSpan 148 = .ok (.bipush 8, 2) := by decide +kernel
theorem dX14_switchSpan_150 : decode cX14_switchSpan 150 = .ok (.iload 5, 2) := by decide +kernel
theorem dX14_switchSpan_152 : decode cX14_switchSpan 152 = .ok (.imul, 1) := by decide +kernel
theorem dX14_switchSpan_153 : decode cX14_switchSpan 153 = .ok (.iadd, 1) := by decide +kernel
theorem dX14_switchSpan_154 : decode cX14_switchSpan 154 = .ok (.invokevirtual 445, 3) := by decide +kernel
theorem dX14_switchSpan_157 : decode cX14_switchSpan 157 = .ok (.aload_n 0, 1) := by decide +kernel
theorem dX14_switchSpan_158 : decode cX14_switchSpan 158 = .ok (.iload_n 3, 1) := by decide +kernel
theorem dX14_switchSpan_159 : decode cX14_switchSpan 159 = .ok (.bipush 8, 2) := by decide +kernel
theorem dX14_switchSpan_161 : decode cX14_switchSpan 161 = .ok (.iload 5, 2) := by decide +kernel
theorem dX14_switchSpan_163 : decode cX14_switchSpan 163 = .ok (.imul, 1) := by decide +kernel
theorem dX14_switchSpan_164 : decode cX14_switchSpan 164 = .ok (.iadd, 1) := by decide +kernel
theorem dX14_switchSpan_165 : decode cX14_switchSpan 165 = .ok (.invokevirtual 445, 3) := by decide +kernel
theorem dX14_switchSpan_168 : decode cX14_switchSpan 168 = .ok (.if_icmp .gt 5, 3) := by decide +kernel
theorem dX14_switchSpan_171 : decode cX14_switchSpan 171 = .ok (.iconst 0, 1) := by decide +kernel
theorem dX14_switchSpan_172 : decode cX14_switchSpan 172 = .ok (.ireturn, 1) := by decide +kernel
theorem dX14_switchSpan_173 : decode cX14_switchSpan 173 = .ok (.iinc 5 1, 3) := by decide +kernel
theorem dX14_switchSpan_176 : decode cX14_switchSpan 176 = .ok (.goto (-40), 3) := by decide +kernel
theorem dX14_switchSpan_179 : decode cX14_switchSpan 179 = .ok (.iload_n 3, 1) := by decide +kernel
theorem dX14_switchSpan_180 : decode cX14_switchSpan 180 = .ok (.bipush 8, 2) := by decide +kernel
theorem dX14_switchSpan_182 : decode cX14_switchSpan 182 = .ok (.iadd, 1) := by decide +kernel
theorem dX14_switchSpan_183 : decode cX14_switchSpan 183 = .ok (.bipush 8, 2) := by decide +kernel
theorem dX14_switchSpan_185 : decode cX14_switchSpan 185 = .ok (.iload 4, 2) := by decide +kernel
theorem dX14_switchSpan_187 : decode cX14_switchSpan 187 = .ok (.imul, 1) := by decide +kernel
theorem dX14_switchSpan_188 : decode cX14_switchSpan 188 = .ok (.iadd, 1) := by decide +kernel
theorem dX14_switchSpan_189 : decode cX14_switchSpan 189 = .ok (.iload_n 1, 1) := by decide +kernel
theorem dX14_switchSpan_190 : decode cX14_switchSpan 190 = .ok (.isub, 1) := by decide +kernel
theorem dX14_switchSpan_191 : decode cX14_switchSpan 191 = .ok (.ireturn, 1) := by decide +kernel
theorem dX14_switched_0 : decode cX14_switched 0 = .ok (.iload_n 1, 1) := by decide +kernel
theorem dX14_switched_1 : decode cX14_switched 1 = .ok (.invokestatic 442, 3) := by decide +kernel
theorem dX14_switched_4 : decode cX14_switched 4 = .ok (.istore_n 3, 1) := by decide +kernel
theorem dX14_switched_5 : decode cX14_switched 5 = .ok (.aload_n 0, 1) := by decide +kernel
theorem dX14_switched_6 : decode cX14_switched 6 = .ok (.getfield 501, 3) := by decide +kernel
theorem dX14_switched_9 : decode cX14_switched 9 = .ok (.istore 4, 2) := by decide +kernel
theorem dX14_switched_11 : decode cX14_switched 11 = .ok (.aload_n 0, 1) := by decide +kernel
theorem dX14_switched_12 : decode cX14_switched 12 = .ok (.getfield 82, 3) := by decide +kernel
theorem dX14_switched_15 : decode cX14_switched 15 = .ok (.aload_n 0, 1) := by decide +kernel
theorem dX14_switched_16 : decode cX14_switched 16 = .ok (.getfield 501, 3) := by decide +kernel
theorem dX14_switched_19 : decode cX14_switched 19 = .ok (.aload_n 0, 1) := by decide +kernel
theorem dX14_switched_20 : decode cX14_switched 20 = .ok (.iload_n 1, 1) := by decide +kernel
theorem dX14_switched_21 : decode cX14_switched 21 = .ok (.aload_n 0, 1) := by decide +kernel
theorem dX14_switched_22 : decode cX14_switched 22 = .ok (.iload_n 3, 1) := by decide +kernel
theorem dX14_switched_23 : decode cX14_switched 23 = .ok (.invokevirtual 445, 3) := by decide +kernel
theorem dX14_switched_26 : decode cX14_switched 26 = .ok (.invokevirtual 492, 3) := by decide +kernel
theorem dX14_switched_29 : decode cX14_switched 29 = .ok (.iastore, 1) := by decide +kernel
theorem dX14_switched_30 : decode cX14_switched 30 = .ok (.aload_n 0, 1) := by decide +kernel
theorem dX14_switched_31 : decode cX14_switched 31 = .ok (.dup, 1) := by decide +kernel
theorem dX14_switched_32 : decode cX14_switched 32 = .ok (.getfield 501, 3) := by decide +kernel
theorem dX14_switched_35 : decode cX14_switched 35 = .ok (.iconst 1, 1) := by decide +kernel
theorem dX14_switched_36 : decode cX14_switched 36 = .ok (.iadd, 1) := by decide +kernel
theorem dX14_switched_37 : decode cX14_switched 37 = .ok (.putfield 501, 3) := by decide +kernel
theorem dX14_switched_40 : decode cX14_switched 40 = .ok (.aload_n 0, 1) := by decide +kernel
theorem dX14_switched_41 : decode cX14_switched 41 = .ok (.iload_n 3, 1) := by decide +kernel
theorem dX14_switched_42 : decode cX14_switched 42 = .ok (.iconst 4, 1) := by decide +kernel
theorem dX14_switched_43 : decode cX14_switched 43 = .ok (.iadd, 1) := by decide +kernel
theorem dX14_switched_44 : decode cX14_switched 44 = .ok (.invokevirtual 445, 3) := by decide +kernel
theorem dX14_switched_47 : decode cX14_switched 47 = .ok (.istore 5, 2) := by decide +kernel
theorem dX14_switched_49 : decode cX14_switched 49 = .ok (.iload_n 2, 1) := by decide +kernel
theorem dX14_switched_50 : decode cX14_switched 50 = .ok (.sipush 170, 3) := by decide +kernel
theorem dX14_switched_53 : decode cX14_switched 53 = .ok (.if_icmp .ne 19, 3) := by decide +kernel
theorem dX14_switched_56 : decode cX14_switched 56 = .ok (.aload_n 0, 1) := by decide +kernel
theorem dX14_switched_57 : decode cX14_switched 57 = .ok (.iload_n 3, 1) := by decide +kernel
theorem dX14_switched_58 : decode cX14_switched 58 = .ok (.bipush 8, 2) := by decide +kernel
theorem dX14_switched_60 : decode cX14_switched 60 = .ok (.iadd, 1) := by decide +kernel
theorem dX14_switched_61 : decode cX14_switched 61 = .ok (.invokevirtual 445, 3) := by decide +kernel
theorem dX14_switched_64 : decode cX14_switched 64 = .ok (.iload 5, 2) := by decide +kernel
theorem dX14_switched_66 : decode cX14_switched 66 = .ok (.isub, 1) := by decide +kernel
theorem dX14_switched_67 : decode cX14_switched 67 = .ok (.iconst 1, 1) := by decide +kernel
theorem dX14_switched_68 : decode cX14_switched 68 = .ok (.iadd, 1) := by decide +kernel
theorem dX14_switched_69 : decode cX14_switched 69 = .ok (.goto 5, 3) := by decide +kernel
theorem dX14_switched_72 : decode cX14_switched 72 = .ok (.iload 5, 2) := by decide +kernel
theorem dX14_switched_74 : decode cX14_switched 74 = .ok (.istore 6, 2) := by decide +kernel
theorem dX14_switched_76 : decode cX14_switched 76 = .ok (.iconst 0, 1) := by decide +kernel
theorem dX14_switched_77 : decode cX14_switched 77 = .ok (.istore 7, 2) := by decide +kernel
theorem dX14_switched_79 : decode cX14_switched 79 = .ok (.iload 7, 2) := by decide +kernel
theorem dX14_switched_81 : decode cX14_switched 81 = .ok (.iload 6, 2) := by decide +kernel
theorem dX14_switched_83 : decode cX14_switched 83 = .ok (.if_icmp .ge 106, 3) := by decide +kernel
theorem dX14_switched_86 : decode cX14_switched 86 = .ok (.aload_n 0, 1) := by decide +kernel
theorem dX14_switched_87 : decode cX14_switched 87 = .ok (.getfield 82, 3) := by decide +kernel
theorem dX14_switched_90 : decode cX14_switched 90 = .ok (.aload_n 0, 1) := by decide +kernel
theorem dX14_switched_91 : decode cX14_switched 91 = .ok (.getfield 501, 3) := by decide +kernel
theorem dX14_switched_94 : decode cX14_switched 94 = .ok (.iload_n 2, 1) := by decide +kernel
theorem dX14_switched_95 : decode cX14_switched 95 = .ok (.sipush 170, 3) := by decide +kernel
theorem dX14_switched_98 : decode cX14_switched 98 = .ok (.if_icmp .ne 11, 3) := by decide +kernel
theorem dX14_switched_101 : decode cX14_switched 101 = .ok (.iload 5, 2) := by decide +kernel
theorem dX14_switched_103 : decode cX14_switched 103 = .ok (.iload 7, 2) := by decide +kernel
theorem dX14_switched_105 : decode cX14_switched 105 = .ok (.iadd, 1) := by decide +kernel
theorem dX14_switched_106 : decode cX14_switched 106 = .ok (.goto 17, 3) := by decide +kernel
theorem dX14_switched_109 : decode cX14_switched 109 = .ok (.aload_n 0, 1) := by decide +kernel
theorem dX14_switched_110 : decode cX14_switched 110 = .ok (.iload_n 3, 1) := by decide +kernel
theorem dX14_switched_111 : decode cX14_switched 111 = .ok (.bipush 8, 2) := by decide +kernel
theorem dX14_switched_113 : decode cX14_switched 113 = .ok (.iadd, 1) := by decide +kernel
theorem dX14_switched_114 : decode cX14_switched 114 = .ok (.bipush 8, 2) := by decide +kernel
theorem dX14_switched_116 : decode cX14_switched 116 = .ok (.iload 7, 2) := by decide +kernel
theorem dX14_switched_118 : decode cX14_switched 118 = .ok (.imul, 1) := by decide +kernel
theorem dX14_switched_119 : decode cX14_switched 119 = .ok (.iadd, 1) := by decide +kernel
theorem dX14_switched_120 : decode cX14_switched 120 = .ok (.invokevirtual 445, 3) := by decide +kernel
theorem dX14_switched_123 : decode cX14_switched 123 = .ok (.iastore, 1) := by decide +kernel
theorem dX14_switched_124 : decode cX14_switched 124 = .ok (.aload_n 0, 1) := by decide +kernel
theorem dX14_switched_125 : decode cX14_switched 125 = .ok (.getfield 82, 3) := by decide +kernel
theorem dX14_switched_128 : decode cX14_switched 128 = .ok (.aload_n 0, 1) := by decide +kernel
theorem dX14_switched_129 : decode cX14_switched 129 = .ok (.getfield 501, 3) := by decide +kernel
theorem dX14_switched_132 : decode cX14_switched 132 = .ok (.iconst 1, 1) := by decide +kernel
theorem dX14_switched_133 : decode cX14_switched 133 = .ok (.iadd, 1) := by decide +kernel
theorem dX14_switched_134 : decode cX14_switched 134 = .ok (.aload_n 0, 1) := by decide +kernel
theorem dX14_switched_135 : decode cX14_switched 135 = .ok (.iload_n 1, 1) := by decide +kernel
theorem dX14_switched_136 : decode cX14_switched 136 = .ok (.aload_n 0, 1) := by decide +kernel
theorem dX14_switched_137 : decode cX14_switched 137 = .ok (.iload_n 2, 1) := by decide +kernel
theorem dX14_switched_138 : decode cX14_switched 138 = .ok (.sipush 170, 3) := by decide +kernel
theorem dX14_switched_141 : decode cX14_switched 141 = .ok (.if_icmp .ne 15, 3) := by decide +kernel
theorem dX14_switched_144 : decode cX14_switched 144 = .ok (.iload_n 3, 1) := by decide +kernel
theorem dX14_switched_145 : decode cX14_switched 145 = .ok (.bipush 12, 2) := by decide +kernel
theorem dX14_switched_147 : decode cX14_switched 147 = .ok (.iadd, 1) := by decide +kernel
theorem dX14_switched_148 : decode cX14_switched 148 = .ok (.iconst 4, 1) := by decide +kernel
theorem dX14_switched_149 : decode cX14_switched 149 = .ok (.iload 7, 2) := by decide +kernel
theorem dX14_switched_151 : decode cX14_switched 151 = .ok (.imul, 1) := by decide +kernel
theorem dX14_switched_152 : decode cX14_switched 152 = .ok (.iadd, 1) := by decide +kernel
theorem dX14_switched_153 : decode cX14_switched 153 = .ok (.goto 13, 3) := by decide +kernel
theorem dX14_switched_156 : decode cX14_switched 156 = .ok (.iload_n 3, 1) := by decide +kernel
theorem dX14_switched_157 : decode cX14_switched 157 = .ok (.bipush 12, 2) := by decide +kernel
theorem dX14_switched_159 : decode cX14_switched 159 = .ok (.iadd, 1) := by decide +kernel
theorem dX14_switched_160 : decode cX14_switched 160 = .ok (.bipush 8, 2) := by decide +kernel
theorem dX14_switched_162 : decode cX14_switched 162 = .ok (.iload 7, 2) := by decide +kernel
theorem dX14_switched_164 : decode cX14_switched 164 = .ok (.imul, 1) := by decide +kernel
theorem dX14_switched_165 : decode cX14_switched 165 = .ok (.iadd, 1) := by decide +kernel
theorem dX14_switched_166 : decode cX14_switched 166 = .ok (.invokevirtual 445, 3) := by decide +kernel
theorem dX14_switched_169 : decode cX14_switched 169 = .ok (.invokevirtual 492, 3) := by decide +kernel
theorem dX14_switched_172 : decode cX14_switched 172 = .ok (.iastore, 1) := by decide +kernel
theorem dX14_switched_173 : decode cX14_switched 173 = .ok (.aload_n 0, 1) := by decide +kernel
theorem dX14_switched_174 : decode cX14_switched 174 = .ok (.dup, 1) := by decide +kernel
theorem dX14_switched_175 : decode cX14_switched 175 = .ok (.getfield 501, 3) := by decide +kernel
theorem dX14_switched_178 : decode cX14_switched 178 = .ok (.iconst 2, 1) := by decide +kernel
theorem dX14_switched_179 : decode cX14_switched 179 = .ok (.iadd, 1) := by decide +kernel
theorem dX14_switched_180 : decode cX14_switched 180 = .ok (.putfield 501, 3) := by decide +kernel
theorem dX14_switched_183 : decode cX14_switched 183 = .ok (.iinc 7 1, 3) := by decide +kernel
theorem dX14_switched_186 : decode cX14_switched 186 = .ok (.goto (-107), 3) := by decide +kernel
theorem dX14_switched_189 : decode cX14_switched 189 = .ok (.aload_n 0, 1) := by decide +kernel
theorem dX14_switched_190 : decode cX14_switched 190 = .ok (.iload_n 2, 1) := by decide +kernel
theorem dX14_switched_191 : decode cX14_switched 191 = .ok (.iload 4, 2) := by decide +kernel
theorem dX14_switched_193 : decode cX14_switched 193 = .ok (.iload 6, 2) := by decide +kernel
theorem dX14_switched_195 : decode cX14_switched 195 = .ok (.invokevirtual 472, 3) := by decide +kernel
theorem dX14_switched_198 : decode cX14_switched 198 = .ok (.return_, 1) := by decide +kernel
theorem dX14_tagAt_0 : decode cX14_tagAt 0 = .ok (.aload_n 0, 1) := by decide +kernel
theorem dX14_tagAt_1 : decode cX14_tagAt 1 = .ok (.getfield 179, 3) := by decide +kernel
theorem dX14_tagAt_4 : decode cX14_tagAt 4 = .ok (.bipush 24, 2) := by decide +kernel
theorem dX14_tagAt_6 : decode cX14_tagAt 6 = .ok (.aload_n 0, 1) := by decide +kernel
theorem dX14_tagAt_7 : decode cX14_tagAt 7 = .ok (.getfield 974, 3) := by decide +kernel
theorem dX14_tagAt_10 : decode cX14_tagAt 10 = .ok (.iconst 1, 1) := by decide +kernel
theorem dX14_tagAt_11 : decode cX14_tagAt 11 = .ok (.isub, 1) := by decide +kernel
theorem dX14_tagAt_12 : decode cX14_tagAt 12 = .ok (.imul, 1) := by decide +kernel
theorem dX14_tagAt_13 : decode cX14_tagAt 13 = .ok (.aload_n 0, 1) := by decide +kernel
theorem dX14_tagAt_14 : decode cX14_tagAt 14 = .ok (.getfield 167, 3) := by decide +kernel
theorem dX14_tagAt_17 : decode cX14_tagAt 17 = .ok (.aload_n 0, 1) := by decide +kernel
theorem dX14_tagAt_18 : decode cX14_tagAt 18 = .ok (.getfield 974, 3) := by decide +kernel
theorem dX14_tagAt_21 : decode cX14_tagAt 21 = .ok (.iconst 1, 1) := by decide +kernel
theorem dX14_tagAt_22 : decode cX14_tagAt 22 = .ok (.isub, 1) := by decide +kernel
theorem dX14_tagAt_23 : decode cX14_tagAt 23 = .ok (.iaload, 1) := by decide +kernel
theorem dX14_tagAt_24 : decode cX14_tagAt 24 = .ok (.iadd, 1) := by decide +kernel
theorem dX14_tagAt_25 : decode cX14_tagAt 25 = .ok (.iload_n 1, 1) := by decide +kernel
theorem dX14_tagAt_26 : decode cX14_tagAt 26 = .ok (.isub, 1) := by decide +kernel
theorem dX14_tagAt_27 : decode cX14_tagAt 27 = .ok (.baload, 1) := by decide +kernel
theorem dX14_tagAt_28 : decode cX14_tagAt 28 = .ok (.ireturn, 1) := by decide +kernel
theorem dX14_take_0 : decode cX14_take 0 = .ok (.aload_n 0, 1) := by decide +kernel
theorem dX14_take_1 : decode cX14_take 1 = .ok (.aload_n 0, 1) := by decide +kernel
theorem dX14_take_2 : decode cX14_take 2 = .ok (.getfield 62, 3) := by decide +kernel
theorem dX14_take_5 : decode cX14_take 5 = .ok (.iload_n 1, 1) := by decide +kernel
theorem dX14_take_6 : decode cX14_take 6 = .ok (.iaload, 1) := by decide +kernel
theorem dX14_take_7 : decode cX14_take 7 = .ok (.putfield 427, 3) := by decide +kernel
theorem dX14_take_10 : decode cX14_take 10 = .ok (.aload_n 0, 1) := by decide +kernel
theorem dX14_take_11 : decode cX14_take 11 = .ok (.aload_n 0, 1) := by decide +kernel
theorem dX14_take_12 : decode cX14_take 12 = .ok (.getfield 65, 3) := by decide +kernel
theorem dX14_take_15 : decode cX14_take 15 = .ok (.iload_n 1, 1) := by decide +kernel
theorem dX14_take_16 : decode cX14_take 16 = .ok (.iaload, 1) := by decide +kernel
theorem dX14_take_17 : decode cX14_take 17 = .ok (.putfield 436, 3) := by decide +kernel
theorem dX14_take_20 : decode cX14_take 20 = .ok (.return_, 1) := by decide +kernel
theorem dX14_takeLetter_0 : decode cX14_takeLetter 0 = .ok (.aload_n 0, 1) := by decide +kernel
theorem dX14_takeLetter_1 : decode cX14_takeLetter 1 = .ok (.invokevirtual 786, 3) := by decide +kernel
theorem dX14_takeLetter_4 : decode cX14_takeLetter 4 = .ok (.istore_n 2, 1) := by decide +kernel
theorem dX14_takeLetter_5 : decode cX14_takeLetter 5 = .ok (.iload_n 1, 1) := by decide +kernel
theorem dX14_takeLetter_6 : decode cX14_takeLetter 6 = .ok (.bipush 73, 2) := by decide +kernel
theorem dX14_takeLetter_8 : decode cX14_takeLetter 8 = .ok (.if_icmp .ne 20, 3) := by decide +kernel
theorem dX14_takeLetter_11 : decode cX14_takeLetter 11 = .ok (.aload_n 0, 1) := by decide +kernel
theorem dX14_takeLetter_12 : decode cX14_takeLetter 12 = .ok (.iload_n 2, 1) := by decide +kernel
theorem dX14_takeLetter_13 : decode cX14_takeLetter 13 = .ok (.iconst 1, 1) := by decide +kernel
theorem dX14_takeLetter_14 : decode cX14_takeLetter 14 = .ok (.if_icmp .ne 7, 3) := by decide +kernel
theorem dX14_takeLetter_17 : decode cX14_takeLetter 17 = .ok (.iconst 1, 1) := by decide +kernel
theorem dX14_takeLetter_18 : decode cX14_takeLetter 18 = .ok (.goto 4, 3) := by decide +kernel
theorem dX14_takeLetter_21 : decode cX14_takeLetter 21 = .ok (.iconst 0, 1) := by decide +kernel
theorem dX14_takeLetter_22 : decode cX14_takeLetter 22 = .ok (.invokevirtual 789, 3) := by decide +kernel
theorem dX14_takeLetter_25 : decode cX14_takeLetter 25 = .ok (.goto 102, 3) := by decide +kernel
theorem dX14_takeLetter_28 : decode cX14_takeLetter 28 = .ok (.iload_n 1, 1) := by decide +kernel
theorem dX14_takeLetter_29 : decode cX14_takeLetter 29 = .ok (.bipush 65, 2) := by decide +kernel
theorem dX14_takeLetter_31 : decode cX14_takeLetter 31 = .ok (.if_icmp .ne 26, 3) := by decide +kernel
theorem dX14_takeLetter_34 : decode cX14_takeLetter 34 = .ok (.aload_n 0, 1) := by decide +kernel
theorem dX14_takeLetter_35 : decode cX14_takeLetter 35 = .ok (.iload_n 2, 1) := by decide +kernel
theorem dX14_takeLetter_36 : decode cX14_takeLetter 36 = .ok (.iconst 4, 1) := by decide +kernel
theorem dX14_takeLetter_37 : decode cX14_takeLetter 37 = .ok (.if_icmp .eq 9, 3) := by decide +kernel
theorem dX14_takeLetter_40 : decode cX14_takeLetter 40 = .ok (.iload_n 2, 1) := by decide +kernel
theorem dX14_takeLetter_41 : decode cX14_takeLetter 41 = .ok (.bipush 6, 2) := by decide +kernel
theorem dX14_takeLetter_43 : decode cX14_takeLetter 43 = .ok (.if_icmp .ne 7, 3) := by decide +kernel
theorem dX14_takeLetter_46 : decode cX14_takeLetter 46 = .ok (.iconst 1, 1) := by decide +kernel
theorem dX14_takeLetter_47 : decode cX14_takeLetter 47 = .ok (.goto 4, 3) := by decide +kernel
theorem dX14_takeLetter_50 : decode cX14_takeLetter 50 = .ok (.iconst 0, 1) := by decide +kernel
theorem dX14_takeLetter_51 : decode cX14_takeLetter 51 = .ok (.invokevirtual 789, 3) := by decide +kernel
theorem dX14_takeLetter_54 : decode cX14_takeLetter 54 = .ok (.goto 73, 3) := by decide +kernel
theorem dX14_takeLetter_57 : decode cX14_takeLetter 57 = .ok (.iload_n 1, 1) := by decide +kernel
theorem dX14_takeLetter_58 : decode cX14_takeLetter 58 = .ok (.bipush 69, 2) := by decide +kernel
theorem dX14_takeLetter_60 : decode cX14_takeLetter 60 = .ok (.if_icmp .ne 26, 3) := by decide +kernel
theorem dX14_takeLetter_63 : decode cX14_takeLetter 63 = .ok (.aload_n 0, 1) := by decide +kernel
theorem dX14_takeLetter_64 : decode cX14_takeLetter 64 = .ok (.iload_n 2, 1) := by decide +kernel
theorem dX14_takeLetter_65 : decode cX14_takeLetter 65 = .ok (.iconst 5, 1) := by decide +kernel
theorem dX14_takeLetter_66 : decode cX14_takeLetter 66 = .ok (.if_icmp .eq 9, 3) := by decide +kernel
theorem dX14_takeLetter_69 : decode cX14_takeLetter 69 = .ok (.iload_n 2, 1) := by decide +kernel
theorem dX14_takeLetter_70 : decode cX14_takeLetter 70 = .ok (.bipush 6, 2) := by decide +kernel
theorem dX14_takeLetter_72 : decode cX14_takeLetter 72 = .ok (.if_icmp .ne 7, 3) := by decide +kernel
theorem dX14_takeLetter_75 : decode cX14_takeLetter 75 = .ok (.iconst 1, 1) := by decide +kernel
theorem dX14_takeLetter_76 : decode cX14_takeLetter 76 = .ok (.goto 4, 3) := by decide +kernel
theorem dX14_takeLetter_79 : decode cX14_takeLetter 79 = .ok (.iconst 0, 1) := by decide +kernel
theorem dX14_takeLetter_80 : decode cX14_takeLetter 80 = .ok (.invokevirtual 789, 3) := by decide +kernel
theorem dX14_takeLetter_83 : decode cX14_takeLetter 83 = .ok (.goto 44, 3) := by decide +kernel
theorem dX14_takeLetter_86 : decode cX14_takeLetter 86 = .ok (.iload_n 1, 1) := by decide +kernel
theorem dX14_takeLetter_87 : decode cX14_takeLetter 87 = .ok (.bipush 82, 2) := by decide +kernel
theorem dX14_takeLetter_89 : decode cX14_takeLetter 89 = .ok (.if_icmp .ne 14, 3) := by decide +kernel
theorem dX14_takeLetter_92 : decode cX14_takeLetter 92 = .ok (.aload_n 0, 1) := by decide +kernel
theorem dX14_takeLetter_93 : decode cX14_takeLetter 93 = .ok (.iload_n 2, 1) := by decide +kernel
theorem dX14_takeLetter_94 : decode cX14_takeLetter 94 = .ok (.invokestatic 777, 3) := by decide +kernel
theorem dX14_takeLetter_97 : decode cX14_takeLetter 97 = .ok (.invokevirtual 789, 3) := by decide +kernel
theorem dX14_takeLetter_100 : decode cX14_takeLetter 100 = .ok (.goto 27, 3) := by decide +kernel
theorem dX14_takeLetter_103 : decode cX14_takeLetter 103 = .ok (.aload_n 0, 1) := by decide +kernel
theorem dX14_takeLetter_104 : decode cX14_takeLetter 104 = .ok (.invokevirtual 786, 3) := by decide +kernel
theorem dX14_takeLetter_107 : decode cX14_takeLetter 107 = .ok (.istore_n 3, 1) := by decide +kernel
theorem dX14_takeLetter_108 : decode cX14_takeLetter 108 = .ok (.aload_n 0, 1) := by decide +kernel
theorem dX14_takeLetter_109 : decode cX14_takeLetter 109 = .ok (.iload_n 2, 1) := by decide +kernel
theorem dX14_takeLetter_110 : decode cX14_takeLetter 110 = .ok (.iconst 3, 1) := by decide +kernel
theorem dX14_takeLetter_111 : decode cX14_takeLetter 111 = .ok (.if_icmp .ne 12, 3) := by decide +kernel
theorem dX14_takeLetter_114 : decode cX14_takeLetter 114 = .ok (.iload_n 3, 1) := by decide +kernel
theorem dX14_takeLetter_115 : decode cX14_takeLetter 115 = .ok (.iconst 2, 1) := by decide +kernel
theorem dX14_takeLetter_116 : decode cX14_takeLetter 116 = .ok (.if_icmp .ne 7, 3) := by decide +kernel
theorem dX14_takeLetter_119 : decode cX14_takeLetter 119 = .ok (.iconst 1, 1) := by decide +kernel
theorem dX14_takeLetter_120 : decode cX14_takeLetter 120 = .ok (.goto 4, 3) := by decide +kernel
theorem dX14_takeLetter_123 : decode cX14_takeLetter 123 = .ok (.iconst 0, 1) := by decide +kernel
theorem dX14_takeLetter_124 : decode cX14_takeLetter 124 = .ok (.invokevirtual 789, 3) := by decide +kernel
theorem dX14_takeLetter_127 : decode cX14_takeLetter 127 = .ok (.return_, 1) := by decide +kernel
theorem dX14_takeMethod_0 : decode cX14_takeMethod 0 = .ok (.aload_n 0, 1) := by decide +kernel
theorem dX14_takeMethod_1 : decode cX14_takeMethod 1 = .ok (.aload_n 1, 1) := by decide +kernel
theorem dX14_takeMethod_2 : decode cX14_takeMethod 2 = .ok (.iload_n 2, 1) := by decide +kernel
theorem dX14_takeMethod_3 : decode cX14_takeMethod 3 = .ok (.invokevirtual 834, 3) := by decide +kernel
theorem dX14_takeMethod_6 : decode cX14_takeMethod 6 = .ok (.aload_n 0, 1) := by decide +kernel
theorem dX14_takeMethod_7 : decode cX14_takeMethod 7 = .ok (.aload_n 0, 1) := by decide +kernel
theorem dX14_takeMethod_8 : decode cX14_takeMethod 8 = .ok (.getfield 673, 3) := by decide +kernel
theorem dX14_takeMethod_11 : decode cX14_takeMethod 11 = .ok (.putfield 1130, 3) := by decide +kernel
theorem dX14_takeMethod_14 : decode cX14_takeMethod 14 = .ok (.iconst 0, 1) := by decide +kernel
theorem dX14_takeMethod_15 : decode cX14_takeMethod 15 = .ok (.istore_n 3, 1) := by decide +kernel
theorem dX14_takeMethod_16 : decode cX14_takeMethod 16 = .ok (.iload_n 3, 1) := by decide +kernel
theorem dX14_takeMethod_17 : decode cX14_takeMethod 17 = .ok (.aload_n 0, 1) := by decide +kernel
theorem dX14_takeMethod_18 : decode cX14_takeMethod 18 = .ok (.getfield 1130, 3) := by decide +kernel
theorem dX14_takeMethod_21 : decode cX14_takeMethod 21 = .ok (.if_icmp .ge 49, 3) := by decide +kernel
theorem dX14_takeMethod_24 : decode cX14_takeMethod 24 = .ok (.aload_n 0, 1) := by decide +kernel
theorem dX14_takeMethod_25 : decode cX14_takeMethod 25 = .ok (.getfield 240, 3) := by decide +kernel
theorem dX14_takeMethod_28 : decode cX14_takeMethod 28 = .ok (.iload_n 3, 1) := by decide +kernel
theorem dX14_takeMethod_29 : decode cX14_takeMethod 29 = .ok (.aload_n 0, 1) := by decide +kernel
theorem dX14_takeMethod_30 : decode cX14_takeMethod 30 = .ok (.iload_n 3, 1) := by decide +kernel
theorem dX14_takeMethod_31 : decode cX14_takeMethod 31 = .ok (.invokevirtual 685, 3) := by decide +kernel
theorem dX14_takeMethod_34 : decode cX14_takeMethod 34 = .ok (.iastore, 1) := by decide +kernel
theorem dX14_takeMethod_35 : decode cX14_takeMethod 35 = .ok (.aload_n 0, 1) := by decide +kernel
theorem dX14_takeMethod_36 : decode cX14_takeMethod 36 = .ok (.getfield 243, 3) := by decide +kernel
theorem dX14_takeMethod_39 : decode cX14_takeMethod 39 = .ok (.iload_n 3, 1) := by decide +kernel
theorem dX14_takeMethod_40 : decode cX14_takeMethod 40 = .ok (.aload_n 0, 1) := by decide +kernel
theorem dX14_takeMethod_41 : decode cX14_takeMethod 41 = .ok (.iload_n 3, 1) := by decide +kernel
theorem dX14_takeMethod_42 : decode cX14_takeMethod 42 = .ok (.invokevirtual 697, 3) := by decide +kernel
theorem dX14_takeMethod_45 : decode cX14_takeMethod 45 = .ok (.iastore, 1) := by decide +kernel
theorem dX14_takeMethod_46 : decode cX14_takeMethod 46 = .ok (.aload_n 0, 1) := by decide +kernel
theorem dX14_takeMethod_47 : decode cX14_takeMethod 47 = .ok (.getfield 246, 3) := by decide +kernel
theorem dX14_takeMethod_50 : decode cX14_takeMethod 50 = .ok (.iload_n 3, 1) := by decide +kernel
theorem dX14_takeMethod_51 : decode cX14_takeMethod 51 = .ok (.aload_n 0, 1) := by decide +kernel
theorem dX14_takeMethod_52 : decode cX14_takeMethod 52 = .ok (.iload_n 3, 1) := by decide +kernel
theorem dX14_takeMethod_53 : decode cX14_takeMethod 53 = .ok (.invokevirtual 694, 3) := by decide +kernel
theorem dX14_takeMethod_56 : decode cX14_takeMethod 56 = .ok (.iastore, 1) := by decide +kernel
theorem dX14_takeMethod_57 : decode cX14_takeMethod 57 = .ok (.aload_n 0, 1) := by decide +kernel
theorem dX14_takeMethod_58 : decode cX14_takeMethod 58 = .ok (.getfield 249, 3) := by decide +kernel
theorem dX14_takeMethod_61 : decode cX14_takeMethod 61 = .ok (.iload_n 3, 1) := by decide +kernel
theorem dX14_takeMethod_62 : decode cX14_takeMethod 62 = .ok (.iconst 0, 1) := by decide +kernel
theorem dX14_takeMethod_63 : decode cX14_takeMethod 63 = .ok (.bastore, 1) := by decide +kernel
theorem dX14_takeMethod_64 : decode cX14_takeMethod 64 = .ok (.iinc 3 1, 3) := by decide +kernel
theorem dX14_takeMethod_67 : decode cX14_takeMethod 67 = .ok (.goto (-51), 3) := by decide +kernel
theorem dX14_takeMethod_70 : decode cX14_takeMethod 70 = .ok (.aload_n 0, 1) := by decide +kernel
theorem dX14_takeMethod_71 : decode cX14_takeMethod 71 = .ok (.aload_n 0, 1) := by decide +kernel
theorem dX14_takeMethod_72 : decode cX14_takeMethod 72 = .ok (.getfield 679, 3) := by decide +kernel
theorem dX14_takeMethod_75 : decode cX14_takeMethod 75 = .ok (.putfield 1136, 3) := by decide +kernel
theorem dX14_takeMethod_78 : decode cX14_takeMethod 78 = .ok (.iconst 0, 1) := by decide +kernel
theorem dX14_takeMethod_79 : decode cX14_takeMethod 79 = .ok (.istore_n 3, 1) := by decide +kernel
theorem dX14_takeMethod_80 : decode cX14_takeMethod 80 = .ok (.iload_n 3, 1) := by decide +kernel
theorem dX14_takeMethod_81 : decode cX14_takeMethod 81 = .ok (.aload_n 0, 1) := by decide +kernel
theorem dX14_takeMethod_82 : decode cX14_takeMethod 82 = .ok (.getfield 1136, 3) := by decide +kernel
theorem dX14_takeMethod_85 : decode cX14_takeMethod 85 = .ok (.if_icmp .ge 64, 3) := by decide +kernel
theorem dX14_takeMethod_88 : decode cX14_takeMethod 88 = .ok (.aload_n 0, 1) := by decide +kernel
theorem dX14_takeMethod_89 : decode cX14_takeMethod 89 = .ok (.getfield 252, 3) := by decide +kernel
theorem dX14_takeMethod_92 : decode cX14_takeMethod 92 = .ok (.iload_n 3, 1) := by decide +kernel
theorem dX14_takeMethod_93 : decode cX14_takeMethod 93 = .ok (.aload_n 0, 1) := by decide +kernel
theorem dX14_takeMethod_94 : decode cX14_takeMethod 94 = .ok (.iload_n 3, 1) := by decide +kernel
theorem dX14_takeMethod_95 : decode cX14_takeMethod 95 = .ok (.iconst 0, 1) := by decide +kernel
theorem dX14_takeMethod_96 : decode cX14_takeMethod 96 = .ok (.invokevirtual 682, 3) := by decide +kernel
theorem dX14_takeMethod_99 : decode cX14_takeMethod 99 = .ok (.iastore, 1) := by decide +kernel
theorem dX14_takeMethod_100 : decode cX14_takeMethod 100 = .ok (.aload_n 0, 1) := by decide +kernel
theorem dX14_takeMethod_101 : decode cX14_takeMethod 101 = .ok (.getfield 255, 3) := by decide +kernel
theorem dX14_takeMethod_104 : decode cX14_takeMethod 104 = .ok (.iload_n 3, 1) := by decide +kernel
theorem dX14_takeMethod_105 : decode cX14_takeMethod 105 = .ok (.aload_n 0, 1) := by decide +kernel
theorem dX14_takeMethod_106 : decode cX14_takeMethod 106 = .ok (.iload_n 3, 1) := by decide +kernel
theorem dX14_takeMethod_107 : decode cX14_takeMethod 107 = .ok (.iconst 1, 1) := by decide +kernel
theorem dX14_takeMethod_108 : decode cX14_takeMethod 108 = .ok (.invokevirtual 682, 3) := by decide +kernel
theorem dX14_takeMethod_111 : decode cX14_takeMethod 111 = .ok (.iastore, 1) := by decide +kernel
theorem dX14_takeMethod_112 : decode cX14_takeMethod 112 = .ok (.aload_n 0, 1) := by decide +kernel
theorem dX14_takeMethod_113 : decode cX14_takeMethod 113 = .ok (.getfield 258, 3) := by decide +kernel
theorem dX14_takeMethod_116 : decode cX14_takeMethod 116 = .ok (.iload_n 3, 1) := by decide +kernel
theorem dX14_takeMethod_117 : decode cX14_takeMethod 117 = .ok (.aload_n 0, 1) := by decide +kernel
theorem dX14_takeMethod_118 : decode cX14_takeMethod 118 = .ok (.iload_n 3, 1) := by decide +kernel
theorem dX14_takeMethod_119 : decode cX14_takeMethod 119 = .ok (.iconst 2, 1) := by decide +kernel
theorem dX14_takeMethod_120 : decode cX14_takeMethod 120 = .ok (.invokevirtual 682, 3) := by decide +kernel
theorem dX14_takeMethod_123 : decode cX14_takeMethod 123 = .ok (.iastore, 1) := by decide +kernel
theorem dX14_takeMethod_124 : decode cX14_takeMethod 124 = .ok (.aload_n 0, 1) := by decide +kernel
theorem dX14_takeMethod_125 : decode cX14_takeMethod 125 = .ok (.getfield 261, 3) := by decide +kernel
theorem dX14_takeMethod_128 : decode cX14_takeMethod 128 = .ok (.iload_n 3, 1) := by decide +kernel
theorem dX14_takeMethod_129 : decode cX14_takeMethod 129 = .ok (.aload_n 0, 1) := by decide +kernel
theorem dX14_takeMethod_130 : decode cX14_takeMethod 130 = .ok (.iload_n 3, 1) := by decide +kernel
theorem dX14_takeMethod_131 : decode cX14_takeMethod 131 = .ok (.iconst 3, 1) := by decide +kernel
theorem dX14_takeMethod_132 : decode cX14_takeMethod 132 = .ok (.invokevirtual 682, 3) := by decide +kernel
theorem dX14_takeMethod_135 : decode cX14_takeMethod 135 = .ok (.iastore, 1) := by decide +kernel
theorem dX14_takeMethod_136 : decode cX14_takeMethod 136 = .ok (.aload_n 0, 1) := by decide +kernel
theorem dX14_takeMethod_137 : decode cX14_takeMethod 137 = .ok (.getfield 264, 3) := by decide +kernel
theorem dX14_takeMethod_140 : decode cX14_takeMethod 140 = .ok (.iload_n 3, 1) := by decide +kernel
theorem dX14_takeMethod_141 : decode cX14_takeMethod 141 = .ok (.iconst 0, 1) := by decide +kernel
theorem dX14_takeMethod_142 : decode cX14_takeMethod 142 = .ok (.bastore, 1) := by decide +kernel
theorem dX14_takeMethod_143 : decode cX14_takeMethod 143 = .ok (.iinc 3 1, 3) := by decide +kernel
theorem dX14_takeMethod_146 : decode cX14_takeMethod 146 = .ok (.goto (-66), 3) := by decide +kernel
theorem dX14_takeMethod_149 : decode cX14_takeMethod 149 = .ok (.return_, 1) := by decide +kernel
theorem dX14_takeOf_0 : decode cX14_takeOf 0 = .ok (.iconst 0, 1) := by decide +kernel
theorem dX14_takeOf_1 : decode cX14_takeOf 1 = .ok (.istore_n 3, 1) := by decide +kernel
theorem dX14_takeOf_2 : decode cX14_takeOf 2 = .ok (.iload_n 3, 1) := by decide +kernel
theorem dX14_takeOf_3 : decode cX14_takeOf 3 = .ok (.bipush 24, 2) := by decide +kernel
theorem dX14_takeOf_5 : decode cX14_takeOf 5 = .ok (.if_icmp .ge 26, 3) := by decide +kernel
theorem dX14_takeOf_8 : decode cX14_takeOf 8 = .ok (.aload_n 0, 1) := by decide +kernel
theorem dX14_takeOf_9 : decode cX14_takeOf 9 = .ok (.getfield 99, 3) := by decide +kernel
theorem dX14_takeOf_12 : decode cX14_takeOf 12 = .ok (.iload_n 3, 1) := by decide +kernel
theorem dX14_takeOf_13 : decode cX14_takeOf 13 = .ok (.aload_n 0, 1) := by decide +kernel
theorem dX14_takeOf_14 : decode cX14_takeOf 14 = .ok (.getfield 92, 3) := by decide +kernel
theorem dX14_takeOf_17 : decode cX14_takeOf 17 = .ok (.bipush 48, 2) := by decide +kernel
theorem dX14_takeOf_19 : decode cX14_takeOf 19 = .ok (.iload_n 1, 1) := by decide +kernel
theorem dX14_takeOf_20 : decode cX14_takeOf 20 = .ok (.imul, 1) := by decide +kernel
theorem dX14_takeOf_21 : decode cX14_takeOf 21 = .ok (.iload_n 3, 1) := by decide +kernel
theorem dX14_takeOf_22 : decode cX14_takeOf 22 = .ok (.iadd, 1) := by decide +kernel
theorem dX14_takeOf_23 : decode cX14_takeOf 23 = .ok (.baload, 1) := by decide +kernel
theorem dX14_takeOf_24 : decode cX14_takeOf 24 = .ok (.bastore, 1) := by decide +kernel
theorem dX14_takeOf_25 : decode cX14_takeOf 25 = .ok (.iinc 3 1, 3) := by decide +kernel
theorem dX14_takeOf_28 : decode cX14_takeOf 28 = .ok (.goto (-26), 3) := by decide +kernel
theorem dX14_takeOf_31 : decode cX14_takeOf 31 = .ok (.iconst 0, 1) := by decide +kernel
theorem dX14_takeOf_32 : decode cX14_takeOf 32 = .ok (.istore_n 3, 1) := by decide +kernel
theorem dX14_takeOf_33 : decode cX14_takeOf 33 = .ok (.iload_n 3, 1) := by decide +kernel
theorem dX14_takeOf_34 : decode cX14_takeOf 34 = .ok (.iload_n 2, 1) := by decide +kernel
theorem dX14_takeOf_35 : decode cX14_takeOf 35 = .ok (.if_icmp .ge 29, 3) := by decide +kernel
theorem dX14_takeOf_38 : decode cX14_takeOf 38 = .ok (.aload_n 0, 1) := by decide +kernel
theorem dX14_takeOf_39 : decode cX14_takeOf 39 = .ok (.getfield 102, 3) := by decide +kernel
theorem dX14_takeOf_42 : decode cX14_takeOf 42 = .ok (.iload_n 3, 1) := by decide +kernel
theorem dX14_takeOf_43 : decode cX14_takeOf 43 = .ok (.aload_n 0, 1) := by decide +kernel
theorem dX14_takeOf_44 : decode cX14_takeOf 44 = .ok (.getfield 92, 3) := by decide +kernel
theorem dX14_takeOf_47 : decode cX14_takeOf 47 = .ok (.bipush 48, 2) := by decide +kernel
theorem dX14_takeOf_49 : decode cX14_takeOf 49 = .ok (.iload_n 1, 1) := by decide +kernel
theorem dX14_takeOf_50 : decode cX14_takeOf 50 = .ok (.imul, 1) := by decide +kernel
theorem dX14_takeOf_51 : decode cX14_takeOf 51 = .ok (.bipush 24, 2) := by decide +kernel
theorem dX14_takeOf_53 : decode cX14_takeOf 53 = .ok (.iadd, 1) := by decide +kernel
theorem dX14_takeOf_54 : decode cX14_takeOf 54 = .ok (.iload_n 3, 1) := by decide +kernel
theorem dX14_takeOf_55 : decode cX14_takeOf 55 = .ok (.iadd, 1) := by decide +kernel
theorem dX14_takeOf_56 : decode cX14_takeOf 56 = .ok (.baload, 1) := by decide +kernel
theorem dX14_takeOf_57 : decode cX14_takeOf 57 = .ok (.bastore, 1) := by decide +kernel
theorem dX14_takeOf_58 : decode cX14_takeOf 58 = .ok (.iinc 3 1, 3) := by decide +kernel
theorem dX14_takeOf_61 : decode cX14_takeOf 61 = .ok (.goto (-28), 3) := by decide +kernel
theorem dX14_takeOf_64 : decode cX14_takeOf 64 = .ok (.aload_n 0, 1) := by decide +kernel
theorem dX14_takeOf_65 : decode cX14_takeOf 65 = .ok (.iload_n 2, 1) := by decide +kernel
theorem dX14_takeOf_66 : decode cX14_takeOf 66 = .ok (.putfield 780, 3) := by decide +kernel
theorem dX14_takeOf_69 : decode cX14_takeOf 69 = .ok (.return_, 1) := by decide +kernel
theorem dX14_takesOf_0 : decode cX14_takesOf 0 = .ok (.aload_n 0, 1) := by decide +kernel
theorem dX14_takesOf_1 : decode cX14_takesOf 1 = .ok (.iload_n 1, 1) := by decide +kernel
theorem dX14_takesOf_2 : decode cX14_takesOf 2 = .ok (.invokevirtual 685, 3) := by decide +kernel
theorem dX14_takesOf_5 : decode cX14_takesOf 5 = .ok (.istore_n 2, 1) := by decide +kernel
theorem dX14_takesOf_6 : decode cX14_takesOf 6 = .ok (.iload_n 2, 1) := by decide +kernel
theorem dX14_takesOf_7 : decode cX14_takesOf 7 = .ok (.bipush 96, 2) := by decide +kernel
theorem dX14_takesOf_9 : decode cX14_takesOf 9 = .ok (.if_icmp .lt 9, 3) := by decide +kernel
theorem dX14_takesOf_12 : decode cX14_takesOf 12 = .ok (.iload_n 2, 1) := by decide +kernel
theorem dX14_takesOf_13 : decode cX14_takesOf 13 = .ok (.bipush 115, 2) := by decide +kernel
theorem dX14_takesOf_15 : decode cX14_takesOf 15 = .ok (.if_icmp .le 16, 3) := by decide +kernel
theorem dX14_takesOf_18 : decode cX14_takesOf 18 = .ok (.iload_n 2, 1) := by decide +kernel
theorem dX14_takesOf_19 : decode cX14_takesOf 19 = .ok (.bipush 126, 2) := by decide +kernel
theorem dX14_takesOf_21 : decode cX14_takesOf 21 = .ok (.if_icmp .lt 26, 3) := by decide +kernel
theorem dX14_takesOf_24 : decode cX14_takesOf 24 = .ok (.iload_n 2, 1) := by decide +kernel
theorem dX14_takesOf_25 : decode cX14_takesOf 25 = .ok (.sipush 131, 3) := by decide +kernel
theorem dX14_takesOf_28 : decode cX14_takesOf 28 = .ok (.if_icmp .gt 19, 3) := by decide +kernel
theorem dX14_takesOf_31 : decode cX14_takesOf 31 = .ok (.iload_n 2, 1) := by decide +kernel
theorem dX14_takesOf_32 : decode cX14_takesOf 32 = .ok (.iconst 2, 1) := by decide +kernel
theorem dX14_takesOf_33 : decode cX14_takesOf 33 = .ok (.irem, 1) := by decide +kernel
theorem dX14_takesOf_34 : decode cX14_takesOf 34 = .ok (.ifCond .ne 9, 3) := by decide +kernel
theorem dX14_takesOf_37 : decode cX14_takesOf 37 = .ok (.ldc_w 700, 3) := by decide +kernel
theorem dX14_takesOf_40 : decode cX14_takesOf 40 = .ok (.goto 6, 3) := by decide +kernel
theorem dX14_takesOf_43 : decode cX14_takesOf 43 = .ok (.ldc_w 702, 3) := by decide +kernel
theorem dX14_takesOf_46 : decode cX14_takesOf 46 = .ok (.areturn, 1) := by decide +kernel
theorem dX14_takesOf_47 : decode cX14_takesOf 47 = .ok (.iload_n 2, 1) := by decide +kernel
theorem dX14_takesOf_48 : decode cX14_takesOf 48 = .ok (.bipush 120, 2) := by decide +kernel
theorem dX14_takesOf_50 : decode cX14_takesOf 50 = .ok (.if_icmp .lt 25, 3) := by decide +kernel
theorem dX14_takesOf_53 : decode cX14_takesOf 53 = .ok (.iload_n 2, 1) := by decide +kernel
theorem dX14_takesOf_54 : decode cX14_takesOf 54 = .ok (.bipush 125, 2) := by decide +kernel
theorem dX14_takesOf_56 : decode cX14_takesOf 56 = .ok (.if_icmp .gt 19, 3) := by decide +kernel
theorem dX14_takesOf_59 : decode cX14_takesOf 59 = .ok (.iload_n 2, 1) := by decide +kernel
theorem dX14_takesOf_60 : decode cX14_takesOf 60 = .ok (.iconst 2, 1) := by decide +kernel
theorem dX14_takesOf_61 : decode cX14_takesOf 61 = .ok (.irem, 1) := by decide +kernel
theorem dX14_takesOf_62 : decode cX14_takesOf 62 = .ok (.ifCond .ne 9, 3) := by decide +kernel
theorem dX14_takesOf_65 : decode cX14_takesOf 65 = .ok (.ldc_w 700, 3) := by decide +kernel
theorem dX14_takesOf_68 : decode cX14_takesOf 68 = .ok (.goto 6, 3) := by decide +kernel
theorem dX14_takesOf_71 : decode cX14_takesOf 71 = .ok (.ldc_w 704, 3) := by decide +kernel
theorem dX14_takesOf_74 : decode cX14_takesOf 74 = .ok (.areturn, 1) := by decide +kernel
theorem dX14_takesOf_75 : decode cX14_takesOf 75 = .ok (.iload_n 2, 1) := by decide +kernel
theorem dX14_takesOf_76 : decode cX14_takesOf 76 = .ok (.sipush 153, 3) := by decide +kernel
theorem dX14_takesOf_79 : decode cX14_takesOf 79 = .ok (.if_icmp .lt 14, 3) := by decide +kernel
theorem dX14_takesOf_82 : decode cX14_takesOf 82 = .ok (.iload_n 2, 1) := by decide +kernel
theorem dX14_takesOf_83 : decode cX14_takesOf 83 = .ok (.sipush 158, 3) := by decide +kernel
theorem dX14_takesOf_86 : decode cX14_takesOf 86 = .ok (.if_icmp .gt 7, 3) := by decide +kernel
theorem dX14_takesOf_89 : decode cX14_takesOf 89 = .ok (.ldc_w 706, 3) := by decide +kernel
theorem dX14_takesOf_92 : decode cX14_takesOf 92 = .ok (.areturn, 1) := by decide +kernel
theorem dX14_takesOf_93 : decode cX14_takesOf 93 = .ok (.iload_n 2, 1) := by decide +kernel
theorem dX14_takesOf_94 : decode cX14_takesOf 94 = .ok (.sipush 159, 3) := by decide +kernel
theorem dX14_takesOf_97 : decode cX14_takesOf 97 = .ok (.if_icmp .lt 14, 3) := by decide +kernel
theorem dX14_takesOf_100 : decode cX14_takesOf 100 = .ok (.iload_n 2, 1) := by decide +kernel
theorem dX14_takesOf_101 : decode cX14_takesOf 101 = .ok (.sipush 164, 3) := by decide +kernel
theorem dX14_takesOf_104 : decode cX14_takesOf 104 = .ok (.if_icmp .gt 7, 3) := by decide +kernel
theorem dX14_takesOf_107 : decode cX14_takesOf 107 = .ok (.ldc_w 700, 3) := by decide +kernel
theorem dX14_takesOf_110 : decode cX14_takesOf 110 = .ok (.areturn, 1) := by decide +kernel
theorem dX14_takesOf_111 : decode cX14_takesOf 111 = .ok (.iload_n 2, 1) := by decide +kernel
theorem dX14_takesOf_112 : decode cX14_takesOf 112 = .ok (.lookupswitch 292 #[(46, 228), (54, 236), (55, 240), (58, 244), (79, 232), (116, 236), (117, 240), (133, 236), (136, 240), (145, 236), (146, 236), (147, 236), (148, 248), (165, 252), (166, 252), (170, 236), (171, 236), (172, 236), (173, 240), (176, 256), (179, 264), (184, 278), (188, 236), (190, 256), (191, 260), (198, 244), (199, 244)], 228) := by decide +kernel
theorem dX14_takesOf_340 : decode cX14_takesOf 340 = .ok (.ldc_w 707, 3) := by decide +kernel
theorem dX14_takesOf_343 : decode cX14_takesOf 343 = .ok (.areturn, 1) := by decide +kernel
theorem dX14_takesOf_344 : decode cX14_takesOf 344 = .ok (.ldc_w 709, 3) := by decide +kernel
theorem dX14_takesOf_347 : decode cX14_takesOf 347 = .ok (.areturn, 1) := by decide +kernel
theorem dX14_takesOf_348 : decode cX14_takesOf 348 = .ok (.ldc_w 706, 3) := by decide +kernel
theorem dX14_takesOf_351 : decode cX14_takesOf 351 = .ok (.areturn, 1) := by decide +kernel
theorem dX14_takesOf_352 : decode cX14_takesOf 352 = .ok (.ldc_w 711, 3) := by decide +kernel
theorem dX14_takesOf_355 : decode cX14_takesOf 355 = .ok (.areturn, 1) := by decide +kernel
theorem dX14_takesOf_356 : decode cX14_takesOf 356 = .ok (.ldc_w 713, 3) := by decide +kernel
theorem dX14_takesOf_359 : decode cX14_takesOf 359 = .ok (.areturn, 1) := by decide +kernel
theorem dX14_takesOf_360 : decode cX14_takesOf 360 = .ok (.ldc_w 702, 3) := by decide +kernel
theorem dX14_takesOf_363 : decode cX14_takesOf 363 = .ok (.areturn, 1) := by decide +kernel
theorem dX14_takesOf_364 : decode cX14_takesOf 364 = .ok (.ldc_w 715, 3) := by decide +kernel
theorem dX14_takesOf_367 : decode cX14_takesOf 367 = .ok (.areturn, 1) := by decide +kernel
theorem dX14_takesOf_368 : decode cX14_takesOf 368 = .ok (.ldc_w 717, 3) := by decide +kernel
theorem dX14_takesOf_371 : decode cX14_takesOf 371 = .ok (.areturn, 1) := by decide +kernel
theorem dX14_takesOf_372 : decode cX14_takesOf 372 = .ok (.ldc_w 719, 3) := by decide +kernel
theorem dX14_takesOf_375 : decode cX14_takesOf 375 = .ok (.areturn, 1) := by decide +kernel
theorem dX14_takesOf_376 : decode cX14_takesOf 376 = .ok (.aload_n 0, 1) := by decide +kernel
theorem dX14_takesOf_377 : decode cX14_takesOf 377 = .ok (.getfield 665, 3) := by decide +kernel
theorem dX14_takesOf_380 : decode cX14_takesOf 380 = .ok (.getfield 606, 3) := by decide +kernel
theorem dX14_takesOf_383 : decode cX14_takesOf 383 = .ok (.aload_n 0, 1) := by decide +kernel
theorem dX14_takesOf_384 : decode cX14_takesOf 384 = .ok (.iload_n 1, 1) := by decide +kernel
theorem dX14_takesOf_385 : decode cX14_takesOf 385 = .ok (.invokevirtual 697, 3) := by decide +kernel
theorem dX14_takesOf_388 : decode cX14_takesOf 388 = .ok (.aaload, 1) := by decide +kernel
theorem dX14_takesOf_389 : decode cX14_takesOf 389 = .ok (.areturn, 1) := by decide +kernel
theorem dX14_takesOf_390 : decode cX14_takesOf 390 = .ok (.aload_n 0, 1) := by decide +kernel
theorem dX14_takesOf_391 : decode cX14_takesOf 391 = .ok (.getfield 665, 3) := by decide +kernel
theorem dX14_takesOf_394 : decode cX14_takesOf 394 = .ok (.getfield 619, 3) := by decide +kernel
theorem dX14_takesOf_397 : decode cX14_takesOf 397 = .ok (.aload_n 0, 1) := by decide +kernel
theorem dX14_takesOf_398 : decode cX14_takesOf 398 = .ok (.iload_n 1, 1) := by decide +kernel
theorem dX14_takesOf_399 : decode cX14_takesOf 399 = .ok (.invokevirtual 697, 3) := by decide +kernel
theorem dX14_takesOf_402 : decode cX14_takesOf 402 = .ok (.aaload, 1) := by decide +kernel
theorem dX14_takesOf_403 : decode cX14_takesOf 403 = .ok (.areturn, 1) := by decide +kernel
theorem dX14_takesOf_404 : decode cX14_takesOf 404 = .ok (.ldc_w 721, 3) := by decide +kernel
theorem dX14_takesOf_407 : decode cX14_takesOf 407 = .ok (.areturn, 1) := by decide +kernel
theorem dX14_target_0 : decode cX14_target 0 = .ok (.aload_n 0, 1) := by decide +kernel
theorem dX14_target_1 : decode cX14_target 1 = .ok (.aload_n 0, 1) := by decide +kernel
theorem dX14_target_2 : decode cX14_target 2 = .ok (.iload_n 1, 1) := by decide +kernel
theorem dX14_target_3 : decode cX14_target 3 = .ok (.iload_n 2, 1) := by decide +kernel
theorem dX14_target_4 : decode cX14_target 4 = .ok (.iadd, 1) := by decide +kernel
theorem dX14_target_5 : decode cX14_target 5 = .ok (.invokevirtual 462, 3) := by decide +kernel
theorem dX14_target_8 : decode cX14_target 8 = .ok (.iload_n 1, 1) := by decide +kernel
theorem dX14_target_9 : decode cX14_target 9 = .ok (.invokevirtual 465, 3) := by decide +kernel
theorem dX14_target_12 : decode cX14_target 12 = .ok (.aload_n 0, 1) := by decide +kernel
theorem dX14_target_13 : decode cX14_target 13 = .ok (.getfield 74, 3) := by decide +kernel
theorem dX14_target_16 : decode cX14_target 16 = .ok (.iload_n 1, 1) := by decide +kernel
theorem dX14_target_17 : decode cX14_target 17 = .ok (.iload_n 2, 1) := by decide +kernel
theorem dX14_target_18 : decode cX14_target 18 = .ok (.iadd, 1) := by decide +kernel
theorem dX14_target_19 : decode cX14_target 19 = .ok (.iaload, 1) := by decide +kernel
theorem dX14_target_20 : decode cX14_target 20 = .ok (.ireturn, 1) := by decide +kernel
theorem dX14_text_0 : decode cX14_text 0 = .ok (.new 540, 3) := by decide +kernel
theorem dX14_text_3 : decode cX14_text 3 = .ok (.dup, 1) := by decide +kernel
theorem dX14_text_4 : decode cX14_text 4 = .ok (.aload_n 0, 1) := by decide +kernel
theorem dX14_text_5 : decode cX14_text 5 = .ok (.getfield 40, 3) := by decide +kernel
theorem dX14_text_8 : decode cX14_text 8 = .ok (.iload_n 1, 1) := by decide +kernel
theorem dX14_text_9 : decode cX14_text 9 = .ok (.iaload, 1) := by decide +kernel
theorem dX14_text_10 : decode cX14_text 10 = .ok (.invokespecial 542, 3) := by decide +kernel
theorem dX14_text_13 : decode cX14_text 13 = .ok (.astore_n 2, 1) := by decide +kernel
theorem dX14_text_14 : decode cX14_text 14 = .ok (.iconst 0, 1) := by decide +kernel
theorem dX14_text_15 : decode cX14_text 15 = .ok (.istore_n 3, 1) := by decide +kernel
theorem dX14_text_16 : decode cX14_text 16 = .ok (.iload_n 3, 1) := by decide +kernel
theorem dX14_text_17 : decode cX14_text 17 = .ok (.aload_n 0, 1) := by decide +kernel
theorem dX14_text_18 : decode cX14_text 18 = .ok (.getfield 40, 3) := by decide +kernel
theorem dX14_text_21 : decode cX14_text 21 = .ok (.iload_n 1, 1) := by decide +kernel
theorem dX14_text_22 : decode cX14_text 22 = .ok (.iaload, 1) := by decide +kernel
theorem dX14_text_23 : decode cX14_text 23 = .ok (.if_icmp .ge 21, 3) := by decide +kernel
theorem dX14_text_26 : decode cX14_text 26 = .ok (.aload_n 2, 1) := by decide +kernel
theorem dX14_text_27 : decode cX14_text 27 = .ok (.aload_n 0, 1) := by decide +kernel
theorem dX14_text_28 : decode cX14_text 28 = .ok (.iload_n 1, 1) := by decide +kernel
theorem dX14_text_29 : decode cX14_text 29 = .ok (.iload_n 3, 1) := by decide +kernel
theorem dX14_text_30 : decode cX14_text 30 = .ok (.invokevirtual 387, 3) := by decide +kernel
theorem dX14_text_33 : decode cX14_text 33 = .ok (.i2c, 1) := by decide +kernel
theorem dX14_text_34 : decode cX14_text 34 = .ok (.invokevirtual 544, 3) := by decide +kernel
theorem dX14_text_37 : decode cX14_text 37 = .ok (.pop, 1) := by decide +kernel
theorem dX14_text_38 : decode cX14_text 38 = .ok (.iinc 3 1, 3) := by decide +kernel
theorem dX14_text_41 : decode cX14_text 41 = .ok (.goto (-25), 3) := by decide +kernel
theorem dX14_text_44 : decode cX14_text 44 = .ok (.aload_n 2, 1) := by decide +kernel
theorem dX14_text_45 : decode cX14_text 45 = .ok (.invokevirtual 548, 3) := by decide +kernel
theorem dX14_text_48 : decode cX14_text 48 = .ok (.areturn, 1) := by decide +kernel
theorem dX14_thingTag_0 : decode cX14_thingTag 0 = .ok (.lload_n 0, 1) := by decide +kernel
theorem dX14_thingTag_1 : decode cX14_thingTag 1 = .ok (.lconst 0, 1) := by decide +kernel
theorem dX14_thingTag_2 : decode cX14_thingTag 2 = .ok (.lcmp, 1) := by decide +kernel
theorem dX14_thingTag_3 : decode cX14_thingTag 3 = .ok (.ifCond .ne 8, 3) := by decide +kernel
theorem dX14_thingTag_6 : decode cX14_thingTag 6 = .ok (.bipush 6, 2) := by decide +kernel
theorem dX14_thingTag_8 : decode cX14_thingTag 8 = .ok (.goto 14, 3) := by decide +kernel
theorem dX14_thingTag_11 : decode cX14_thingTag 11 = .ok (.lload_n 0, 1) := by decide +kernel
theorem dX14_thingTag_12 : decode cX14_thingTag 12 = .ok (.lconst 0, 1) := by decide +kernel
theorem dX14_thingTag_13 : decode cX14_thingTag 13 = .ok (.lcmp, 1) := by decide +kernel
theorem dX14_thingTag_14 : decode cX14_thingTag 14 = .ok (.ifCond .le 7, 3) := by decide +kernel
theorem dX14_thingTag_17 : decode cX14_thingTag 17 = .ok (.iconst 4, 1) := by decide +kernel
theorem dX14_thingTag_18 : decode cX14_thingTag 18 = .ok (.goto 4, 3) := by decide +kernel
theorem dX14_thingTag_21 : decode cX14_thingTag 21 = .ok (.iconst 5, 1) := by decide +kernel
theorem dX14_thingTag_22 : decode cX14_thingTag 22 = .ok (.i2b, 1) := by decide +kernel
theorem dX14_thingTag_23 : decode cX14_thingTag 23 = .ok (.ireturn, 1) := by decide +kernel
theorem dX14_threaded_0 : decode cX14_threaded 0 = .ok (.iconst 0, 1) := by decide +kernel
theorem dX14_threaded_1 : decode cX14_threaded 1 = .ok (.istore_n 2, 1) := by decide +kernel
theorem dX14_threaded_2 : decode cX14_threaded 2 = .ok (.iconst 0, 1) := by decide +kernel
theorem dX14_threaded_3 : decode cX14_threaded 3 = .ok (.istore_n 3, 1) := by decide +kernel
theorem dX14_threaded_4 : decode cX14_threaded 4 = .ok (.iload_n 3, 1) := by decide +kernel
theorem dX14_threaded_5 : decode cX14_threaded 5 = .ok (.aload_n 0, 1) := by decide +kernel
theorem dX14_threaded_6 : decode cX14_threaded 6 = .ok (.iload_n 1, 1) := by decide +kernel
theorem dX14_threaded_7 : decode cX14_threaded 7 = .ok (.invokevirtual 1139, 3) := by decide +kernel
theorem dX14_threaded_10 : decode cX14_threaded 10 = .ok (.if_icmp .ge 60, 3) := by decide +kernel
theorem dX14_threaded_13 : decode cX14_threaded 13 = .ok (.aload_n 0, 1) := by decide +kernel
theorem dX14_threaded_14 : decode cX14_threaded 14 = .ok (.iload_n 1, 1) := by decide +kernel
theorem dX14_threaded_15 : decode cX14_threaded 15 = .ok (.iload_n 3, 1) := by decide +kernel
theorem dX14_threaded_16 : decode cX14_threaded 16 = .ok (.invokevirtual 1142, 3) := by decide +kernel
theorem dX14_threaded_19 : decode cX14_threaded 19 = .ok (.istore 4, 2) := by decide +kernel
theorem dX14_threaded_21 : decode cX14_threaded 21 = .ok (.aload_n 0, 1) := by decide +kernel
theorem dX14_threaded_22 : decode cX14_threaded 22 = .ok (.iload 4, 2) := by decide +kernel
theorem dX14_threaded_24 : decode cX14_threaded 24 = .ok (.invokevirtual 1205, 3) := by decide +kernel
theorem dX14_threaded_27 : decode cX14_threaded 27 = .ok (.istore 5, 2) := by decide +kernel
theorem dX14_threaded_29 : decode cX14_threaded 29 = .ok (.iload 5, 2) := by decide +kernel
theorem dX14_threaded_31 : decode cX14_threaded 31 = .ok (.ifCond .lt 33, 3) := by decide +kernel
theorem dX14_threaded_34 : decode cX14_threaded 34 = .ok (.iload 5, 2) := by decide +kernel
theorem dX14_threaded_36 : decode cX14_threaded 36 = .ok (.iload 4, 2) := by decide +kernel
theorem dX14_threaded_38 : decode cX14_threaded 38 = .ok (.if_icmp .ne 6, 3) := by decide +kernel
theorem dX14_threaded_41 : decode cX14_threaded 41 = .ok (.goto 23, 3) := by decide +kernel
theorem dX14_threaded_44 : decode cX14_threaded 44 = .ok (.aload_n 0, 1) := by decide +kernel
theorem dX14_threaded_45 : decode cX14_threaded 45 = .ok (.iload_n 1, 1) := by decide +kernel
theorem dX14_threaded_46 : decode cX14_threaded 46 = .ok (.iload_n 3, 1) := by decide +kernel
theorem dX14_threaded_47 : decode cX14_threaded 47 = .ok (.iload 5, 2) := by decide +kernel
theorem dX14_threaded_49 : decode cX14_threaded 49 = .ok (.invokevirtual 1208, 3) := by decide +kernel
theorem dX14_threaded_52 : decode cX14_threaded 52 = .ok (.aload_n 0, 1) := by decide +kernel
theorem dX14_threaded_53 : decode cX14_threaded 53 = .ok (.getfield 237, 3) := by decide +kernel
theorem dX14_threaded_56 : decode cX14_threaded 56 = .ok (.iconst 2, 1) := by decide +kernel
theorem dX14_threaded_57 : decode cX14_threaded 57 = .ok (.dup2, 1) := by decide +kernel
theorem dX14_threaded_58 : decode cX14_threaded 58 = .ok (.iaload, 1) := by decide +kernel
theorem dX14_threaded_59 : decode cX14_threaded 59 = .ok (.iconst 1, 1) := by decide +kernel
theorem dX14_threaded_60 : decode cX14_threaded 60 = .ok (.iadd, 1) := by decide +kernel
theorem dX14_threaded_61 : decode cX14_threaded 61 = .ok (.iastore, 1) := by decide +kernel
theorem dX14_threaded_62 : decode cX14_threaded 62 = .ok (.iconst 1, 1) := by decide +kernel
theorem dX14_threaded_63 : decode cX14_threaded 63 = .ok (.istore_n 2, 1) := by decide +kernel
theorem dX14_threaded_64 : decode cX14_threaded 64 = .ok (.iinc 3 1, 3) := by decide +kernel
theorem dX14_threaded_67 : decode cX14_threaded 67 = .ok (.goto (-63), 3) := by decide +kernel
theorem dX14_threaded_70 : decode cX14_threaded 70 = .ok (.iload_n 2, 1) := by decide +kernel
theorem dX14_threaded_71 : decode cX14_threaded 71 = .ok (.ireturn, 1) := by decide +kernel
theorem dX14_throwError_0 : decode cX14_throwError 0 = .ok (.aload_n 0, 1) := by decide +kernel
theorem dX14_throwError_1 : decode cX14_throwError 1 = .ok (.getfield 974, 3) := by decide +kernel
theorem dX14_throwError_4 : decode cX14_throwError 4 = .ok (.ifCond .le 126, 3) := by decide +kernel
theorem dX14_throwError_7 : decode cX14_throwError 7 = .ok (.aload_n 0, 1) := by decide +kernel
theorem dX14_throwError_8 : decode cX14_throwError 8 = .ok (.aload_n 0, 1) := by decide +kernel
theorem dX14_throwError_9 : decode cX14_throwError 9 = .ok (.getfield 961, 3) := by decide +kernel
theorem dX14_throwError_12 : decode cX14_throwError 12 = .ok (.aload_n 0, 1) := by decide +kernel
theorem dX14_throwError_13 : decode cX14_throwError 13 = .ok (.getfield 161, 3) := by decide +kernel
theorem dX14_throwError_16 : decode cX14_throwError 16 = .ok (.aload_n 0, 1) := by decide +kernel
theorem dX14_throwError_17 : decode cX14_throwError 17 = .ok (.getfield 974, 3) := by decide +kernel
theorem dX14_throwError_20 : decode cX14_throwError 20 = .ok (.iconst 1, 1) := by decide +kernel
theorem dX14_throwError_21 : decode cX14_throwError 21 = .ok (.isub, 1) := by decide +kernel
theorem dX14_throwError_22 : decode cX14_throwError 22 = .ok (.iaload, 1) := by decide +kernel
theorem dX14_throwError_23 : decode cX14_throwError 23 = .ok (.invokevirtual 834, 3) := by decide +kernel
theorem dX14_throwError_26 : decode cX14_throwError 26 = .ok (.aload_n 0, 1) := by decide +kernel
theorem dX14_throwError_27 : decode cX14_throwError 27 = .ok (.getfield 164, 3) := by decide +kernel
theorem dX14_throwError_30 : decode cX14_throwError 30 = .ok (.aload_n 0, 1) := by decide +kernel
theorem dX14_throwError_31 : decode cX14_throwError 31 = .ok (.getfield 974, 3) := by decide +kernel
theorem dX14_throwError_34 : decode cX14_throwError 34 = .ok (.iconst 1, 1) := by decide +kernel
theorem dX14_throwError_35 : decode cX14_throwError 35 = .ok (.isub, 1) := by decide +kernel
theorem dX14_throwError_36 : decode cX14_throwError 36 = .ok (.iaload, 1) := by decide +kernel
theorem dX14_throwError_37 : decode cX14_throwError 37 = .ok (.istore_n 2, 1) := by decide +kernel
theorem dX14_throwError_38 : decode cX14_throwError 38 = .ok (.iconst 0, 1) := by decide +kernel
theorem dX14_throwError_39 : decode cX14_throwError 39 = .ok (.istore_n 3, 1) := by decide +kernel
theorem dX14_throwError_40 : decode cX14_throwError 40 = .ok (.iload_n 3, 1) := by decide +kernel
theorem dX14_throwError_41 : decode cX14_throwError 41 = .ok (.aload_n 0, 1) := by decide +kernel
theorem dX14_throwError_42 : decode cX14_throwError 42 = .ok (.getfield 679, 3) := by decide +kernel
theorem dX14_throwError_45 : decode cX14_throwError 45 = .ok (.if_icmp .ge 72, 3) := by decide +kernel
theorem dX14_throwError_48 : decode cX14_throwError 48 = .ok (.aload_n 0, 1) := by decide +kernel
theorem dX14_throwError_49 : decode cX14_throwError 49 = .ok (.iload_n 2, 1) := by decide +kernel
theorem dX14_throwError_50 : decode cX14_throwError 50 = .ok (.iload_n 3, 1) := by decide +kernel
theorem dX14_throwError_51 : decode cX14_throwError 51 = .ok (.invokevirtual 744, 3) := by decide +kernel
theorem dX14_throwError_54 : decode cX14_throwError 54 = .ok (.ifCond .eq 57, 3) := by decide +kernel
theorem dX14_throwError_57 : decode cX14_throwError 57 = .ok (.aload_n 0, 1) := by decide +kernel
theorem dX14_throwError_58 : decode cX14_throwError 58 = .ok (.iload_n 3, 1) := by decide +kernel
theorem dX14_throwError_59 : decode cX14_throwError 59 = .ok (.iconst 3, 1) := by decide +kernel
theorem dX14_throwError_60 : decode cX14_throwError 60 = .ok (.invokevirtual 682, 3) := by decide +kernel
theorem dX14_throwError_63 : decode cX14_throwError 63 = .ok (.ifCond .lt 16, 3) := by decide +kernel
theorem dX14_throwError_66 : decode cX14_throwError 66 = .ok (.aload_n 0, 1) := by decide +kernel
theorem dX14_throwError_67 : decode cX14_throwError 67 = .ok (.iload_n 3, 1) := by decide +kernel
theorem dX14_throwError_68 : decode cX14_throwError 68 = .ok (.iconst 3, 1) := by decide +kernel
theorem dX14_throwError_69 : decode cX14_throwError 69 = .ok (.invokevirtual 682, 3) := by decide +kernel
theorem dX14_throwError_72 : decode cX14_throwError 72 = .ok (.iload_n 1, 1) := by decide +kernel
theorem dX14_throwError_73 : decode cX14_throwError 73 = .ok (.if_icmp .eq 6, 3) := by decide +kernel
theorem dX14_throwError_76 : decode cX14_throwError 76 = .ok (.goto 35, 3) := by decide +kernel
theorem dX14_throwError_79 : decode cX14_throwError 79 = .ok (.aload_n 0, 1) := by decide +kernel
theorem dX14_throwError_80 : decode cX14_throwError 80 = .ok (.getfield 167, 3) := by decide +kernel
theorem dX14_throwError_83 : decode cX14_throwError 83 = .ok (.aload_n 0, 1) := by decide +kernel
theorem dX14_throwError_84 : decode cX14_throwError 84 = .ok (.getfield 974, 3) := by decide +kernel
theorem dX14_throwError_87 : decode cX14_throwError 87 = .ok (.iconst 1, 1) := by decide +kernel
theorem dX14_throwError_88 : decode cX14_throwError 88 = .ok (.isub, 1) := by decide +kernel
theorem dX14_throwError_89 : decode cX14_throwError 89 = .ok (.iconst 0, 1) := by decide +kernel
theorem dX14_throwError_90 : decode cX14_throwError 90 = .ok (.iastore, 1) := by decide +kernel
theorem dX14_throwError_91 : decode cX14_throwError 91 = .ok (.aload_n 0, 1) := by decide +kernel
theorem dX14_throwError_92 : decode cX14_throwError 92 = .ok (.iconst (-1), 1) := by decide +kernel
theorem dX14_throwError_93 : decode cX14_throwError 93 = .ok (.iload_n 1, 1) := by decide +kernel
theorem dX14_throwError_94 : decode cX14_throwError 94 = .ok (.isub, 1) := by decide +kernel
theorem dX14_throwError_95 : decode cX14_throwError 95 = .ok (.i2l, 1) := by decide +kernel
theorem dX14_throwError_96 : decode cX14_throwError 96 = .ok (.iconst 1, 1) := by decide +kernel
theorem dX14_throwError_97 : decode cX14_throwError 97 = .ok (.invokevirtual 1003, 3) := by decide +kernel
theorem dX14_throwError_100 : decode cX14_throwError 100 = .ok (.aload_n 0, 1) := by decide +kernel
theorem dX14_throwError_101 : decode cX14_throwError 101 = .ok (.aload_n 0, 1) := by decide +kernel
theorem dX14_throwError_102 : decode cX14_throwError 102 = .ok (.iload_n 3, 1) := by decide +kernel
theorem dX14_throwError_103 : decode cX14_throwError 103 = .ok (.iconst 2, 1) := by decide +kernel
theorem dX14_throwError_104 : decode cX14_throwError 104 = .ok (.invokevirtual 682, 3) := by decide +kernel
theorem dX14_throwError_107 : decode cX14_throwError 107 = .ok (.invokevirtual 1006, 3) := by decide +kernel
theorem dX14_throwError_110 : decode cX14_throwError 110 = .ok (.return_, 1) := by decide +kernel
theorem dX14_throwError_111 : decode cX14_throwError 111 = .ok (.iinc 3 1, 3) := by decide +kernel
theorem dX14_throwError_114 : decode cX14_throwError 114 = .ok (.goto (-74), 3) := by decide +kernel
theorem dX14_throwError_117 : decode cX14_throwError 117 = .ok (.aload_n 0, 1) := by decide +kernel
theorem dX14_throwError_118 : decode cX14_throwError 118 = .ok (.dup, 1) := by decide +kernel
theorem dX14_throwError_119 : decode cX14_throwError 119 = .ok (.getfield 974, 3) := by decide +kernel
theorem dX14_throwError_122 : decode cX14_throwError 122 = .ok (.iconst 1, 1) := by decide +kernel
theorem dX14_throwError_123 : decode cX14_throwError 123 = .ok (.isub, 1) := by decide +kernel
theorem dX14_throwError_124 : decode cX14_throwError 124 = .ok (.putfield 974, 3) := by decide +kernel
theorem dX14_throwError_127 : decode cX14_throwError 127 = .ok (.goto (-127), 3) := by decide +kernel
theorem dX14_throwError_130 : decode cX14_throwError 130 = .ok (.aload_n 0, 1) := by decide +kernel
theorem dX14_throwError_131 : decode cX14_throwError 131 = .ok (.iconst 1, 1) := by decide +kernel
theorem dX14_throwError_132 : decode cX14_throwError 132 = .ok (.putfield 977, 3) := by decide +kernel
theorem dX14_throwError_135 : decode cX14_throwError 135 = .ok (.aload_n 0, 1) := by decide +kernel
theorem dX14_throwError_136 : decode cX14_throwError 136 = .ok (.iload_n 1, 1) := by decide +kernel
theorem dX14_throwError_137 : decode cX14_throwError 137 = .ok (.putfield 182, 3) := by decide +kernel
theorem dX14_throwError_140 : decode cX14_throwError 140 = .ok (.return_, 1) := by decide +kernel
theorem dX14_turned_0 : decode cX14_turned 0 = .ok (.iload_n 0, 1) := by decide +kernel
theorem dX14_turned_1 : decode cX14_turned 1 = .ok (.sipush 133, 3) := by decide +kernel
theorem dX14_turned_4 : decode cX14_turned 4 = .ok (.if_icmp .ne 9, 3) := by decide +kernel
theorem dX14_turned_7 : decode cX14_turned 7 = .ok (.lload_n 1, 1) := by decide +kernel
theorem dX14_turned_8 : decode cX14_turned 8 = .ok (.l2i, 1) := by decide +kernel
theorem dX14_turned_9 : decode cX14_turned 9 = .ok (.i2l, 1) := by decide +kernel
theorem dX14_turned_10 : decode cX14_turned 10 = .ok (.goto 49, 3) := by decide +kernel
theorem dX14_turned_13 : decode cX14_turned 13 = .ok (.iload_n 0, 1) := by decide +kernel
theorem dX14_turned_14 : decode cX14_turned 14 = .ok (.sipush 136, 3) := by decide +kernel
theorem dX14_turned_17 : decode cX14_turned 17 = .ok (.if_icmp .ne 9, 3) := by decide +kernel
theorem dX14_turned_20 : decode cX14_turned 20 = .ok (.lload_n 1, 1) := by decide +kernel
theorem dX14_turned_21 : decode cX14_turned 21 = .ok (.l2i, 1) := by decide +kernel
theorem dX14_turned_22 : decode cX14_turned 22 = .ok (.i2l, 1) := by decide +kernel
theorem dX14_turned_23 : decode cX14_turned 23 = .ok (.goto 36, 3) := by decide +kernel
theorem dX14_turned_26 : decode cX14_turned 26 = .ok (.iload_n 0, 1) := by decide +kernel
theorem dX14_turned_27 : decode cX14_turned 27 = .ok (.sipush 145, 3) := by decide +kernel
theorem dX14_turned_30 : decode cX14_turned 30 = .ok (.if_icmp .ne 10, 3) := by decide +kernel
theorem dX14_turned_33 : decode cX14_turned 33 = .ok (.lload_n 1, 1) := by decide +kernel
theorem dX14_turned_34 : decode cX14_turned 34 = .ok (.l2i, 1) := by decide +kernel
theorem dX14_turned_35 : decode cX14_turned 35 = .ok (.i2b, 1) := by decide +kernel
theorem dX14_turned_36 : decode cX14_turned 36 = .ok (.i2l, 1) := by decide +kernel
theorem dX14_turned_37 : decode cX14_turned 37 = .ok (.goto 22, 3) := by decide +kernel
theorem dX14_turned_40 : decode cX14_turned 40 = .ok (.iload_n 0, 1) := by decide +kernel
theorem dX14_turned_41 : decode cX14_turned 41 = .ok (.sipush 146, 3) := by decide +kernel
theorem dX14_turned_44 : decode cX14_turned 44 = .ok (.if_icmp .ne 11, 3) := by decide +kernel
theorem dX14_turned_47 : decode cX14_turned 47 = .ok (.lload_n 1, 1) := by decide +kernel
theorem dX14_turned_48 : decode cX14_turned 48 = .ok (.ldc2_w 1071, 3) := by decide +kernel
theorem dX14_turned_51 : decode cX14_turned 51 = .ok (.land, 1) := by decide +kernel
theorem dX14_turned_52 : decode cX14_turned 52 = .ok (.goto 7, 3) := by decide +kernel
theorem dX14_turned_55 : decode cX14_turned 55 = .ok (.lload_n 1, 1) := by decide +kernel
theorem dX14_turned_56 : decode cX14_turned 56 = .ok (.l2i, 1) := by decide +kernel
theorem dX14_turned_57 : decode cX14_turned 57 = .ok (.i2s, 1) := by decide +kernel
theorem dX14_turned_58 : decode cX14_turned 58 = .ok (.i2l, 1) := by decide +kernel
theorem dX14_turned_59 : decode cX14_turned 59 = .ok (.lreturn, 1) := by decide +kernel
theorem dX14_turnedRow_0 : decode cX14_turnedRow 0 = .ok (.aload_n 0, 1) := by decide +kernel
theorem dX14_turnedRow_1 : decode cX14_turnedRow 1 = .ok (.getfield 240, 3) := by decide +kernel
theorem dX14_turnedRow_4 : decode cX14_turnedRow 4 = .ok (.iload_n 2, 1) := by decide +kernel
theorem dX14_turnedRow_5 : decode cX14_turnedRow 5 = .ok (.iaload, 1) := by decide +kernel
theorem dX14_turnedRow_6 : decode cX14_turnedRow 6 = .ok (.istore_n 3, 1) := by decide +kernel
theorem dX14_turnedRow_7 : decode cX14_turnedRow 7 = .ok (.aload_n 0, 1) := by decide +kernel
theorem dX14_turnedRow_8 : decode cX14_turnedRow 8 = .ok (.getfield 240, 3) := by decide +kernel
theorem dX14_turnedRow_11 : decode cX14_turnedRow 11 = .ok (.iload_n 1, 1) := by decide +kernel
theorem dX14_turnedRow_12 : decode cX14_turnedRow 12 = .ok (.iaload, 1) := by decide +kernel
theorem dX14_turnedRow_13 : decode cX14_turnedRow 13 = .ok (.bipush 18, 2) := by decide +kernel
theorem dX14_turnedRow_15 : decode cX14_turnedRow 15 = .ok (.if_icmp .ne 27, 3) := by decide +kernel
theorem dX14_turnedRow_18 : decode cX14_turnedRow 18 = .ok (.iload_n 3, 1) := by decide +kernel
theorem dX14_turnedRow_19 : decode cX14_turnedRow 19 = .ok (.bipush 116, 2) := by decide +kernel
theorem dX14_turnedRow_21 : decode cX14_turnedRow 21 = .ok (.if_icmp .ne 21, 3) := by decide +kernel
theorem dX14_turnedRow_24 : decode cX14_turnedRow 24 = .ok (.aload_n 0, 1) := by decide +kernel

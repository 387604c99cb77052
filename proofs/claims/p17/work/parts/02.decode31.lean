theorem dX2_catchesHold_66 : decode cX2_catchesHold 66 = .ok (.bipush 14, 2) := by decide +kernel
theorem dX2_catchesHold_68 : decode cX2_catchesHold 68 = .ok (.iload_n 2, 1) := by decide +kernel
theorem dX2_catchesHold_69 : decode cX2_catchesHold 69 = .ok (.invokevirtual 86, 3) := by decide +kernel
theorem dX2_catchesHold_72 : decode cX2_catchesHold 72 = .ok (.ireturn, 1) := by decide +kernel
theorem dX2_catchesHold_73 : decode cX2_catchesHold 73 = .ok (.aload_n 0, 1) := by decide +kernel
theorem dX2_catchesHold_74 : decode cX2_catchesHold 74 = .ok (.getfield 12, 3) := by decide +kernel
theorem dX2_catchesHold_77 : decode cX2_catchesHold 77 = .ok (.iload 4, 2) := by decide +kernel
theorem dX2_catchesHold_79 : decode cX2_catchesHold 79 = .ok (.invokevirtual 90, 3) := by decide +kernel
theorem dX2_catchesHold_82 : decode cX2_catchesHold 82 = .ok (.istore 5, 2) := by decide +kernel
theorem dX2_catchesHold_84 : decode cX2_catchesHold 84 = .ok (.iinc 4 2, 3) := by decide +kernel
theorem dX2_catchesHold_87 : decode cX2_catchesHold 87 = .ok (.iconst 0, 1) := by decide +kernel
theorem dX2_catchesHold_88 : decode cX2_catchesHold 88 = .ok (.istore 6, 2) := by decide +kernel
theorem dX2_catchesHold_90 : decode cX2_catchesHold 90 = .ok (.iload 6, 2) := by decide +kernel
theorem dX2_catchesHold_92 : decode cX2_catchesHold 92 = .ok (.iload 5, 2) := by decide +kernel
theorem dX2_catchesHold_94 : decode cX2_catchesHold 94 = .ok (.if_icmp .ge 71, 3) := by decide +kernel
theorem dX2_catchesHold_97 : decode cX2_catchesHold 97 = .ok (.iload 4, 2) := by decide +kernel
theorem dX2_catchesHold_99 : decode cX2_catchesHold 99 = .ok (.bipush 6, 2) := by decide +kernel
theorem dX2_catchesHold_101 : decode cX2_catchesHold 101 = .ok (.iadd, 1) := by decide +kernel
theorem dX2_catchesHold_102 : decode cX2_catchesHold 102 = .ok (.iload_n 2, 1) := by decide +kernel
theorem dX2_catchesHold_103 : decode cX2_catchesHold 103 = .ok (.if_icmp .gt 26, 3) := by decide +kernel
theorem dX2_catchesHold_106 : decode cX2_catchesHold 106 = .ok (.aload_n 0, 1) := by decide +kernel
theorem dX2_catchesHold_107 : decode cX2_catchesHold 107 = .ok (.getfield 12, 3) := by decide +kernel
theorem dX2_catchesHold_110 : decode cX2_catchesHold 110 = .ok (.iload 4, 2) := by decide +kernel
theorem dX2_catchesHold_112 : decode cX2_catchesHold 112 = .ok (.iconst 2, 1) := by decide +kernel
theorem dX2_catchesHold_113 : decode cX2_catchesHold 113 = .ok (.iadd, 1) := by decide +kernel
theorem dX2_catchesHold_114 : decode cX2_catchesHold 114 = .ok (.invokevirtual 93, 3) := by decide +kernel
theorem dX2_catchesHold_117 : decode cX2_catchesHold 117 = .ok (.iload_n 2, 1) := by decide +kernel
theorem dX2_catchesHold_118 : decode cX2_catchesHold 118 = .ok (.iload 4, 2) := by decide +kernel
theorem dX2_catchesHold_120 : decode cX2_catchesHold 120 = .ok (.isub, 1) := by decide +kernel
theorem dX2_catchesHold_121 : decode cX2_catchesHold 121 = .ok (.bipush 6, 2) := by decide +kernel
theorem dX2_catchesHold_123 : decode cX2_catchesHold 123 = .ok (.isub, 1) := by decide +kernel
theorem dX2_catchesHold_124 : decode cX2_catchesHold 124 = .ok (.i2l, 1) := by decide +kernel
theorem dX2_catchesHold_125 : decode cX2_catchesHold 125 = .ok (.lcmp, 1) := by decide +kernel
theorem dX2_catchesHold_126 : decode cX2_catchesHold 126 = .ok (.ifCond .le 14, 3) := by decide +kernel
theorem dX2_catchesHold_129 : decode cX2_catchesHold 129 = .ok (.aload_n 0, 1) := by decide +kernel
theorem dX2_catchesHold_130 : decode cX2_catchesHold 130 = .ok (.getfield 12, 3) := by decide +kernel
theorem dX2_catchesHold_133 : decode cX2_catchesHold 133 = .ok (.bipush 14, 2) := by decide +kernel
theorem dX2_catchesHold_135 : decode cX2_catchesHold 135 = .ok (.iload_n 2, 1) := by decide +kernel
theorem dX2_catchesHold_136 : decode cX2_catchesHold 136 = .ok (.invokevirtual 86, 3) := by decide +kernel
theorem dX2_catchesHold_139 : decode cX2_catchesHold 139 = .ok (.ireturn, 1) := by decide +kernel
theorem dX2_catchesHold_140 : decode cX2_catchesHold 140 = .ok (.iload 4, 2) := by decide +kernel
theorem dX2_catchesHold_142 : decode cX2_catchesHold 142 = .ok (.bipush 6, 2) := by decide +kernel
theorem dX2_catchesHold_144 : decode cX2_catchesHold 144 = .ok (.aload_n 0, 1) := by decide +kernel
theorem dX2_catchesHold_145 : decode cX2_catchesHold 145 = .ok (.getfield 12, 3) := by decide +kernel
theorem dX2_catchesHold_148 : decode cX2_catchesHold 148 = .ok (.iload 4, 2) := by decide +kernel
theorem dX2_catchesHold_150 : decode cX2_catchesHold 150 = .ok (.iconst 2, 1) := by decide +kernel
theorem dX2_catchesHold_151 : decode cX2_catchesHold 151 = .ok (.iadd, 1) := by decide +kernel
theorem dX2_catchesHold_152 : decode cX2_catchesHold 152 = .ok (.invokevirtual 102, 3) := by decide +kernel
theorem dX2_catchesHold_155 : decode cX2_catchesHold 155 = .ok (.iadd, 1) := by decide +kernel
theorem dX2_catchesHold_156 : decode cX2_catchesHold 156 = .ok (.iadd, 1) := by decide +kernel
theorem dX2_catchesHold_157 : decode cX2_catchesHold 157 = .ok (.istore 4, 2) := by decide +kernel
theorem dX2_catchesHold_159 : decode cX2_catchesHold 159 = .ok (.iinc 6 1, 3) := by decide +kernel
theorem dX2_catchesHold_162 : decode cX2_catchesHold 162 = .ok (.goto (-72), 3) := by decide +kernel
theorem dX2_catchesHold_165 : decode cX2_catchesHold 165 = .ok (.iload 4, 2) := by decide +kernel
theorem dX2_catchesHold_167 : decode cX2_catchesHold 167 = .ok (.iload_n 2, 1) := by decide +kernel
theorem dX2_catchesHold_168 : decode cX2_catchesHold 168 = .ok (.if_icmp .eq 17, 3) := by decide +kernel
theorem dX2_catchesHold_171 : decode cX2_catchesHold 171 = .ok (.aload_n 0, 1) := by decide +kernel
theorem dX2_catchesHold_172 : decode cX2_catchesHold 172 = .ok (.getfield 12, 3) := by decide +kernel
theorem dX2_catchesHold_175 : decode cX2_catchesHold 175 = .ok (.bipush 14, 2) := by decide +kernel
theorem dX2_catchesHold_177 : decode cX2_catchesHold 177 = .ok (.iload 4, 2) := by decide +kernel
theorem dX2_catchesHold_179 : decode cX2_catchesHold 179 = .ok (.invokevirtual 86, 3) := by decide +kernel
theorem dX2_catchesHold_182 : decode cX2_catchesHold 182 = .ok (.ifCond .eq 7, 3) := by decide +kernel
theorem dX2_catchesHold_185 : decode cX2_catchesHold 185 = .ok (.iconst 1, 1) := by decide +kernel
theorem dX2_catchesHold_186 : decode cX2_catchesHold 186 = .ok (.goto 4, 3) := by decide +kernel
theorem dX2_catchesHold_189 : decode cX2_catchesHold 189 = .ok (.iconst 0, 1) := by decide +kernel
theorem dX2_catchesHold_190 : decode cX2_catchesHold 190 = .ok (.ireturn, 1) := by decide +kernel
theorem dX2_decode_0 : decode cX2_decode 0 = .ok (.aload_n 0, 1) := by decide +kernel
theorem dX2_decode_1 : decode cX2_decode 1 = .ok (.iload_n 1, 1) := by decide +kernel
theorem dX2_decode_2 : decode cX2_decode 2 = .ok (.invokevirtual 139, 3) := by decide +kernel
theorem dX2_decode_5 : decode cX2_decode 5 = .ok (.istore_n 2, 1) := by decide +kernel
theorem dX2_decode_6 : decode cX2_decode 6 = .ok (.aload_n 0, 1) := by decide +kernel
theorem dX2_decode_7 : decode cX2_decode 7 = .ok (.iload_n 1, 1) := by decide +kernel
theorem dX2_decode_8 : decode cX2_decode 8 = .ok (.putfield 166, 3) := by decide +kernel
theorem dX2_decode_11 : decode cX2_decode 11 = .ok (.aload_n 0, 1) := by decide +kernel
theorem dX2_decode_12 : decode cX2_decode 12 = .ok (.iload_n 2, 1) := by decide +kernel
theorem dX2_decode_13 : decode cX2_decode 13 = .ok (.putfield 169, 3) := by decide +kernel
theorem dX2_decode_16 : decode cX2_decode 16 = .ok (.aload_n 0, 1) := by decide +kernel
theorem dX2_decode_17 : decode cX2_decode 17 = .ok (.lconst 0, 1) := by decide +kernel
theorem dX2_decode_18 : decode cX2_decode 18 = .ok (.putfield 172, 3) := by decide +kernel
theorem dX2_decode_21 : decode cX2_decode 21 = .ok (.iload_n 2, 1) := by decide +kernel
theorem dX2_decode_22 : decode cX2_decode 22 = .ok (.iconst 2, 1) := by decide +kernel
theorem dX2_decode_23 : decode cX2_decode 23 = .ok (.if_icmp .lt 22, 3) := by decide +kernel
theorem dX2_decode_26 : decode cX2_decode 26 = .ok (.iload_n 2, 1) := by decide +kernel
theorem dX2_decode_27 : decode cX2_decode 27 = .ok (.bipush 8, 2) := by decide +kernel
theorem dX2_decode_29 : decode cX2_decode 29 = .ok (.if_icmp .gt 16, 3) := by decide +kernel
theorem dX2_decode_32 : decode cX2_decode 32 = .ok (.aload_n 0, 1) := by decide +kernel
theorem dX2_decode_33 : decode cX2_decode 33 = .ok (.bipush 17, 2) := by decide +kernel
theorem dX2_decode_35 : decode cX2_decode 35 = .ok (.iload_n 2, 1) := by decide +kernel
theorem dX2_decode_36 : decode cX2_decode 36 = .ok (.iconst 3, 1) := by decide +kernel
theorem dX2_decode_37 : decode cX2_decode 37 = .ok (.isub, 1) := by decide +kernel
theorem dX2_decode_38 : decode cX2_decode 38 = .ok (.i2l, 1) := by decide +kernel
theorem dX2_decode_39 : decode cX2_decode 39 = .ok (.invokevirtual 176, 3) := by decide +kernel
theorem dX2_decode_42 : decode cX2_decode 42 = .ok (.goto 210, 3) := by decide +kernel
theorem dX2_decode_45 : decode cX2_decode 45 = .ok (.iload_n 2, 1) := by decide +kernel
theorem dX2_decode_46 : decode cX2_decode 46 = .ok (.bipush 9, 2) := by decide +kernel
theorem dX2_decode_48 : decode cX2_decode 48 = .ok (.if_icmp .eq 9, 3) := by decide +kernel
theorem dX2_decode_51 : decode cX2_decode 51 = .ok (.iload_n 2, 1) := by decide +kernel
theorem dX2_decode_52 : decode cX2_decode 52 = .ok (.bipush 10, 2) := by decide +kernel
theorem dX2_decode_54 : decode cX2_decode 54 = .ok (.if_icmp .ne 17, 3) := by decide +kernel
theorem dX2_decode_57 : decode cX2_decode 57 = .ok (.aload_n 0, 1) := by decide +kernel
theorem dX2_decode_58 : decode cX2_decode 58 = .ok (.bipush 9, 2) := by decide +kernel
theorem dX2_decode_60 : decode cX2_decode 60 = .ok (.iload_n 2, 1) := by decide +kernel
theorem dX2_decode_61 : decode cX2_decode 61 = .ok (.bipush 9, 2) := by decide +kernel
theorem dX2_decode_63 : decode cX2_decode 63 = .ok (.isub, 1) := by decide +kernel
theorem dX2_decode_64 : decode cX2_decode 64 = .ok (.i2l, 1) := by decide +kernel
theorem dX2_decode_65 : decode cX2_decode 65 = .ok (.invokevirtual 176, 3) := by decide +kernel
theorem dX2_decode_68 : decode cX2_decode 68 = .ok (.goto 184, 3) := by decide +kernel
theorem dX2_decode_71 : decode cX2_decode 71 = .ok (.iload_n 2, 1) := by decide +kernel
theorem dX2_decode_72 : decode cX2_decode 72 = .ok (.bipush 16, 2) := by decide +kernel
theorem dX2_decode_74 : decode cX2_decode 74 = .ok (.if_icmp .ne 21, 3) := by decide +kernel
theorem dX2_decode_77 : decode cX2_decode 77 = .ok (.aload_n 0, 1) := by decide +kernel
theorem dX2_decode_78 : decode cX2_decode 78 = .ok (.bipush 17, 2) := by decide +kernel
theorem dX2_decode_80 : decode cX2_decode 80 = .ok (.aload_n 0, 1) := by decide +kernel
theorem dX2_decode_81 : decode cX2_decode 81 = .ok (.iload_n 1, 1) := by decide +kernel
theorem dX2_decode_82 : decode cX2_decode 82 = .ok (.iconst 1, 1) := by decide +kernel
theorem dX2_decode_83 : decode cX2_decode 83 = .ok (.iadd, 1) := by decide +kernel
theorem dX2_decode_84 : decode cX2_decode 84 = .ok (.invokevirtual 139, 3) := by decide +kernel
theorem dX2_decode_87 : decode cX2_decode 87 = .ok (.i2b, 1) := by decide +kernel
theorem dX2_decode_88 : decode cX2_decode 88 = .ok (.i2l, 1) := by decide +kernel
theorem dX2_decode_89 : decode cX2_decode 89 = .ok (.invokevirtual 176, 3) := by decide +kernel
theorem dX2_decode_92 : decode cX2_decode 92 = .ok (.goto 160, 3) := by decide +kernel
theorem dX2_decode_95 : decode cX2_decode 95 = .ok (.iload_n 2, 1) := by decide +kernel
theorem dX2_decode_96 : decode cX2_decode 96 = .ok (.bipush 17, 2) := by decide +kernel
theorem dX2_decode_98 : decode cX2_decode 98 = .ok (.if_icmp .ne 21, 3) := by decide +kernel
theorem dX2_decode_101 : decode cX2_decode 101 = .ok (.aload_n 0, 1) := by decide +kernel
theorem dX2_decode_102 : decode cX2_decode 102 = .ok (.bipush 17, 2) := by decide +kernel
theorem dX2_decode_104 : decode cX2_decode 104 = .ok (.aload_n 0, 1) := by decide +kernel
theorem dX2_decode_105 : decode cX2_decode 105 = .ok (.iload_n 1, 1) := by decide +kernel
theorem dX2_decode_106 : decode cX2_decode 106 = .ok (.iconst 1, 1) := by decide +kernel
theorem dX2_decode_107 : decode cX2_decode 107 = .ok (.iadd, 1) := by decide +kernel
theorem dX2_decode_108 : decode cX2_decode 108 = .ok (.invokevirtual 180, 3) := by decide +kernel
theorem dX2_decode_111 : decode cX2_decode 111 = .ok (.i2s, 1) := by decide +kernel
theorem dX2_decode_112 : decode cX2_decode 112 = .ok (.i2l, 1) := by decide +kernel
theorem dX2_decode_113 : decode cX2_decode 113 = .ok (.invokevirtual 176, 3) := by decide +kernel
theorem dX2_decode_116 : decode cX2_decode 116 = .ok (.goto 136, 3) := by decide +kernel
theorem dX2_decode_119 : decode cX2_decode 119 = .ok (.iload_n 2, 1) := by decide +kernel
theorem dX2_decode_120 : decode cX2_decode 120 = .ok (.bipush 18, 2) := by decide +kernel
theorem dX2_decode_122 : decode cX2_decode 122 = .ok (.if_icmp .ne 20, 3) := by decide +kernel
theorem dX2_decode_125 : decode cX2_decode 125 = .ok (.aload_n 0, 1) := by decide +kernel
theorem dX2_decode_126 : decode cX2_decode 126 = .ok (.bipush 19, 2) := by decide +kernel
theorem dX2_decode_128 : decode cX2_decode 128 = .ok (.aload_n 0, 1) := by decide +kernel
theorem dX2_decode_129 : decode cX2_decode 129 = .ok (.iload_n 1, 1) := by decide +kernel
theorem dX2_decode_130 : decode cX2_decode 130 = .ok (.iconst 1, 1) := by decide +kernel
theorem dX2_decode_131 : decode cX2_decode 131 = .ok (.iadd, 1) := by decide +kernel
theorem dX2_decode_132 : decode cX2_decode 132 = .ok (.invokevirtual 139, 3) := by decide +kernel
theorem dX2_decode_135 : decode cX2_decode 135 = .ok (.i2l, 1) := by decide +kernel
theorem dX2_decode_136 : decode cX2_decode 136 = .ok (.invokevirtual 176, 3) := by decide +kernel
theorem dX2_decode_139 : decode cX2_decode 139 = .ok (.goto 113, 3) := by decide +kernel
theorem dX2_decode_142 : decode cX2_decode 142 = .ok (.iload_n 2, 1) := by decide +kernel
theorem dX2_decode_143 : decode cX2_decode 143 = .ok (.sipush 200, 3) := by decide +kernel

theorem dX5_makeArray_72 : decode cX5_makeArray 72 = .ok (.invokestatic 307, 3) := by decide +kernel
theorem dX5_makeArray_75 : decode cX5_makeArray 75 = .ok (.putfield 19, 3) := by decide +kernel
theorem dX5_makeArray_78 : decode cX5_makeArray 78 = .ok (.aload_n 0, 1) := by decide +kernel
theorem dX5_makeArray_79 : decode cX5_makeArray 79 = .ok (.getfield 48, 3) := by decide +kernel
theorem dX5_makeArray_82 : decode cX5_makeArray 82 = .ok (.iload_n 1, 1) := by decide +kernel
theorem dX5_makeArray_83 : decode cX5_makeArray 83 = .ok (.iadd, 1) := by decide +kernel
theorem dX5_makeArray_84 : decode cX5_makeArray 84 = .ok (.aload_n 0, 1) := by decide +kernel
theorem dX5_makeArray_85 : decode cX5_makeArray 85 = .ok (.getfield 15, 3) := by decide +kernel
theorem dX5_makeArray_88 : decode cX5_makeArray 88 = .ok (.arraylength, 1) := by decide +kernel
theorem dX5_makeArray_89 : decode cX5_makeArray 89 = .ok (.if_icmp .le 28, 3) := by decide +kernel
theorem dX5_makeArray_92 : decode cX5_makeArray 92 = .ok (.aload_n 0, 1) := by decide +kernel
theorem dX5_makeArray_93 : decode cX5_makeArray 93 = .ok (.aload_n 0, 1) := by decide +kernel
theorem dX5_makeArray_94 : decode cX5_makeArray 94 = .ok (.getfield 15, 3) := by decide +kernel
theorem dX5_makeArray_97 : decode cX5_makeArray 97 = .ok (.sipush 20000, 3) := by decide +kernel
theorem dX5_makeArray_100 : decode cX5_makeArray 100 = .ok (.iconst 2, 1) := by decide +kernel
theorem dX5_makeArray_101 : decode cX5_makeArray 101 = .ok (.aload_n 0, 1) := by decide +kernel
theorem dX5_makeArray_102 : decode cX5_makeArray 102 = .ok (.getfield 48, 3) := by decide +kernel
theorem dX5_makeArray_105 : decode cX5_makeArray 105 = .ok (.iload_n 1, 1) := by decide +kernel
theorem dX5_makeArray_106 : decode cX5_makeArray 106 = .ok (.iadd, 1) := by decide +kernel
theorem dX5_makeArray_107 : decode cX5_makeArray 107 = .ok (.imul, 1) := by decide +kernel
theorem dX5_makeArray_108 : decode cX5_makeArray 108 = .ok (.invokestatic 311, 3) := by decide +kernel
theorem dX5_makeArray_111 : decode cX5_makeArray 111 = .ok (.invokestatic 307, 3) := by decide +kernel
theorem dX5_makeArray_114 : decode cX5_makeArray 114 = .ok (.putfield 15, 3) := by decide +kernel
theorem dX5_makeArray_117 : decode cX5_makeArray 117 = .ok (.aload_n 0, 1) := by decide +kernel
theorem dX5_makeArray_118 : decode cX5_makeArray 118 = .ok (.getfield 19, 3) := by decide +kernel
theorem dX5_makeArray_121 : decode cX5_makeArray 121 = .ok (.aload_n 0, 1) := by decide +kernel
theorem dX5_makeArray_122 : decode cX5_makeArray 122 = .ok (.getfield 51, 3) := by decide +kernel
theorem dX5_makeArray_125 : decode cX5_makeArray 125 = .ok (.aload_n 0, 1) := by decide +kernel
theorem dX5_makeArray_126 : decode cX5_makeArray 126 = .ok (.getfield 48, 3) := by decide +kernel
theorem dX5_makeArray_129 : decode cX5_makeArray 129 = .ok (.iastore, 1) := by decide +kernel
theorem dX5_makeArray_130 : decode cX5_makeArray 130 = .ok (.aload_n 0, 1) := by decide +kernel
theorem dX5_makeArray_131 : decode cX5_makeArray 131 = .ok (.getfield 48, 3) := by decide +kernel
theorem dX5_makeArray_134 : decode cX5_makeArray 134 = .ok (.istore_n 2, 1) := by decide +kernel
theorem dX5_makeArray_135 : decode cX5_makeArray 135 = .ok (.iload_n 2, 1) := by decide +kernel
theorem dX5_makeArray_136 : decode cX5_makeArray 136 = .ok (.aload_n 0, 1) := by decide +kernel
theorem dX5_makeArray_137 : decode cX5_makeArray 137 = .ok (.getfield 48, 3) := by decide +kernel
theorem dX5_makeArray_140 : decode cX5_makeArray 140 = .ok (.iload_n 1, 1) := by decide +kernel
theorem dX5_makeArray_141 : decode cX5_makeArray 141 = .ok (.iadd, 1) := by decide +kernel
theorem dX5_makeArray_142 : decode cX5_makeArray 142 = .ok (.if_icmp .ge 25, 3) := by decide +kernel
theorem dX5_makeArray_145 : decode cX5_makeArray 145 = .ok (.iload_n 2, 1) := by decide +kernel
theorem dX5_makeArray_146 : decode cX5_makeArray 146 = .ok (.aload_n 0, 1) := by decide +kernel
theorem dX5_makeArray_147 : decode cX5_makeArray 147 = .ok (.getfield 15, 3) := by decide +kernel
theorem dX5_makeArray_150 : decode cX5_makeArray 150 = .ok (.arraylength, 1) := by decide +kernel
theorem dX5_makeArray_151 : decode cX5_makeArray 151 = .ok (.if_icmp .ge 16, 3) := by decide +kernel
theorem dX5_makeArray_154 : decode cX5_makeArray 154 = .ok (.aload_n 0, 1) := by decide +kernel
theorem dX5_makeArray_155 : decode cX5_makeArray 155 = .ok (.getfield 15, 3) := by decide +kernel
theorem dX5_makeArray_158 : decode cX5_makeArray 158 = .ok (.iload_n 2, 1) := by decide +kernel
theorem dX5_makeArray_159 : decode cX5_makeArray 159 = .ok (.iconst 0, 1) := by decide +kernel
theorem dX5_makeArray_160 : decode cX5_makeArray 160 = .ok (.iastore, 1) := by decide +kernel
theorem dX5_makeArray_161 : decode cX5_makeArray 161 = .ok (.iinc 2 1, 3) := by decide +kernel
theorem dX5_makeArray_164 : decode cX5_makeArray 164 = .ok (.goto (-29), 3) := by decide +kernel
theorem dX5_makeArray_167 : decode cX5_makeArray 167 = .ok (.aload_n 0, 1) := by decide +kernel
theorem dX5_makeArray_168 : decode cX5_makeArray 168 = .ok (.dup, 1) := by decide +kernel
theorem dX5_makeArray_169 : decode cX5_makeArray 169 = .ok (.getfield 48, 3) := by decide +kernel
theorem dX5_makeArray_172 : decode cX5_makeArray 172 = .ok (.iload_n 1, 1) := by decide +kernel
theorem dX5_makeArray_173 : decode cX5_makeArray 173 = .ok (.iadd, 1) := by decide +kernel
theorem dX5_makeArray_174 : decode cX5_makeArray 174 = .ok (.putfield 48, 3) := by decide +kernel
theorem dX5_makeArray_177 : decode cX5_makeArray 177 = .ok (.aload_n 0, 1) := by decide +kernel
theorem dX5_makeArray_178 : decode cX5_makeArray 178 = .ok (.aload_n 0, 1) := by decide +kernel
theorem dX5_makeArray_179 : decode cX5_makeArray 179 = .ok (.getfield 51, 3) := by decide +kernel
theorem dX5_makeArray_182 : decode cX5_makeArray 182 = .ok (.i2l, 1) := by decide +kernel
theorem dX5_makeArray_183 : decode cX5_makeArray 183 = .ok (.invokevirtual 137, 3) := by decide +kernel
theorem dX5_makeArray_186 : decode cX5_makeArray 186 = .ok (.aload_n 0, 1) := by decide +kernel
theorem dX5_makeArray_187 : decode cX5_makeArray 187 = .ok (.dup, 1) := by decide +kernel
theorem dX5_makeArray_188 : decode cX5_makeArray 188 = .ok (.getfield 123, 3) := by decide +kernel
theorem dX5_makeArray_191 : decode cX5_makeArray 191 = .ok (.iconst 1, 1) := by decide +kernel
theorem dX5_makeArray_192 : decode cX5_makeArray 192 = .ok (.iadd, 1) := by decide +kernel
theorem dX5_makeArray_193 : decode cX5_makeArray 193 = .ok (.putfield 123, 3) := by decide +kernel
theorem dX5_makeArray_196 : decode cX5_makeArray 196 = .ok (.return_, 1) := by decide +kernel
theorem dX5_move_0 : decode cX5_move 0 = .ok (.aload_n 0, 1) := by decide +kernel
theorem dX5_move_1 : decode cX5_move 1 = .ok (.getfield 119, 3) := by decide +kernel
theorem dX5_move_4 : decode cX5_move 4 = .ok (.aload_n 0, 1) := by decide +kernel
theorem dX5_move_5 : decode cX5_move 5 = .ok (.getfield 123, 3) := by decide +kernel
theorem dX5_move_8 : decode cX5_move 8 = .ok (.invokevirtual 228, 3) := by decide +kernel
theorem dX5_move_11 : decode cX5_move 11 = .ok (.istore_n 2, 1) := by decide +kernel
theorem dX5_move_12 : decode cX5_move 12 = .ok (.iload_n 1, 1) := by decide +kernel
theorem dX5_move_13 : decode cX5_move 13 = .ok (.bipush 17, 2) := by decide +kernel
theorem dX5_move_15 : decode cX5_move 15 = .ok (.if_icmp .eq 14, 3) := by decide +kernel
theorem dX5_move_18 : decode cX5_move 18 = .ok (.iload_n 1, 1) := by decide +kernel
theorem dX5_move_19 : decode cX5_move 19 = .ok (.bipush 20, 2) := by decide +kernel
theorem dX5_move_21 : decode cX5_move 21 = .ok (.if_icmp .eq 8, 3) := by decide +kernel
theorem dX5_move_24 : decode cX5_move 24 = .ok (.iload_n 1, 1) := by decide +kernel
theorem dX5_move_25 : decode cX5_move 25 = .ok (.iconst 1, 1) := by decide +kernel
theorem dX5_move_26 : decode cX5_move 26 = .ok (.if_icmp .ne 25, 3) := by decide +kernel
theorem dX5_move_29 : decode cX5_move 29 = .ok (.aload_n 0, 1) := by decide +kernel
theorem dX5_move_30 : decode cX5_move 30 = .ok (.iload_n 1, 1) := by decide +kernel
theorem dX5_move_31 : decode cX5_move 31 = .ok (.invokestatic 163, 3) := by decide +kernel
theorem dX5_move_34 : decode cX5_move 34 = .ok (.aload_n 0, 1) := by decide +kernel
theorem dX5_move_35 : decode cX5_move 35 = .ok (.getfield 119, 3) := by decide +kernel
theorem dX5_move_38 : decode cX5_move 38 = .ok (.aload_n 0, 1) := by decide +kernel
theorem dX5_move_39 : decode cX5_move 39 = .ok (.getfield 123, 3) := by decide +kernel
theorem dX5_move_42 : decode cX5_move 42 = .ok (.invokevirtual 184, 3) := by decide +kernel
theorem dX5_move_45 : decode cX5_move 45 = .ok (.invokevirtual 176, 3) := by decide +kernel
theorem dX5_move_48 : decode cX5_move 48 = .ok (.goto 97, 3) := by decide +kernel
theorem dX5_move_51 : decode cX5_move 51 = .ok (.iload_n 1, 1) := by decide +kernel
theorem dX5_move_52 : decode cX5_move 52 = .ok (.invokestatic 231, 3) := by decide +kernel
theorem dX5_move_55 : decode cX5_move 55 = .ok (.ifCond .eq 19, 3) := by decide +kernel
theorem dX5_move_58 : decode cX5_move 58 = .ok (.aload_n 0, 1) := by decide +kernel
theorem dX5_move_59 : decode cX5_move 59 = .ok (.iload_n 1, 1) := by decide +kernel
theorem dX5_move_60 : decode cX5_move 60 = .ok (.invokestatic 163, 3) := by decide +kernel
theorem dX5_move_63 : decode cX5_move 63 = .ok (.aload_n 0, 1) := by decide +kernel
theorem dX5_move_64 : decode cX5_move 64 = .ok (.iload_n 2, 1) := by decide +kernel
theorem dX5_move_65 : decode cX5_move 65 = .ok (.invokevirtual 234, 3) := by decide +kernel
theorem dX5_move_68 : decode cX5_move 68 = .ok (.invokevirtual 176, 3) := by decide +kernel
theorem dX5_move_71 : decode cX5_move 71 = .ok (.goto 74, 3) := by decide +kernel
theorem dX5_move_74 : decode cX5_move 74 = .ok (.iload_n 1, 1) := by decide +kernel
theorem dX5_move_75 : decode cX5_move 75 = .ok (.invokestatic 237, 3) := by decide +kernel
theorem dX5_move_78 : decode cX5_move 78 = .ok (.ifCond .eq 19, 3) := by decide +kernel
theorem dX5_move_81 : decode cX5_move 81 = .ok (.aload_n 0, 1) := by decide +kernel
theorem dX5_move_82 : decode cX5_move 82 = .ok (.iload_n 2, 1) := by decide +kernel
theorem dX5_move_83 : decode cX5_move 83 = .ok (.aload_n 0, 1) := by decide +kernel
theorem dX5_move_84 : decode cX5_move 84 = .ok (.iload_n 1, 1) := by decide +kernel
theorem dX5_move_85 : decode cX5_move 85 = .ok (.invokestatic 166, 3) := by decide +kernel
theorem dX5_move_88 : decode cX5_move 88 = .ok (.invokevirtual 169, 3) := by decide +kernel
theorem dX5_move_91 : decode cX5_move 91 = .ok (.invokevirtual 133, 3) := by decide +kernel
theorem dX5_move_94 : decode cX5_move 94 = .ok (.goto 51, 3) := by decide +kernel
theorem dX5_move_97 : decode cX5_move 97 = .ok (.iload_n 1, 1) := by decide +kernel
theorem dX5_move_98 : decode cX5_move 98 = .ok (.sipush 132, 3) := by decide +kernel
theorem dX5_move_101 : decode cX5_move 101 = .ok (.if_icmp .ne 30, 3) := by decide +kernel
theorem dX5_move_104 : decode cX5_move 104 = .ok (.aload_n 0, 1) := by decide +kernel
theorem dX5_move_105 : decode cX5_move 105 = .ok (.iload_n 2, 1) := by decide +kernel
theorem dX5_move_106 : decode cX5_move 106 = .ok (.aload_n 0, 1) := by decide +kernel
theorem dX5_move_107 : decode cX5_move 107 = .ok (.iload_n 2, 1) := by decide +kernel
theorem dX5_move_108 : decode cX5_move 108 = .ok (.invokevirtual 234, 3) := by decide +kernel
theorem dX5_move_111 : decode cX5_move 111 = .ok (.l2i, 1) := by decide +kernel
theorem dX5_move_112 : decode cX5_move 112 = .ok (.aload_n 0, 1) := by decide +kernel
theorem dX5_move_113 : decode cX5_move 113 = .ok (.getfield 119, 3) := by decide +kernel
theorem dX5_move_116 : decode cX5_move 116 = .ok (.aload_n 0, 1) := by decide +kernel
theorem dX5_move_117 : decode cX5_move 117 = .ok (.getfield 123, 3) := by decide +kernel
theorem dX5_move_120 : decode cX5_move 120 = .ok (.invokevirtual 240, 3) := by decide +kernel
theorem dX5_move_123 : decode cX5_move 123 = .ok (.iadd, 1) := by decide +kernel
theorem dX5_move_124 : decode cX5_move 124 = .ok (.i2l, 1) := by decide +kernel
theorem dX5_move_125 : decode cX5_move 125 = .ok (.invokevirtual 133, 3) := by decide +kernel
theorem dX5_move_128 : decode cX5_move 128 = .ok (.goto 17, 3) := by decide +kernel
theorem dX5_move_131 : decode cX5_move 131 = .ok (.iload_n 1, 1) := by decide +kernel
theorem dX5_move_132 : decode cX5_move 132 = .ok (.ifCond .eq 13, 3) := by decide +kernel
theorem dX5_move_135 : decode cX5_move 135 = .ok (.aload_n 0, 1) := by decide +kernel
theorem dX5_move_136 : decode cX5_move 136 = .ok (.dup, 1) := by decide +kernel
theorem dX5_move_137 : decode cX5_move 137 = .ok (.getfield 76, 3) := by decide +kernel
theorem dX5_move_140 : decode cX5_move 140 = .ok (.iconst 1, 1) := by decide +kernel
theorem dX5_move_141 : decode cX5_move 141 = .ok (.iadd, 1) := by decide +kernel
theorem dX5_move_142 : decode cX5_move 142 = .ok (.putfield 76, 3) := by decide +kernel
theorem dX5_move_145 : decode cX5_move 145 = .ok (.return_, 1) := by decide +kernel
theorem dX5_openFrame_0 : decode cX5_openFrame 0 = .ok (.aload_n 0, 1) := by decide +kernel
theorem dX5_openFrame_1 : decode cX5_openFrame 1 = .ok (.aload_n 0, 1) := by decide +kernel
theorem dX5_openFrame_2 : decode cX5_openFrame 2 = .ok (.getfield 38, 3) := by decide +kernel
theorem dX5_openFrame_5 : decode cX5_openFrame 5 = .ok (.iload_n 1, 1) := by decide +kernel
theorem dX5_openFrame_6 : decode cX5_openFrame 6 = .ok (.invokevirtual 79, 3) := by decide +kernel
theorem dX5_openFrame_9 : decode cX5_openFrame 9 = .ok (.putfield 119, 3) := by decide +kernel
theorem dX5_openFrame_12 : decode cX5_openFrame 12 = .ok (.aload_n 0, 1) := by decide +kernel

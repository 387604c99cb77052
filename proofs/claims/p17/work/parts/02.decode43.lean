theorem dX3_findBacks_19 : decode cX3_findBacks 19 = .ok (.aload_n 0, 1) := by decide +kernel
theorem dX3_findBacks_20 : decode cX3_findBacks 20 = .ok (.aload_n 0, 1) := by decide +kernel
theorem dX3_findBacks_21 : decode cX3_findBacks 21 = .ok (.getfield 21, 3) := by decide +kernel
theorem dX3_findBacks_24 : decode cX3_findBacks 24 = .ok (.arraylength, 1) := by decide +kernel
theorem dX3_findBacks_25 : decode cX3_findBacks 25 = .ok (.newarray .int, 2) := by decide +kernel
theorem dX3_findBacks_27 : decode cX3_findBacks 27 = .ok (.putfield 27, 3) := by decide +kernel
theorem dX3_findBacks_30 : decode cX3_findBacks 30 = .ok (.aload_n 0, 1) := by decide +kernel
theorem dX3_findBacks_31 : decode cX3_findBacks 31 = .ok (.getfield 24, 3) := by decide +kernel
theorem dX3_findBacks_34 : decode cX3_findBacks 34 = .ok (.iconst 0, 1) := by decide +kernel
theorem dX3_findBacks_35 : decode cX3_findBacks 35 = .ok (.invokestatic 85, 3) := by decide +kernel
theorem dX3_findBacks_38 : decode cX3_findBacks 38 = .ok (.iconst 0, 1) := by decide +kernel
theorem dX3_findBacks_39 : decode cX3_findBacks 39 = .ok (.istore_n 2, 1) := by decide +kernel
theorem dX3_findBacks_40 : decode cX3_findBacks 40 = .ok (.iload_n 2, 1) := by decide +kernel
theorem dX3_findBacks_41 : decode cX3_findBacks 41 = .ok (.iload_n 1, 1) := by decide +kernel
theorem dX3_findBacks_42 : decode cX3_findBacks 42 = .ok (.if_icmp .ge 26, 3) := by decide +kernel
theorem dX3_findBacks_45 : decode cX3_findBacks 45 = .ok (.aload_n 0, 1) := by decide +kernel
theorem dX3_findBacks_46 : decode cX3_findBacks 46 = .ok (.getfield 24, 3) := by decide +kernel
theorem dX3_findBacks_49 : decode cX3_findBacks 49 = .ok (.aload_n 0, 1) := by decide +kernel
theorem dX3_findBacks_50 : decode cX3_findBacks 50 = .ok (.getfield 21, 3) := by decide +kernel
theorem dX3_findBacks_53 : decode cX3_findBacks 53 = .ok (.iload_n 2, 1) := by decide +kernel
theorem dX3_findBacks_54 : decode cX3_findBacks 54 = .ok (.iaload, 1) := by decide +kernel
theorem dX3_findBacks_55 : decode cX3_findBacks 55 = .ok (.iconst 1, 1) := by decide +kernel
theorem dX3_findBacks_56 : decode cX3_findBacks 56 = .ok (.iadd, 1) := by decide +kernel
theorem dX3_findBacks_57 : decode cX3_findBacks 57 = .ok (.dup2, 1) := by decide +kernel
theorem dX3_findBacks_58 : decode cX3_findBacks 58 = .ok (.iaload, 1) := by decide +kernel
theorem dX3_findBacks_59 : decode cX3_findBacks 59 = .ok (.iconst 1, 1) := by decide +kernel
theorem dX3_findBacks_60 : decode cX3_findBacks 60 = .ok (.iadd, 1) := by decide +kernel
theorem dX3_findBacks_61 : decode cX3_findBacks 61 = .ok (.iastore, 1) := by decide +kernel
theorem dX3_findBacks_62 : decode cX3_findBacks 62 = .ok (.iinc 2 1, 3) := by decide +kernel
theorem dX3_findBacks_65 : decode cX3_findBacks 65 = .ok (.goto (-25), 3) := by decide +kernel
theorem dX3_findBacks_68 : decode cX3_findBacks 68 = .ok (.iconst 0, 1) := by decide +kernel
theorem dX3_findBacks_69 : decode cX3_findBacks 69 = .ok (.istore_n 2, 1) := by decide +kernel
theorem dX3_findBacks_70 : decode cX3_findBacks 70 = .ok (.iload_n 2, 1) := by decide +kernel
theorem dX3_findBacks_71 : decode cX3_findBacks 71 = .ok (.aload_n 0, 1) := by decide +kernel
theorem dX3_findBacks_72 : decode cX3_findBacks 72 = .ok (.getfield 78, 3) := by decide +kernel
theorem dX3_findBacks_75 : decode cX3_findBacks 75 = .ok (.if_icmp .ge 26, 3) := by decide +kernel
theorem dX3_findBacks_78 : decode cX3_findBacks 78 = .ok (.aload_n 0, 1) := by decide +kernel
theorem dX3_findBacks_79 : decode cX3_findBacks 79 = .ok (.getfield 24, 3) := by decide +kernel
theorem dX3_findBacks_82 : decode cX3_findBacks 82 = .ok (.iload_n 2, 1) := by decide +kernel
theorem dX3_findBacks_83 : decode cX3_findBacks 83 = .ok (.iconst 1, 1) := by decide +kernel
theorem dX3_findBacks_84 : decode cX3_findBacks 84 = .ok (.iadd, 1) := by decide +kernel
theorem dX3_findBacks_85 : decode cX3_findBacks 85 = .ok (.dup2, 1) := by decide +kernel
theorem dX3_findBacks_86 : decode cX3_findBacks 86 = .ok (.iaload, 1) := by decide +kernel
theorem dX3_findBacks_87 : decode cX3_findBacks 87 = .ok (.aload_n 0, 1) := by decide +kernel
theorem dX3_findBacks_88 : decode cX3_findBacks 88 = .ok (.getfield 24, 3) := by decide +kernel
theorem dX3_findBacks_91 : decode cX3_findBacks 91 = .ok (.iload_n 2, 1) := by decide +kernel
theorem dX3_findBacks_92 : decode cX3_findBacks 92 = .ok (.iaload, 1) := by decide +kernel
theorem dX3_findBacks_93 : decode cX3_findBacks 93 = .ok (.iadd, 1) := by decide +kernel
theorem dX3_findBacks_94 : decode cX3_findBacks 94 = .ok (.iastore, 1) := by decide +kernel
theorem dX3_findBacks_95 : decode cX3_findBacks 95 = .ok (.iinc 2 1, 3) := by decide +kernel
theorem dX3_findBacks_98 : decode cX3_findBacks 98 = .ok (.goto (-28), 3) := by decide +kernel
theorem dX3_findBacks_101 : decode cX3_findBacks 101 = .ok (.aload_n 0, 1) := by decide +kernel
theorem dX3_findBacks_102 : decode cX3_findBacks 102 = .ok (.getfield 24, 3) := by decide +kernel
theorem dX3_findBacks_105 : decode cX3_findBacks 105 = .ok (.iconst 0, 1) := by decide +kernel
theorem dX3_findBacks_106 : decode cX3_findBacks 106 = .ok (.aload_n 0, 1) := by decide +kernel
theorem dX3_findBacks_107 : decode cX3_findBacks 107 = .ok (.getfield 47, 3) := by decide +kernel
theorem dX3_findBacks_110 : decode cX3_findBacks 110 = .ok (.iconst 0, 1) := by decide +kernel
theorem dX3_findBacks_111 : decode cX3_findBacks 111 = .ok (.aload_n 0, 1) := by decide +kernel
theorem dX3_findBacks_112 : decode cX3_findBacks 112 = .ok (.getfield 78, 3) := by decide +kernel
theorem dX3_findBacks_115 : decode cX3_findBacks 115 = .ok (.invokestatic 142, 3) := by decide +kernel
theorem dX3_findBacks_118 : decode cX3_findBacks 118 = .ok (.iconst 0, 1) := by decide +kernel
theorem dX3_findBacks_119 : decode cX3_findBacks 119 = .ok (.istore_n 2, 1) := by decide +kernel
theorem dX3_findBacks_120 : decode cX3_findBacks 120 = .ok (.iload_n 2, 1) := by decide +kernel
theorem dX3_findBacks_121 : decode cX3_findBacks 121 = .ok (.aload_n 0, 1) := by decide +kernel
theorem dX3_findBacks_122 : decode cX3_findBacks 122 = .ok (.getfield 78, 3) := by decide +kernel
theorem dX3_findBacks_125 : decode cX3_findBacks 125 = .ok (.if_icmp .ge 70, 3) := by decide +kernel
theorem dX3_findBacks_128 : decode cX3_findBacks 128 = .ok (.aload_n 0, 1) := by decide +kernel
theorem dX3_findBacks_129 : decode cX3_findBacks 129 = .ok (.getfield 18, 3) := by decide +kernel
theorem dX3_findBacks_132 : decode cX3_findBacks 132 = .ok (.iload_n 2, 1) := by decide +kernel
theorem dX3_findBacks_133 : decode cX3_findBacks 133 = .ok (.iaload, 1) := by decide +kernel
theorem dX3_findBacks_134 : decode cX3_findBacks 134 = .ok (.istore_n 3, 1) := by decide +kernel
theorem dX3_findBacks_135 : decode cX3_findBacks 135 = .ok (.iload_n 3, 1) := by decide +kernel
theorem dX3_findBacks_136 : decode cX3_findBacks 136 = .ok (.aload_n 0, 1) := by decide +kernel
theorem dX3_findBacks_137 : decode cX3_findBacks 137 = .ok (.getfield 18, 3) := by decide +kernel
theorem dX3_findBacks_140 : decode cX3_findBacks 140 = .ok (.iload_n 2, 1) := by decide +kernel
theorem dX3_findBacks_141 : decode cX3_findBacks 141 = .ok (.iconst 1, 1) := by decide +kernel
theorem dX3_findBacks_142 : decode cX3_findBacks 142 = .ok (.iadd, 1) := by decide +kernel
theorem dX3_findBacks_143 : decode cX3_findBacks 143 = .ok (.iaload, 1) := by decide +kernel
theorem dX3_findBacks_144 : decode cX3_findBacks 144 = .ok (.if_icmp .ge 45, 3) := by decide +kernel
theorem dX3_findBacks_147 : decode cX3_findBacks 147 = .ok (.aload_n 0, 1) := by decide +kernel
theorem dX3_findBacks_148 : decode cX3_findBacks 148 = .ok (.getfield 47, 3) := by decide +kernel
theorem dX3_findBacks_151 : decode cX3_findBacks 151 = .ok (.aload_n 0, 1) := by decide +kernel
theorem dX3_findBacks_152 : decode cX3_findBacks 152 = .ok (.getfield 21, 3) := by decide +kernel
theorem dX3_findBacks_155 : decode cX3_findBacks 155 = .ok (.iload_n 3, 1) := by decide +kernel
theorem dX3_findBacks_156 : decode cX3_findBacks 156 = .ok (.iaload, 1) := by decide +kernel
theorem dX3_findBacks_157 : decode cX3_findBacks 157 = .ok (.iaload, 1) := by decide +kernel
theorem dX3_findBacks_158 : decode cX3_findBacks 158 = .ok (.istore 4, 2) := by decide +kernel
theorem dX3_findBacks_160 : decode cX3_findBacks 160 = .ok (.aload_n 0, 1) := by decide +kernel
theorem dX3_findBacks_161 : decode cX3_findBacks 161 = .ok (.getfield 27, 3) := by decide +kernel
theorem dX3_findBacks_164 : decode cX3_findBacks 164 = .ok (.iload 4, 2) := by decide +kernel
theorem dX3_findBacks_166 : decode cX3_findBacks 166 = .ok (.iload_n 2, 1) := by decide +kernel
theorem dX3_findBacks_167 : decode cX3_findBacks 167 = .ok (.iastore, 1) := by decide +kernel
theorem dX3_findBacks_168 : decode cX3_findBacks 168 = .ok (.aload_n 0, 1) := by decide +kernel
theorem dX3_findBacks_169 : decode cX3_findBacks 169 = .ok (.getfield 47, 3) := by decide +kernel
theorem dX3_findBacks_172 : decode cX3_findBacks 172 = .ok (.aload_n 0, 1) := by decide +kernel
theorem dX3_findBacks_173 : decode cX3_findBacks 173 = .ok (.getfield 21, 3) := by decide +kernel
theorem dX3_findBacks_176 : decode cX3_findBacks 176 = .ok (.iload_n 3, 1) := by decide +kernel
theorem dX3_findBacks_177 : decode cX3_findBacks 177 = .ok (.iaload, 1) := by decide +kernel
theorem dX3_findBacks_178 : decode cX3_findBacks 178 = .ok (.dup2, 1) := by decide +kernel
theorem dX3_findBacks_179 : decode cX3_findBacks 179 = .ok (.iaload, 1) := by decide +kernel
theorem dX3_findBacks_180 : decode cX3_findBacks 180 = .ok (.iconst 1, 1) := by decide +kernel
theorem dX3_findBacks_181 : decode cX3_findBacks 181 = .ok (.iadd, 1) := by decide +kernel
theorem dX3_findBacks_182 : decode cX3_findBacks 182 = .ok (.iastore, 1) := by decide +kernel
theorem dX3_findBacks_183 : decode cX3_findBacks 183 = .ok (.iinc 3 1, 3) := by decide +kernel
theorem dX3_findBacks_186 : decode cX3_findBacks 186 = .ok (.goto (-51), 3) := by decide +kernel
theorem dX3_findBacks_189 : decode cX3_findBacks 189 = .ok (.iinc 2 1, 3) := by decide +kernel
theorem dX3_findBacks_192 : decode cX3_findBacks 192 = .ok (.goto (-72), 3) := by decide +kernel
theorem dX3_findBacks_195 : decode cX3_findBacks 195 = .ok (.return_, 1) := by decide +kernel
theorem dX3_findBlocks_0 : decode cX3_findBlocks 0 = .ok (.aload_n 0, 1) := by decide +kernel
theorem dX3_findBlocks_1 : decode cX3_findBlocks 1 = .ok (.getfield 15, 3) := by decide +kernel
theorem dX3_findBlocks_4 : decode cX3_findBlocks 4 = .ok (.arraylength, 1) := by decide +kernel
theorem dX3_findBlocks_5 : decode cX3_findBlocks 5 = .ok (.aload_n 0, 1) := by decide +kernel
theorem dX3_findBlocks_6 : decode cX3_findBlocks 6 = .ok (.getfield 53, 3) := by decide +kernel
theorem dX3_findBlocks_9 : decode cX3_findBlocks 9 = .ok (.getfield 82, 3) := by decide +kernel
theorem dX3_findBlocks_12 : decode cX3_findBlocks 12 = .ok (.if_icmp .ge 33, 3) := by decide +kernel
theorem dX3_findBlocks_15 : decode cX3_findBlocks 15 = .ok (.aload_n 0, 1) := by decide +kernel
theorem dX3_findBlocks_16 : decode cX3_findBlocks 16 = .ok (.iconst 2, 1) := by decide +kernel
theorem dX3_findBlocks_17 : decode cX3_findBlocks 17 = .ok (.aload_n 0, 1) := by decide +kernel
theorem dX3_findBlocks_18 : decode cX3_findBlocks 18 = .ok (.getfield 53, 3) := by decide +kernel
theorem dX3_findBlocks_21 : decode cX3_findBlocks 21 = .ok (.getfield 82, 3) := by decide +kernel
theorem dX3_findBlocks_24 : decode cX3_findBlocks 24 = .ok (.imul, 1) := by decide +kernel
theorem dX3_findBlocks_25 : decode cX3_findBlocks 25 = .ok (.newarray .int, 2) := by decide +kernel
theorem dX3_findBlocks_27 : decode cX3_findBlocks 27 = .ok (.putfield 15, 3) := by decide +kernel
theorem dX3_findBlocks_30 : decode cX3_findBlocks 30 = .ok (.aload_n 0, 1) := by decide +kernel
theorem dX3_findBlocks_31 : decode cX3_findBlocks 31 = .ok (.iconst 2, 1) := by decide +kernel
theorem dX3_findBlocks_32 : decode cX3_findBlocks 32 = .ok (.aload_n 0, 1) := by decide +kernel
theorem dX3_findBlocks_33 : decode cX3_findBlocks 33 = .ok (.getfield 53, 3) := by decide +kernel
theorem dX3_findBlocks_36 : decode cX3_findBlocks 36 = .ok (.getfield 82, 3) := by decide +kernel
theorem dX3_findBlocks_39 : decode cX3_findBlocks 39 = .ok (.imul, 1) := by decide +kernel
theorem dX3_findBlocks_40 : decode cX3_findBlocks 40 = .ok (.newarray .int, 2) := by decide +kernel
theorem dX3_findBlocks_42 : decode cX3_findBlocks 42 = .ok (.putfield 9, 3) := by decide +kernel
theorem dX3_findBlocks_45 : decode cX3_findBlocks 45 = .ok (.aload_n 0, 1) := by decide +kernel
theorem dX3_findBlocks_46 : decode cX3_findBlocks 46 = .ok (.getfield 15, 3) := by decide +kernel
theorem dX3_findBlocks_49 : decode cX3_findBlocks 49 = .ok (.iconst 0, 1) := by decide +kernel
theorem dX3_findBlocks_50 : decode cX3_findBlocks 50 = .ok (.invokestatic 85, 3) := by decide +kernel
theorem dX3_findBlocks_53 : decode cX3_findBlocks 53 = .ok (.aload_n 0, 1) := by decide +kernel
theorem dX3_findBlocks_54 : decode cX3_findBlocks 54 = .ok (.iconst 0, 1) := by decide +kernel
theorem dX3_findBlocks_55 : decode cX3_findBlocks 55 = .ok (.invokevirtual 91, 3) := by decide +kernel
theorem dX3_findBlocks_58 : decode cX3_findBlocks 58 = .ok (.iconst 0, 1) := by decide +kernel
theorem dX3_findBlocks_59 : decode cX3_findBlocks 59 = .ok (.istore_n 1, 1) := by decide +kernel
theorem dX3_findBlocks_60 : decode cX3_findBlocks 60 = .ok (.iload_n 1, 1) := by decide +kernel
theorem dX3_findBlocks_61 : decode cX3_findBlocks 61 = .ok (.aload_n 0, 1) := by decide +kernel
theorem dX3_findBlocks_62 : decode cX3_findBlocks 62 = .ok (.getfield 53, 3) := by decide +kernel
theorem dX3_findBlocks_65 : decode cX3_findBlocks 65 = .ok (.getfield 82, 3) := by decide +kernel
theorem dX3_findBlocks_68 : decode cX3_findBlocks 68 = .ok (.if_icmp .ge 69, 3) := by decide +kernel
theorem dX3_findBlocks_71 : decode cX3_findBlocks 71 = .ok (.aload_n 0, 1) := by decide +kernel
theorem dX3_findBlocks_72 : decode cX3_findBlocks 72 = .ok (.getfield 53, 3) := by decide +kernel
theorem dX3_findBlocks_75 : decode cX3_findBlocks 75 = .ok (.iload_n 1, 1) := by decide +kernel
theorem dX3_findBlocks_76 : decode cX3_findBlocks 76 = .ok (.invokevirtual 95, 3) := by decide +kernel
theorem dX3_findBlocks_79 : decode cX3_findBlocks 79 = .ok (.istore_n 2, 1) := by decide +kernel

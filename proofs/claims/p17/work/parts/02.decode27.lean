theorem dX1_store_0 : decode cX1_store 0 = .ok (.iload_n 1, 1) := by decide +kernel
theorem dX1_store_1 : decode cX1_store 1 = .ok (.invokestatic 216, 3) := by decide +kernel
theorem dX1_store_4 : decode cX1_store 4 = .ok (.istore_n 3, 1) := by decide +kernel
theorem dX1_store_5 : decode cX1_store 5 = .ok (.aload_n 0, 1) := by decide +kernel
theorem dX1_store_6 : decode cX1_store 6 = .ok (.iload_n 3, 1) := by decide +kernel
theorem dX1_store_7 : decode cX1_store 7 = .ok (.invokevirtual 189, 3) := by decide +kernel
theorem dX1_store_10 : decode cX1_store 10 = .ok (.istore 4, 2) := by decide +kernel
theorem dX1_store_12 : decode cX1_store 12 = .ok (.iload_n 2, 1) := by decide +kernel
theorem dX1_store_13 : decode cX1_store 13 = .ok (.iload_n 1, 1) := by decide +kernel
theorem dX1_store_14 : decode cX1_store 14 = .ok (.invokestatic 218, 3) := by decide +kernel
theorem dX1_store_17 : decode cX1_store 17 = .ok (.iadd, 1) := by decide +kernel
theorem dX1_store_18 : decode cX1_store 18 = .ok (.istore 5, 2) := by decide +kernel
theorem dX1_store_20 : decode cX1_store 20 = .ok (.iload_n 2, 1) := by decide +kernel
theorem dX1_store_21 : decode cX1_store 21 = .ok (.ifCond .le 22, 3) := by decide +kernel
theorem dX1_store_24 : decode cX1_store 24 = .ok (.aload_n 0, 1) := by decide +kernel
theorem dX1_store_25 : decode cX1_store 25 = .ok (.iload_n 2, 1) := by decide +kernel
theorem dX1_store_26 : decode cX1_store 26 = .ok (.iconst 1, 1) := by decide +kernel
theorem dX1_store_27 : decode cX1_store 27 = .ok (.isub, 1) := by decide +kernel
theorem dX1_store_28 : decode cX1_store 28 = .ok (.invokevirtual 182, 3) := by decide +kernel
theorem dX1_store_31 : decode cX1_store 31 = .ok (.iconst 2, 1) := by decide +kernel
theorem dX1_store_32 : decode cX1_store 32 = .ok (.if_icmp .ne 11, 3) := by decide +kernel
theorem dX1_store_35 : decode cX1_store 35 = .ok (.aload_n 0, 1) := by decide +kernel
theorem dX1_store_36 : decode cX1_store 36 = .ok (.iload_n 2, 1) := by decide +kernel
theorem dX1_store_37 : decode cX1_store 37 = .ok (.iconst 1, 1) := by decide +kernel
theorem dX1_store_38 : decode cX1_store 38 = .ok (.isub, 1) := by decide +kernel
theorem dX1_store_39 : decode cX1_store 39 = .ok (.iconst 0, 1) := by decide +kernel
theorem dX1_store_40 : decode cX1_store 40 = .ok (.invokevirtual 99, 3) := by decide +kernel
theorem dX1_store_43 : decode cX1_store 43 = .ok (.iload 5, 2) := by decide +kernel
theorem dX1_store_45 : decode cX1_store 45 = .ok (.bipush 24, 2) := by decide +kernel
theorem dX1_store_47 : decode cX1_store 47 = .ok (.if_icmp .ge 20, 3) := by decide +kernel
theorem dX1_store_50 : decode cX1_store 50 = .ok (.aload_n 0, 1) := by decide +kernel
theorem dX1_store_51 : decode cX1_store 51 = .ok (.iload 5, 2) := by decide +kernel
theorem dX1_store_53 : decode cX1_store 53 = .ok (.invokevirtual 182, 3) := by decide +kernel
theorem dX1_store_56 : decode cX1_store 56 = .ok (.iconst 3, 1) := by decide +kernel
theorem dX1_store_57 : decode cX1_store 57 = .ok (.if_icmp .ne 10, 3) := by decide +kernel
theorem dX1_store_60 : decode cX1_store 60 = .ok (.aload_n 0, 1) := by decide +kernel
theorem dX1_store_61 : decode cX1_store 61 = .ok (.iload 5, 2) := by decide +kernel
theorem dX1_store_63 : decode cX1_store 63 = .ok (.iconst 0, 1) := by decide +kernel
theorem dX1_store_64 : decode cX1_store 64 = .ok (.invokevirtual 99, 3) := by decide +kernel
theorem dX1_store_67 : decode cX1_store 67 = .ok (.iload_n 1, 1) := by decide +kernel
theorem dX1_store_68 : decode cX1_store 68 = .ok (.bipush 58, 2) := by decide +kernel
theorem dX1_store_70 : decode cX1_store 70 = .ok (.if_icmp .ne 23, 3) := by decide +kernel
theorem dX1_store_73 : decode cX1_store 73 = .ok (.aload_n 0, 1) := by decide +kernel
theorem dX1_store_74 : decode cX1_store 74 = .ok (.iload_n 2, 1) := by decide +kernel
theorem dX1_store_75 : decode cX1_store 75 = .ok (.iload 4, 2) := by decide +kernel
theorem dX1_store_77 : decode cX1_store 77 = .ok (.invokestatic 205, 3) := by decide +kernel
theorem dX1_store_80 : decode cX1_store 80 = .ok (.ifCond .eq 8, 3) := by decide +kernel
theorem dX1_store_83 : decode cX1_store 83 = .ok (.iload 4, 2) := by decide +kernel
theorem dX1_store_85 : decode cX1_store 85 = .ok (.goto 4, 3) := by decide +kernel
theorem dX1_store_88 : decode cX1_store 88 = .ok (.iconst 0, 1) := by decide +kernel
theorem dX1_store_89 : decode cX1_store 89 = .ok (.invokevirtual 99, 3) := by decide +kernel
theorem dX1_store_92 : decode cX1_store 92 = .ok (.return_, 1) := by decide +kernel
theorem dX1_store_93 : decode cX1_store 93 = .ok (.aload_n 0, 1) := by decide +kernel
theorem dX1_store_94 : decode cX1_store 94 = .ok (.iload_n 2, 1) := by decide +kernel
theorem dX1_store_95 : decode cX1_store 95 = .ok (.iload_n 3, 1) := by decide +kernel
theorem dX1_store_96 : decode cX1_store 96 = .ok (.invokestatic 96, 3) := by decide +kernel
theorem dX1_store_99 : decode cX1_store 99 = .ok (.invokevirtual 99, 3) := by decide +kernel
theorem dX1_store_102 : decode cX1_store 102 = .ok (.iload_n 1, 1) := by decide +kernel
theorem dX1_store_103 : decode cX1_store 103 = .ok (.bipush 55, 2) := by decide +kernel
theorem dX1_store_105 : decode cX1_store 105 = .ok (.if_icmp .ne 11, 3) := by decide +kernel
theorem dX1_store_108 : decode cX1_store 108 = .ok (.aload_n 0, 1) := by decide +kernel
theorem dX1_store_109 : decode cX1_store 109 = .ok (.iload_n 2, 1) := by decide +kernel
theorem dX1_store_110 : decode cX1_store 110 = .ok (.iconst 1, 1) := by decide +kernel
theorem dX1_store_111 : decode cX1_store 111 = .ok (.iadd, 1) := by decide +kernel
theorem dX1_store_112 : decode cX1_store 112 = .ok (.iconst 3, 1) := by decide +kernel
theorem dX1_store_113 : decode cX1_store 113 = .ok (.invokevirtual 99, 3) := by decide +kernel
theorem dX1_store_116 : decode cX1_store 116 = .ok (.return_, 1) := by decide +kernel
theorem dX1_take_0 : decode cX1_take 0 = .ok (.aload_n 0, 1) := by decide +kernel
theorem dX1_take_1 : decode cX1_take 1 = .ok (.invokevirtual 201, 3) := by decide +kernel
theorem dX1_take_4 : decode cX1_take 4 = .ok (.istore_n 2, 1) := by decide +kernel
theorem dX1_take_5 : decode cX1_take 5 = .ok (.iload_n 1, 1) := by decide +kernel
theorem dX1_take_6 : decode cX1_take 6 = .ok (.tableswitch 172 1 5 #[34, 56, 92, 148, 120], 34) := by decide +kernel
theorem dX1_take_40 : decode cX1_take 40 = .ok (.aload_n 0, 1) := by decide +kernel
theorem dX1_take_41 : decode cX1_take 41 = .ok (.dup, 1) := by decide +kernel
theorem dX1_take_42 : decode cX1_take 42 = .ok (.getfield 161, 3) := by decide +kernel
theorem dX1_take_45 : decode cX1_take 45 = .ok (.iload_n 2, 1) := by decide +kernel
theorem dX1_take_46 : decode cX1_take 46 = .ok (.iconst 1, 1) := by decide +kernel
theorem dX1_take_47 : decode cX1_take 47 = .ok (.if_icmp .eq 7, 3) := by decide +kernel
theorem dX1_take_50 : decode cX1_take 50 = .ok (.iconst 1, 1) := by decide +kernel
theorem dX1_take_51 : decode cX1_take 51 = .ok (.goto 4, 3) := by decide +kernel
theorem dX1_take_54 : decode cX1_take 54 = .ok (.iconst 0, 1) := by decide +kernel
theorem dX1_take_55 : decode cX1_take 55 = .ok (.ior, 1) := by decide +kernel
theorem dX1_take_56 : decode cX1_take 56 = .ok (.putfield 161, 3) := by decide +kernel
theorem dX1_take_59 : decode cX1_take 59 = .ok (.goto 140, 3) := by decide +kernel
theorem dX1_take_62 : decode cX1_take 62 = .ok (.aload_n 0, 1) := by decide +kernel
theorem dX1_take_63 : decode cX1_take 63 = .ok (.dup, 1) := by decide +kernel
theorem dX1_take_64 : decode cX1_take 64 = .ok (.getfield 161, 3) := by decide +kernel
theorem dX1_take_67 : decode cX1_take 67 = .ok (.iload_n 2, 1) := by decide +kernel
theorem dX1_take_68 : decode cX1_take 68 = .ok (.iconst 3, 1) := by decide +kernel
theorem dX1_take_69 : decode cX1_take 69 = .ok (.if_icmp .eq 7, 3) := by decide +kernel
theorem dX1_take_72 : decode cX1_take 72 = .ok (.iconst 1, 1) := by decide +kernel
theorem dX1_take_73 : decode cX1_take 73 = .ok (.goto 4, 3) := by decide +kernel
theorem dX1_take_76 : decode cX1_take 76 = .ok (.iconst 0, 1) := by decide +kernel
theorem dX1_take_77 : decode cX1_take 77 = .ok (.aload_n 0, 1) := by decide +kernel
theorem dX1_take_78 : decode cX1_take 78 = .ok (.invokevirtual 201, 3) := by decide +kernel
theorem dX1_take_81 : decode cX1_take 81 = .ok (.iconst 2, 1) := by decide +kernel
theorem dX1_take_82 : decode cX1_take 82 = .ok (.if_icmp .eq 7, 3) := by decide +kernel
theorem dX1_take_85 : decode cX1_take 85 = .ok (.iconst 1, 1) := by decide +kernel
theorem dX1_take_86 : decode cX1_take 86 = .ok (.goto 4, 3) := by decide +kernel
theorem dX1_take_89 : decode cX1_take 89 = .ok (.iconst 0, 1) := by decide +kernel
theorem dX1_take_90 : decode cX1_take 90 = .ok (.ior, 1) := by decide +kernel
theorem dX1_take_91 : decode cX1_take 91 = .ok (.ior, 1) := by decide +kernel
theorem dX1_take_92 : decode cX1_take 92 = .ok (.putfield 161, 3) := by decide +kernel
theorem dX1_take_95 : decode cX1_take 95 = .ok (.goto 104, 3) := by decide +kernel
theorem dX1_take_98 : decode cX1_take 98 = .ok (.aload_n 0, 1) := by decide +kernel
theorem dX1_take_99 : decode cX1_take 99 = .ok (.dup, 1) := by decide +kernel
theorem dX1_take_100 : decode cX1_take 100 = .ok (.getfield 161, 3) := by decide +kernel
theorem dX1_take_103 : decode cX1_take 103 = .ok (.iload_n 2, 1) := by decide +kernel
theorem dX1_take_104 : decode cX1_take 104 = .ok (.iconst 4, 1) := by decide +kernel
theorem dX1_take_105 : decode cX1_take 105 = .ok (.if_icmp .eq 13, 3) := by decide +kernel
theorem dX1_take_108 : decode cX1_take 108 = .ok (.iload_n 2, 1) := by decide +kernel
theorem dX1_take_109 : decode cX1_take 109 = .ok (.bipush 6, 2) := by decide +kernel
theorem dX1_take_111 : decode cX1_take 111 = .ok (.if_icmp .eq 7, 3) := by decide +kernel
theorem dX1_take_114 : decode cX1_take 114 = .ok (.iconst 1, 1) := by decide +kernel
theorem dX1_take_115 : decode cX1_take 115 = .ok (.goto 4, 3) := by decide +kernel
theorem dX1_take_118 : decode cX1_take 118 = .ok (.iconst 0, 1) := by decide +kernel
theorem dX1_take_119 : decode cX1_take 119 = .ok (.ior, 1) := by decide +kernel
theorem dX1_take_120 : decode cX1_take 120 = .ok (.putfield 161, 3) := by decide +kernel
theorem dX1_take_123 : decode cX1_take 123 = .ok (.goto 76, 3) := by decide +kernel
theorem dX1_take_126 : decode cX1_take 126 = .ok (.aload_n 0, 1) := by decide +kernel
theorem dX1_take_127 : decode cX1_take 127 = .ok (.dup, 1) := by decide +kernel
theorem dX1_take_128 : decode cX1_take 128 = .ok (.getfield 161, 3) := by decide +kernel
theorem dX1_take_131 : decode cX1_take 131 = .ok (.iload_n 2, 1) := by decide +kernel
theorem dX1_take_132 : decode cX1_take 132 = .ok (.iconst 5, 1) := by decide +kernel
theorem dX1_take_133 : decode cX1_take 133 = .ok (.if_icmp .eq 13, 3) := by decide +kernel
theorem dX1_take_136 : decode cX1_take 136 = .ok (.iload_n 2, 1) := by decide +kernel
theorem dX1_take_137 : decode cX1_take 137 = .ok (.bipush 6, 2) := by decide +kernel
theorem dX1_take_139 : decode cX1_take 139 = .ok (.if_icmp .eq 7, 3) := by decide +kernel
theorem dX1_take_142 : decode cX1_take 142 = .ok (.iconst 1, 1) := by decide +kernel
theorem dX1_take_143 : decode cX1_take 143 = .ok (.goto 4, 3) := by decide +kernel
theorem dX1_take_146 : decode cX1_take 146 = .ok (.iconst 0, 1) := by decide +kernel
theorem dX1_take_147 : decode cX1_take 147 = .ok (.ior, 1) := by decide +kernel
theorem dX1_take_148 : decode cX1_take 148 = .ok (.putfield 161, 3) := by decide +kernel
theorem dX1_take_151 : decode cX1_take 151 = .ok (.goto 48, 3) := by decide +kernel
theorem dX1_take_154 : decode cX1_take 154 = .ok (.aload_n 0, 1) := by decide +kernel
theorem dX1_take_155 : decode cX1_take 155 = .ok (.dup, 1) := by decide +kernel
theorem dX1_take_156 : decode cX1_take 156 = .ok (.getfield 161, 3) := by decide +kernel
theorem dX1_take_159 : decode cX1_take 159 = .ok (.iload_n 2, 1) := by decide +kernel
theorem dX1_take_160 : decode cX1_take 160 = .ok (.invokestatic 205, 3) := by decide +kernel
theorem dX1_take_163 : decode cX1_take 163 = .ok (.ifCond .ne 7, 3) := by decide +kernel
theorem dX1_take_166 : decode cX1_take 166 = .ok (.iconst 1, 1) := by decide +kernel
theorem dX1_take_167 : decode cX1_take 167 = .ok (.goto 4, 3) := by decide +kernel
theorem dX1_take_170 : decode cX1_take 170 = .ok (.iconst 0, 1) := by decide +kernel
theorem dX1_take_171 : decode cX1_take 171 = .ok (.ior, 1) := by decide +kernel
theorem dX1_take_172 : decode cX1_take 172 = .ok (.putfield 161, 3) := by decide +kernel
theorem dX1_take_175 : decode cX1_take 175 = .ok (.goto 24, 3) := by decide +kernel
theorem dX1_take_178 : decode cX1_take 178 = .ok (.aload_n 0, 1) := by decide +kernel
theorem dX1_take_179 : decode cX1_take 179 = .ok (.dup, 1) := by decide +kernel
theorem dX1_take_180 : decode cX1_take 180 = .ok (.getfield 161, 3) := by decide +kernel
theorem dX1_take_183 : decode cX1_take 183 = .ok (.iload_n 2, 1) := by decide +kernel

theorem dX12_blocks_12 : decode cX12_blocks 12 = .ok (.ireturn, 1) := by decide +kernel
theorem dX12_blocks_13 : decode cX12_blocks 13 = .ok (.aload_n 0, 1) := by decide +kernel
theorem dX12_blocks_14 : decode cX12_blocks 14 = .ok (.getfield 59, 3) := by decide +kernel
theorem dX12_blocks_17 : decode cX12_blocks 17 = .ok (.aload_n 3, 1) := by decide +kernel
theorem dX12_blocks_18 : decode cX12_blocks 18 = .ok (.invokevirtual 215, 3) := by decide +kernel
theorem dX12_blocks_21 : decode cX12_blocks 21 = .ok (.aload_n 0, 1) := by decide +kernel
theorem dX12_blocks_22 : decode cX12_blocks 22 = .ok (.getfield 59, 3) := by decide +kernel
theorem dX12_blocks_25 : decode cX12_blocks 25 = .ok (.getfield 218, 3) := by decide +kernel
theorem dX12_blocks_28 : decode cX12_blocks 28 = .ok (.ireturn, 1) := by decide +kernel
theorem dX12_byteAt_0 : decode cX12_byteAt 0 = .ok (.iload_n 1, 1) := by decide +kernel
theorem dX12_byteAt_1 : decode cX12_byteAt 1 = .ok (.ifCond .lt 14, 3) := by decide +kernel
theorem dX12_byteAt_4 : decode cX12_byteAt 4 = .ok (.iload_n 1, 1) := by decide +kernel
theorem dX12_byteAt_5 : decode cX12_byteAt 5 = .ok (.aload_n 0, 1) := by decide +kernel
theorem dX12_byteAt_6 : decode cX12_byteAt 6 = .ok (.getfield 16, 3) := by decide +kernel
theorem dX12_byteAt_9 : decode cX12_byteAt 9 = .ok (.getfield 83, 3) := by decide +kernel
theorem dX12_byteAt_12 : decode cX12_byteAt 12 = .ok (.if_icmp .lt 7, 3) := by decide +kernel
theorem dX12_byteAt_15 : decode cX12_byteAt 15 = .ok (.iconst (-1), 1) := by decide +kernel
theorem dX12_byteAt_16 : decode cX12_byteAt 16 = .ok (.goto 11, 3) := by decide +kernel
theorem dX12_byteAt_19 : decode cX12_byteAt 19 = .ok (.aload_n 0, 1) := by decide +kernel
theorem dX12_byteAt_20 : decode cX12_byteAt 20 = .ok (.getfield 16, 3) := by decide +kernel
theorem dX12_byteAt_23 : decode cX12_byteAt 23 = .ok (.iload_n 1, 1) := by decide +kernel
theorem dX12_byteAt_24 : decode cX12_byteAt 24 = .ok (.invokevirtual 175, 3) := by decide +kernel
theorem dX12_byteAt_27 : decode cX12_byteAt 27 = .ok (.ireturn, 1) := by decide +kernel
theorem dX12_count_0 : decode cX12_count 0 = .ok (.aload_n 0, 1) := by decide +kernel
theorem dX12_count_1 : decode cX12_count 1 = .ok (.iload_n 1, 1) := by decide +kernel
theorem dX12_count_2 : decode cX12_count 2 = .ok (.invokevirtual 152, 3) := by decide +kernel
theorem dX12_count_5 : decode cX12_count 5 = .ok (.astore_n 2, 1) := by decide +kernel
theorem dX12_count_6 : decode cX12_count 6 = .ok (.aload_n 2, 1) := by decide +kernel
theorem dX12_count_7 : decode cX12_count 7 = .ok (.ifnonnull 5, 3) := by decide +kernel
theorem dX12_count_10 : decode cX12_count 10 = .ok (.iconst (-1), 1) := by decide +kernel
theorem dX12_count_11 : decode cX12_count 11 = .ok (.ireturn, 1) := by decide +kernel
theorem dX12_count_12 : decode cX12_count 12 = .ok (.aload_n 0, 1) := by decide +kernel
theorem dX12_count_13 : decode cX12_count 13 = .ok (.getfield 94, 3) := by decide +kernel
theorem dX12_count_16 : decode cX12_count 16 = .ok (.bipush 12, 2) := by decide +kernel
theorem dX12_count_18 : decode cX12_count 18 = .ok (.if_icmp .ge 12, 3) := by decide +kernel
theorem dX12_count_21 : decode cX12_count 21 = .ok (.aload_n 0, 1) := by decide +kernel
theorem dX12_count_22 : decode cX12_count 22 = .ok (.getfield 229, 3) := by decide +kernel
theorem dX12_count_25 : decode cX12_count 25 = .ok (.bipush 16, 2) := by decide +kernel
theorem dX12_count_27 : decode cX12_count 27 = .ok (.if_icmp .lt 6, 3) := by decide +kernel
theorem dX12_count_30 : decode cX12_count 30 = .ok (.bipush (-2), 2) := by decide +kernel
theorem dX12_count_32 : decode cX12_count 32 = .ok (.ireturn, 1) := by decide +kernel
theorem dX12_count_33 : decode cX12_count 33 = .ok (.aload_n 0, 1) := by decide +kernel
theorem dX12_count_34 : decode cX12_count 34 = .ok (.dup, 1) := by decide +kernel
theorem dX12_count_35 : decode cX12_count 35 = .ok (.getfield 229, 3) := by decide +kernel
theorem dX12_count_38 : decode cX12_count 38 = .ok (.iconst 1, 1) := by decide +kernel
theorem dX12_count_39 : decode cX12_count 39 = .ok (.iadd, 1) := by decide +kernel
theorem dX12_count_40 : decode cX12_count 40 = .ok (.putfield 229, 3) := by decide +kernel
theorem dX12_count_43 : decode cX12_count 43 = .ok (.aload_n 0, 1) := by decide +kernel
theorem dX12_count_44 : decode cX12_count 44 = .ok (.aload_n 2, 1) := by decide +kernel
theorem dX12_count_45 : decode cX12_count 45 = .ok (.invokevirtual 247, 3) := by decide +kernel
theorem dX12_count_48 : decode cX12_count 48 = .ok (.istore_n 3, 1) := by decide +kernel
theorem dX12_count_49 : decode cX12_count 49 = .ok (.aload_n 2, 1) := by decide +kernel
theorem dX12_count_50 : decode cX12_count 50 = .ok (.getfield 120, 3) := by decide +kernel
theorem dX12_count_53 : decode cX12_count 53 = .ok (.iload_n 3, 1) := by decide +kernel
theorem dX12_count_54 : decode cX12_count 54 = .ok (.iadd, 1) := by decide +kernel
theorem dX12_count_55 : decode cX12_count 55 = .ok (.bipush 24, 2) := by decide +kernel
theorem dX12_count_57 : decode cX12_count 57 = .ok (.if_icmp .le 6, 3) := by decide +kernel
theorem dX12_count_60 : decode cX12_count 60 = .ok (.bipush (-3), 2) := by decide +kernel
theorem dX12_count_62 : decode cX12_count 62 = .ok (.ireturn, 1) := by decide +kernel
theorem dX12_count_63 : decode cX12_count 63 = .ok (.aload_n 0, 1) := by decide +kernel
theorem dX12_count_64 : decode cX12_count 64 = .ok (.getfield 45, 3) := by decide +kernel
theorem dX12_count_67 : decode cX12_count 67 = .ok (.aload_n 2, 1) := by decide +kernel
theorem dX12_count_68 : decode cX12_count 68 = .ok (.iload_n 3, 1) := by decide +kernel
theorem dX12_count_69 : decode cX12_count 69 = .ok (.invokevirtual 163, 3) := by decide +kernel
theorem dX12_count_72 : decode cX12_count 72 = .ok (.aload_n 2, 1) := by decide +kernel
theorem dX12_count_73 : decode cX12_count 73 = .ok (.getfield 120, 3) := by decide +kernel
theorem dX12_count_76 : decode cX12_count 76 = .ok (.istore 4, 2) := by decide +kernel
theorem dX12_count_78 : decode cX12_count 78 = .ok (.iconst 0, 1) := by decide +kernel
theorem dX12_count_79 : decode cX12_count 79 = .ok (.istore 5, 2) := by decide +kernel
theorem dX12_count_81 : decode cX12_count 81 = .ok (.iload 5, 2) := by decide +kernel
theorem dX12_count_83 : decode cX12_count 83 = .ok (.aload_n 2, 1) := by decide +kernel
theorem dX12_count_84 : decode cX12_count 84 = .ok (.getfield 123, 3) := by decide +kernel
theorem dX12_count_87 : decode cX12_count 87 = .ok (.if_icmp .ge 67, 3) := by decide +kernel
theorem dX12_count_90 : decode cX12_count 90 = .ok (.aload_n 2, 1) := by decide +kernel
theorem dX12_count_91 : decode cX12_count 91 = .ok (.iload 5, 2) := by decide +kernel
theorem dX12_count_93 : decode cX12_count 93 = .ok (.invokevirtual 144, 3) := by decide +kernel
theorem dX12_count_96 : decode cX12_count 96 = .ok (.astore 6, 2) := by decide +kernel
theorem dX12_count_98 : decode cX12_count 98 = .ok (.aload_n 0, 1) := by decide +kernel
theorem dX12_count_99 : decode cX12_count 99 = .ok (.getfield 59, 3) := by decide +kernel
theorem dX12_count_102 : decode cX12_count 102 = .ok (.aload 6, 2) := by decide +kernel
theorem dX12_count_104 : decode cX12_count 104 = .ok (.invokevirtual 215, 3) := by decide +kernel
theorem dX12_count_107 : decode cX12_count 107 = .ok (.aload_n 0, 1) := by decide +kernel
theorem dX12_count_108 : decode cX12_count 108 = .ok (.getfield 66, 3) := by decide +kernel
theorem dX12_count_111 : decode cX12_count 111 = .ok (.aload 6, 2) := by decide +kernel
theorem dX12_count_113 : decode cX12_count 113 = .ok (.aload_n 0, 1) := by decide +kernel
theorem dX12_count_114 : decode cX12_count 114 = .ok (.getfield 59, 3) := by decide +kernel
theorem dX12_count_117 : decode cX12_count 117 = .ok (.iload 4, 2) := by decide +kernel
theorem dX12_count_119 : decode cX12_count 119 = .ok (.invokevirtual 251, 3) := by decide +kernel
theorem dX12_count_122 : decode cX12_count 122 = .ok (.iload 4, 2) := by decide +kernel
theorem dX12_count_124 : decode cX12_count 124 = .ok (.aload_n 0, 1) := by decide +kernel
theorem dX12_count_125 : decode cX12_count 125 = .ok (.getfield 59, 3) := by decide +kernel
theorem dX12_count_128 : decode cX12_count 128 = .ok (.invokevirtual 255, 3) := by decide +kernel
theorem dX12_count_131 : decode cX12_count 131 = .ok (.iadd, 1) := by decide +kernel
theorem dX12_count_132 : decode cX12_count 132 = .ok (.istore 4, 2) := by decide +kernel
theorem dX12_count_134 : decode cX12_count 134 = .ok (.aload_n 0, 1) := by decide +kernel
theorem dX12_count_135 : decode cX12_count 135 = .ok (.getfield 45, 3) := by decide +kernel
theorem dX12_count_138 : decode cX12_count 138 = .ok (.aload_n 0, 1) := by decide +kernel
theorem dX12_count_139 : decode cX12_count 139 = .ok (.getfield 66, 3) := by decide +kernel
theorem dX12_count_142 : decode cX12_count 142 = .ok (.getfield 236, 3) := by decide +kernel
theorem dX12_count_145 : decode cX12_count 145 = .ok (.invokevirtual 167, 3) := by decide +kernel
theorem dX12_count_148 : decode cX12_count 148 = .ok (.iinc 5 1, 3) := by decide +kernel
theorem dX12_count_151 : decode cX12_count 151 = .ok (.goto (-70), 3) := by decide +kernel
theorem dX12_count_154 : decode cX12_count 154 = .ok (.aload_n 0, 1) := by decide +kernel
theorem dX12_count_155 : decode cX12_count 155 = .ok (.getfield 45, 3) := by decide +kernel
theorem dX12_count_158 : decode cX12_count 158 = .ok (.invokevirtual 240, 3) := by decide +kernel
theorem dX12_count_161 : decode cX12_count 161 = .ok (.ifCond .ne 6, 3) := by decide +kernel
theorem dX12_count_164 : decode cX12_count 164 = .ok (.bipush (-3), 2) := by decide +kernel
theorem dX12_count_166 : decode cX12_count 166 = .ok (.ireturn, 1) := by decide +kernel
theorem dX12_count_167 : decode cX12_count 167 = .ok (.aload_n 0, 1) := by decide +kernel
theorem dX12_count_168 : decode cX12_count 168 = .ok (.getfield 45, 3) := by decide +kernel
theorem dX12_count_171 : decode cX12_count 171 = .ok (.aload_n 0, 1) := by decide +kernel
theorem dX12_count_172 : decode cX12_count 172 = .ok (.getfield 19, 3) := by decide +kernel
theorem dX12_count_175 : decode cX12_count 175 = .ok (.invokevirtual 171, 3) := by decide +kernel
theorem dX12_count_178 : decode cX12_count 178 = .ok (.aload_n 0, 1) := by decide +kernel
theorem dX12_count_179 : decode cX12_count 179 = .ok (.aload_n 0, 1) := by decide +kernel
theorem dX12_count_180 : decode cX12_count 180 = .ok (.getfield 31, 3) := by decide +kernel
theorem dX12_count_183 : decode cX12_count 183 = .ok (.aload_n 0, 1) := by decide +kernel
theorem dX12_count_184 : decode cX12_count 184 = .ok (.getfield 19, 3) := by decide +kernel
theorem dX12_count_187 : decode cX12_count 187 = .ok (.invokevirtual 97, 3) := by decide +kernel
theorem dX12_count_190 : decode cX12_count 190 = .ok (.bipush (-3), 2) := by decide +kernel
theorem dX12_count_192 : decode cX12_count 192 = .ok (.invokevirtual 112, 3) := by decide +kernel
theorem dX12_count_195 : decode cX12_count 195 = .ok (.ireturn, 1) := by decide +kernel
theorem dX12_countersOf_0 : decode cX12_countersOf 0 = .ok (.iconst 0, 1) := by decide +kernel
theorem dX12_countersOf_1 : decode cX12_countersOf 1 = .ok (.istore_n 2, 1) := by decide +kernel
theorem dX12_countersOf_2 : decode cX12_countersOf 2 = .ok (.iconst 0, 1) := by decide +kernel
theorem dX12_countersOf_3 : decode cX12_countersOf 3 = .ok (.istore_n 3, 1) := by decide +kernel
theorem dX12_countersOf_4 : decode cX12_countersOf 4 = .ok (.iload_n 3, 1) := by decide +kernel
theorem dX12_countersOf_5 : decode cX12_countersOf 5 = .ok (.aload_n 1, 1) := by decide +kernel
theorem dX12_countersOf_6 : decode cX12_countersOf 6 = .ok (.getfield 123, 3) := by decide +kernel
theorem dX12_countersOf_9 : decode cX12_countersOf 9 = .ok (.if_icmp .ge 31, 3) := by decide +kernel
theorem dX12_countersOf_12 : decode cX12_countersOf 12 = .ok (.aload_n 0, 1) := by decide +kernel
theorem dX12_countersOf_13 : decode cX12_countersOf 13 = .ok (.getfield 59, 3) := by decide +kernel
theorem dX12_countersOf_16 : decode cX12_countersOf 16 = .ok (.aload_n 1, 1) := by decide +kernel
theorem dX12_countersOf_17 : decode cX12_countersOf 17 = .ok (.iload_n 3, 1) := by decide +kernel
theorem dX12_countersOf_18 : decode cX12_countersOf 18 = .ok (.invokevirtual 144, 3) := by decide +kernel
theorem dX12_countersOf_21 : decode cX12_countersOf 21 = .ok (.invokevirtual 215, 3) := by decide +kernel
theorem dX12_countersOf_24 : decode cX12_countersOf 24 = .ok (.iload_n 2, 1) := by decide +kernel
theorem dX12_countersOf_25 : decode cX12_countersOf 25 = .ok (.aload_n 0, 1) := by decide +kernel
theorem dX12_countersOf_26 : decode cX12_countersOf 26 = .ok (.getfield 59, 3) := by decide +kernel
theorem dX12_countersOf_29 : decode cX12_countersOf 29 = .ok (.invokevirtual 255, 3) := by decide +kernel
theorem dX12_countersOf_32 : decode cX12_countersOf 32 = .ok (.iadd, 1) := by decide +kernel
theorem dX12_countersOf_33 : decode cX12_countersOf 33 = .ok (.istore_n 2, 1) := by decide +kernel
theorem dX12_countersOf_34 : decode cX12_countersOf 34 = .ok (.iinc 3 1, 3) := by decide +kernel
theorem dX12_countersOf_37 : decode cX12_countersOf 37 = .ok (.goto (-33), 3) := by decide +kernel
theorem dX12_countersOf_40 : decode cX12_countersOf 40 = .ok (.iload_n 2, 1) := by decide +kernel
theorem dX12_countersOf_41 : decode cX12_countersOf 41 = .ok (.ireturn, 1) := by decide +kernel
theorem dX12_edge_0 : decode cX12_edge 0 = .ok (.aload_n 0, 1) := by decide +kernel
theorem dX12_edge_1 : decode cX12_edge 1 = .ok (.iload_n 1, 1) := by decide +kernel
theorem dX12_edge_2 : decode cX12_edge 2 = .ok (.iload_n 2, 1) := by decide +kernel
theorem dX12_edge_3 : decode cX12_edge 3 = .ok (.invokevirtual 132, 3) := by decide +kernel

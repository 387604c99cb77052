theorem dX1_setPlace_4 : decode cX1_setPlace 4 = .ok (.iload_n 1, 1) := by decide +kernel
theorem dX1_setPlace_5 : decode cX1_setPlace 5 = .ok (.bipush 48, 2) := by decide +kernel
theorem dX1_setPlace_7 : decode cX1_setPlace 7 = .ok (.if_icmp .ge 11, 3) := by decide +kernel
theorem dX1_setPlace_10 : decode cX1_setPlace 10 = .ok (.aload_n 0, 1) := by decide +kernel
theorem dX1_setPlace_11 : decode cX1_setPlace 11 = .ok (.getfield 29, 3) := by decide +kernel
theorem dX1_setPlace_14 : decode cX1_setPlace 14 = .ok (.iload_n 1, 1) := by decide +kernel
theorem dX1_setPlace_15 : decode cX1_setPlace 15 = .ok (.iload_n 2, 1) := by decide +kernel
theorem dX1_setPlace_16 : decode cX1_setPlace 16 = .ok (.i2b, 1) := by decide +kernel
theorem dX1_setPlace_17 : decode cX1_setPlace 17 = .ok (.bastore, 1) := by decide +kernel
theorem dX1_setPlace_18 : decode cX1_setPlace 18 = .ok (.return_, 1) := by decide +kernel
theorem dX1_shuffle_0 : decode cX1_shuffle 0 = .ok (.iload_n 1, 1) := by decide +kernel
theorem dX1_shuffle_1 : decode cX1_shuffle 1 = .ok (.bipush 88, 2) := by decide +kernel
theorem dX1_shuffle_3 : decode cX1_shuffle 3 = .ok (.if_icmp .eq 9, 3) := by decide +kernel
theorem dX1_shuffle_6 : decode cX1_shuffle 6 = .ok (.iload_n 1, 1) := by decide +kernel
theorem dX1_shuffle_7 : decode cX1_shuffle 7 = .ok (.bipush 92, 2) := by decide +kernel
theorem dX1_shuffle_9 : decode cX1_shuffle 9 = .ok (.if_icmp .ne 31, 3) := by decide +kernel
theorem dX1_shuffle_12 : decode cX1_shuffle 12 = .ok (.aload_n 0, 1) := by decide +kernel
theorem dX1_shuffle_13 : decode cX1_shuffle 13 = .ok (.invokevirtual 221, 3) := by decide +kernel
theorem dX1_shuffle_16 : decode cX1_shuffle 16 = .ok (.ifCond .eq 24, 3) := by decide +kernel
theorem dX1_shuffle_19 : decode cX1_shuffle 19 = .ok (.iload_n 1, 1) := by decide +kernel
theorem dX1_shuffle_20 : decode cX1_shuffle 20 = .ok (.bipush 88, 2) := by decide +kernel
theorem dX1_shuffle_22 : decode cX1_shuffle 22 = .ok (.if_icmp .ne 12, 3) := by decide +kernel
theorem dX1_shuffle_25 : decode cX1_shuffle 25 = .ok (.aload_n 0, 1) := by decide +kernel
theorem dX1_shuffle_26 : decode cX1_shuffle 26 = .ok (.iconst 2, 1) := by decide +kernel
theorem dX1_shuffle_27 : decode cX1_shuffle 27 = .ok (.invokevirtual 189, 3) := by decide +kernel
theorem dX1_shuffle_30 : decode cX1_shuffle 30 = .ok (.pop, 1) := by decide +kernel
theorem dX1_shuffle_31 : decode cX1_shuffle 31 = .ok (.goto 8, 3) := by decide +kernel
theorem dX1_shuffle_34 : decode cX1_shuffle 34 = .ok (.aload_n 0, 1) := by decide +kernel
theorem dX1_shuffle_35 : decode cX1_shuffle 35 = .ok (.iconst 2, 1) := by decide +kernel
theorem dX1_shuffle_36 : decode cX1_shuffle 36 = .ok (.invokevirtual 195, 3) := by decide +kernel
theorem dX1_shuffle_39 : decode cX1_shuffle 39 = .ok (.return_, 1) := by decide +kernel
theorem dX1_shuffle_40 : decode cX1_shuffle 40 = .ok (.aload_n 0, 1) := by decide +kernel
theorem dX1_shuffle_41 : decode cX1_shuffle 41 = .ok (.invokevirtual 225, 3) := by decide +kernel
theorem dX1_shuffle_44 : decode cX1_shuffle 44 = .ok (.istore_n 2, 1) := by decide +kernel
theorem dX1_shuffle_45 : decode cX1_shuffle 45 = .ok (.iload_n 1, 1) := by decide +kernel
theorem dX1_shuffle_46 : decode cX1_shuffle 46 = .ok (.bipush 87, 2) := by decide +kernel
theorem dX1_shuffle_48 : decode cX1_shuffle 48 = .ok (.if_icmp .eq 9, 3) := by decide +kernel
theorem dX1_shuffle_51 : decode cX1_shuffle 51 = .ok (.iload_n 1, 1) := by decide +kernel
theorem dX1_shuffle_52 : decode cX1_shuffle 52 = .ok (.bipush 89, 2) := by decide +kernel
theorem dX1_shuffle_54 : decode cX1_shuffle 54 = .ok (.if_icmp .ne 7, 3) := by decide +kernel
theorem dX1_shuffle_57 : decode cX1_shuffle 57 = .ok (.iconst 0, 1) := by decide +kernel
theorem dX1_shuffle_58 : decode cX1_shuffle 58 = .ok (.goto 7, 3) := by decide +kernel
theorem dX1_shuffle_61 : decode cX1_shuffle 61 = .ok (.aload_n 0, 1) := by decide +kernel
theorem dX1_shuffle_62 : decode cX1_shuffle 62 = .ok (.invokevirtual 225, 3) := by decide +kernel
theorem dX1_shuffle_65 : decode cX1_shuffle 65 = .ok (.istore_n 3, 1) := by decide +kernel
theorem dX1_shuffle_66 : decode cX1_shuffle 66 = .ok (.iload_n 1, 1) := by decide +kernel
theorem dX1_shuffle_67 : decode cX1_shuffle 67 = .ok (.tableswitch 108 89 95 #[41, 54, 108, 72, 108, 108, 95], 41) := by decide +kernel
theorem dX1_shuffle_108 : decode cX1_shuffle 108 = .ok (.aload_n 0, 1) := by decide +kernel
theorem dX1_shuffle_109 : decode cX1_shuffle 109 = .ok (.iload_n 2, 1) := by decide +kernel
theorem dX1_shuffle_110 : decode cX1_shuffle 110 = .ok (.invokevirtual 211, 3) := by decide +kernel
theorem dX1_shuffle_113 : decode cX1_shuffle 113 = .ok (.aload_n 0, 1) := by decide +kernel
theorem dX1_shuffle_114 : decode cX1_shuffle 114 = .ok (.iload_n 2, 1) := by decide +kernel
theorem dX1_shuffle_115 : decode cX1_shuffle 115 = .ok (.invokevirtual 211, 3) := by decide +kernel
theorem dX1_shuffle_118 : decode cX1_shuffle 118 = .ok (.goto 57, 3) := by decide +kernel
theorem dX1_shuffle_121 : decode cX1_shuffle 121 = .ok (.aload_n 0, 1) := by decide +kernel
theorem dX1_shuffle_122 : decode cX1_shuffle 122 = .ok (.iload_n 2, 1) := by decide +kernel
theorem dX1_shuffle_123 : decode cX1_shuffle 123 = .ok (.invokevirtual 211, 3) := by decide +kernel
theorem dX1_shuffle_126 : decode cX1_shuffle 126 = .ok (.aload_n 0, 1) := by decide +kernel
theorem dX1_shuffle_127 : decode cX1_shuffle 127 = .ok (.iload_n 3, 1) := by decide +kernel
theorem dX1_shuffle_128 : decode cX1_shuffle 128 = .ok (.invokevirtual 211, 3) := by decide +kernel
theorem dX1_shuffle_131 : decode cX1_shuffle 131 = .ok (.aload_n 0, 1) := by decide +kernel
theorem dX1_shuffle_132 : decode cX1_shuffle 132 = .ok (.iload_n 2, 1) := by decide +kernel
theorem dX1_shuffle_133 : decode cX1_shuffle 133 = .ok (.invokevirtual 211, 3) := by decide +kernel
theorem dX1_shuffle_136 : decode cX1_shuffle 136 = .ok (.goto 39, 3) := by decide +kernel
theorem dX1_shuffle_139 : decode cX1_shuffle 139 = .ok (.aload_n 0, 1) := by decide +kernel
theorem dX1_shuffle_140 : decode cX1_shuffle 140 = .ok (.iload_n 3, 1) := by decide +kernel
theorem dX1_shuffle_141 : decode cX1_shuffle 141 = .ok (.invokevirtual 211, 3) := by decide +kernel
theorem dX1_shuffle_144 : decode cX1_shuffle 144 = .ok (.aload_n 0, 1) := by decide +kernel
theorem dX1_shuffle_145 : decode cX1_shuffle 145 = .ok (.iload_n 2, 1) := by decide +kernel
theorem dX1_shuffle_146 : decode cX1_shuffle 146 = .ok (.invokevirtual 211, 3) := by decide +kernel
theorem dX1_shuffle_149 : decode cX1_shuffle 149 = .ok (.aload_n 0, 1) := by decide +kernel
theorem dX1_shuffle_150 : decode cX1_shuffle 150 = .ok (.iload_n 3, 1) := by decide +kernel
theorem dX1_shuffle_151 : decode cX1_shuffle 151 = .ok (.invokevirtual 211, 3) := by decide +kernel
theorem dX1_shuffle_154 : decode cX1_shuffle 154 = .ok (.aload_n 0, 1) := by decide +kernel
theorem dX1_shuffle_155 : decode cX1_shuffle 155 = .ok (.iload_n 2, 1) := by decide +kernel
theorem dX1_shuffle_156 : decode cX1_shuffle 156 = .ok (.invokevirtual 211, 3) := by decide +kernel
theorem dX1_shuffle_159 : decode cX1_shuffle 159 = .ok (.goto 16, 3) := by decide +kernel
theorem dX1_shuffle_162 : decode cX1_shuffle 162 = .ok (.aload_n 0, 1) := by decide +kernel
theorem dX1_shuffle_163 : decode cX1_shuffle 163 = .ok (.iload_n 2, 1) := by decide +kernel
theorem dX1_shuffle_164 : decode cX1_shuffle 164 = .ok (.invokevirtual 211, 3) := by decide +kernel
theorem dX1_shuffle_167 : decode cX1_shuffle 167 = .ok (.aload_n 0, 1) := by decide +kernel
theorem dX1_shuffle_168 : decode cX1_shuffle 168 = .ok (.iload_n 3, 1) := by decide +kernel
theorem dX1_shuffle_169 : decode cX1_shuffle 169 = .ok (.invokevirtual 211, 3) := by decide +kernel
theorem dX1_shuffle_172 : decode cX1_shuffle 172 = .ok (.goto 3, 3) := by decide +kernel
theorem dX1_shuffle_175 : decode cX1_shuffle 175 = .ok (.return_, 1) := by decide +kernel
theorem dX1_store_0 : decode cX1_store 0 = .ok (.iload_n 1, 1) := by decide +kernel
theorem dX1_store_1 : decode cX1_store 1 = .ok (.invokestatic 216, 3) := by decide +kernel
theorem dX1_store_4 : decode cX1_store 4 = .ok (.istore_n 3, 1) := by decide +kernel
theorem dX1_store_5 : decode cX1_store 5 = .ok (.aload_n 0, 1) := by decide +kernel
theorem dX1_store_6 : decode cX1_store 6 = .ok (.iload_n 3, 1) := by decide +kernel
theorem dX1_store_7 : decode cX1_store 7 = .ok (.invokevirtual 189, 3) := by decide +kernel
theorem dX1_store_10 : decode cX1_store 10 = .ok (.istore 4, 2) := by decide +kernel
theorem dX1_store_12 : decode cX1_store 12 = .ok (.iload_n 2, 1) := by decide +kernel
theorem dX1_store_13 : decode cX1_store 13 = .ok (.iload_n 1, 1) := by decide +kernel
theorem dX1_store_14 : decode cX1_store 14 = .ok (.invokestatic 218, 3) := by decide +kernel
theorem dX1_store_17 : decode cX1_store 17 = .ok (.iadd, 1) := by decide +kernel
theorem dX1_store_18 : decode cX1_store 18 = .ok (.istore 5, 2) := by decide +kernel
theorem dX1_store_20 : decode cX1_store 20 = .ok (.iload_n 2, 1) := by decide +kernel
theorem dX1_store_21 : decode cX1_store 21 = .ok (.ifCond .le 22, 3) := by decide +kernel
theorem dX1_store_24 : decode cX1_store 24 = .ok (.aload_n 0, 1) := by decide +kernel
theorem dX1_store_25 : decode cX1_store 25 = .ok (.iload_n 2, 1) := by decide +kernel
theorem dX1_store_26 : decode cX1_store 26 = .ok (.iconst 1, 1) := by decide +kernel
theorem dX1_store_27 : decode cX1_store 27 = .ok (.isub, 1) := by decide +kernel
theorem dX1_store_28 : decode cX1_store 28 = .ok (.invokevirtual 182, 3) := by decide +kernel
theorem dX1_store_31 : decode cX1_store 31 = .ok (.iconst 2, 1) := by decide +kernel
theorem dX1_store_32 : decode cX1_store 32 = .ok (.if_icmp .ne 11, 3) := by decide +kernel
theorem dX1_store_35 : decode cX1_store 35 = .ok (.aload_n 0, 1) := by decide +kernel
theorem dX1_store_36 : decode cX1_store 36 = .ok (.iload_n 2, 1) := by decide +kernel
theorem dX1_store_37 : decode cX1_store 37 = .ok (.iconst 1, 1) := by decide +kernel
theorem dX1_store_38 : decode cX1_store 38 = .ok (.isub, 1) := by decide +kernel
theorem dX1_store_39 : decode cX1_store 39 = .ok (.iconst 0, 1) := by decide +kernel
theorem dX1_store_40 : decode cX1_store 40 = .ok (.invokevirtual 99, 3) := by decide +kernel
theorem dX1_store_43 : decode cX1_store 43 = .ok (.iload 5, 2) := by decide +kernel
theorem dX1_store_45 : decode cX1_store 45 = .ok (.bipush 24, 2) := by decide +kernel
theorem dX1_store_47 : decode cX1_store 47 = .ok (.if_icmp .ge 20, 3) := by decide +kernel
theorem dX1_store_50 : decode cX1_store 50 = .ok (.aload_n 0, 1) := by decide +kernel
theorem dX1_store_51 : decode cX1_store 51 = .ok (.iload 5, 2) := by decide +kernel
theorem dX1_store_53 : decode cX1_store 53 = .ok (.invokevirtual 182, 3) := by decide +kernel
theorem dX1_store_56 : decode cX1_store 56 = .ok (.iconst 3, 1) := by decide +kernel
theorem dX1_store_57 : decode cX1_store 57 = .ok (.if_icmp .ne 10, 3) := by decide +kernel
theorem dX1_store_60 : decode cX1_store 60 = .ok (.aload_n 0, 1) := by decide +kernel
theorem dX1_store_61 : decode cX1_store 61 = .ok (.iload 5, 2) := by decide +kernel
theorem dX1_store_63 : decode cX1_store 63 = .ok (.iconst 0, 1) := by decide +kernel
theorem dX1_store_64 : decode cX1_store 64 = .ok (.invokevirtual 99, 3) := by decide +kernel
theorem dX1_store_67 : decode cX1_store 67 = .ok (.iload_n 1, 1) := by decide +kernel
theorem dX1_store_68 : decode cX1_store 68 = .ok (.bipush 58, 2) := by decide +kernel
theorem dX1_store_70 : decode cX1_store 70 = .ok (.if_icmp .ne 23, 3) := by decide +kernel
theorem dX1_store_73 : decode cX1_store 73 = .ok (.aload_n 0, 1) := by decide +kernel
theorem dX1_store_74 : decode cX1_store 74 = .ok (.iload_n 2, 1) := by decide +kernel
theorem dX1_store_75 : decode cX1_store 75 = .ok (.iload 4, 2) := by decide +kernel
theorem dX1_store_77 : decode cX1_store 77 = .ok (.invokestatic 205, 3) := by decide +kernel
theorem dX1_store_80 : decode cX1_store 80 = .ok (.ifCond .eq 8, 3) := by decide +kernel
theorem dX1_store_83 : decode cX1_store 83 = .ok (.iload 4, 2) := by decide +kernel
theorem dX1_store_85 : decode cX1_store 85 = .ok (.goto 4, 3) := by decide +kernel
theorem dX1_store_88 : decode cX1_store 88 = .ok (.iconst 0, 1) := by decide +kernel
theorem dX1_store_89 : decode cX1_store 89 = .ok (.invokevirtual 99, 3) := by decide +kernel
theorem dX1_store_92 : decode cX1_store 92 = .ok (.return_, 1) := by decide +kernel
theorem dX1_store_93 : decode cX1_store 93 = .ok (.aload_n 0, 1) := by decide +kernel
theorem dX1_store_94 : decode cX1_store 94 = .ok (.iload_n 2, 1) := by decide +kernel
theorem dX1_store_95 : decode cX1_store 95 = .ok (.iload_n 3, 1) := by decide +kernel
theorem dX1_store_96 : decode cX1_store 96 = .ok (.invokestatic 96, 3) := by decide +kernel
theorem dX1_store_99 : decode cX1_store 99 = .ok (.invokevirtual 99, 3) := by decide +kernel
theorem dX1_store_102 : decode cX1_store 102 = .ok (.iload_n 1, 1) := by decide +kernel
theorem dX1_store_103 : decode cX1_store 103 = .ok (.bipush 55, 2) := by decide +kernel
theorem dX1_store_105 : decode cX1_store 105 = .ok (.if_icmp .ne 11, 3) := by decide +kernel
theorem dX1_store_108 : decode cX1_store 108 = .ok (.aload_n 0, 1) := by decide +kernel
theorem dX1_store_109 : decode cX1_store 109 = .ok (.iload_n 2, 1) := by decide +kernel
theorem dX1_store_110 : decode cX1_store 110 = .ok (.iconst 1, 1) := by decide +kernel
theorem dX1_store_111 : decode cX1_store 111 = .ok (.iadd, 1) := by decide +kernel
theorem dX1_store_112 : decode cX1_store 112 = .ok (.iconst 3, 1) := by decide +kernel

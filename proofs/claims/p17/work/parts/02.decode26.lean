theorem dX1_makeRoom_61 : decode cX1_makeRoom 61 = .ok (.bastore, 1) := by decide +kernel
theorem dX1_makeRoom_62 : decode cX1_makeRoom 62 = .ok (.iinc 2 1, 3) := by decide +kernel
theorem dX1_makeRoom_65 : decode cX1_makeRoom 65 = .ok (.goto (-26), 3) := by decide +kernel
theorem dX1_makeRoom_68 : decode cX1_makeRoom 68 = .ok (.return_, 1) := by decide +kernel
theorem dX1_placeAt_0 : decode cX1_placeAt 0 = .ok (.iload_n 1, 1) := by decide +kernel
theorem dX1_placeAt_1 : decode cX1_placeAt 1 = .ok (.ifCond .lt 9, 3) := by decide +kernel
theorem dX1_placeAt_4 : decode cX1_placeAt 4 = .ok (.iload_n 1, 1) := by decide +kernel
theorem dX1_placeAt_5 : decode cX1_placeAt 5 = .ok (.bipush 48, 2) := by decide +kernel
theorem dX1_placeAt_7 : decode cX1_placeAt 7 = .ok (.if_icmp .lt 7, 3) := by decide +kernel
theorem dX1_placeAt_10 : decode cX1_placeAt 10 = .ok (.iconst 0, 1) := by decide +kernel
theorem dX1_placeAt_11 : decode cX1_placeAt 11 = .ok (.goto 9, 3) := by decide +kernel
theorem dX1_placeAt_14 : decode cX1_placeAt 14 = .ok (.aload_n 0, 1) := by decide +kernel
theorem dX1_placeAt_15 : decode cX1_placeAt 15 = .ok (.getfield 29, 3) := by decide +kernel
theorem dX1_placeAt_18 : decode cX1_placeAt 18 = .ok (.iload_n 1, 1) := by decide +kernel
theorem dX1_placeAt_19 : decode cX1_placeAt 19 = .ok (.baload, 1) := by decide +kernel
theorem dX1_placeAt_20 : decode cX1_placeAt 20 = .ok (.ireturn, 1) := by decide +kernel
theorem dX1_pop_0 : decode cX1_pop 0 = .ok (.aload_n 0, 1) := by decide +kernel
theorem dX1_pop_1 : decode cX1_pop 1 = .ok (.getfield 103, 3) := by decide +kernel
theorem dX1_pop_4 : decode cX1_pop 4 = .ok (.iconst 1, 1) := by decide +kernel
theorem dX1_pop_5 : decode cX1_pop 5 = .ok (.if_icmp .lt 12, 3) := by decide +kernel
theorem dX1_pop_8 : decode cX1_pop 8 = .ok (.aload_n 0, 1) := by decide +kernel
theorem dX1_pop_9 : decode cX1_pop 9 = .ok (.getfield 103, 3) := by decide +kernel
theorem dX1_pop_12 : decode cX1_pop 12 = .ok (.bipush 24, 2) := by decide +kernel
theorem dX1_pop_14 : decode cX1_pop 14 = .ok (.if_icmp .le 5, 3) := by decide +kernel
theorem dX1_pop_17 : decode cX1_pop 17 = .ok (.iconst 0, 1) := by decide +kernel
theorem dX1_pop_18 : decode cX1_pop 18 = .ok (.ireturn, 1) := by decide +kernel
theorem dX1_pop_19 : decode cX1_pop 19 = .ok (.aload_n 0, 1) := by decide +kernel
theorem dX1_pop_20 : decode cX1_pop 20 = .ok (.dup, 1) := by decide +kernel
theorem dX1_pop_21 : decode cX1_pop 21 = .ok (.getfield 103, 3) := by decide +kernel
theorem dX1_pop_24 : decode cX1_pop 24 = .ok (.iconst 1, 1) := by decide +kernel
theorem dX1_pop_25 : decode cX1_pop 25 = .ok (.isub, 1) := by decide +kernel
theorem dX1_pop_26 : decode cX1_pop 26 = .ok (.putfield 103, 3) := by decide +kernel
theorem dX1_pop_29 : decode cX1_pop 29 = .ok (.aload_n 0, 1) := by decide +kernel
theorem dX1_pop_30 : decode cX1_pop 30 = .ok (.getfield 29, 3) := by decide +kernel
theorem dX1_pop_33 : decode cX1_pop 33 = .ok (.bipush 24, 2) := by decide +kernel
theorem dX1_pop_35 : decode cX1_pop 35 = .ok (.aload_n 0, 1) := by decide +kernel
theorem dX1_pop_36 : decode cX1_pop 36 = .ok (.getfield 103, 3) := by decide +kernel
theorem dX1_pop_39 : decode cX1_pop 39 = .ok (.iadd, 1) := by decide +kernel
theorem dX1_pop_40 : decode cX1_pop 40 = .ok (.baload, 1) := by decide +kernel
theorem dX1_pop_41 : decode cX1_pop 41 = .ok (.ireturn, 1) := by decide +kernel
theorem dX1_push_0 : decode cX1_push 0 = .ok (.aload_n 0, 1) := by decide +kernel
theorem dX1_push_1 : decode cX1_push 1 = .ok (.getfield 103, 3) := by decide +kernel
theorem dX1_push_4 : decode cX1_push 4 = .ok (.ifCond .lt 36, 3) := by decide +kernel
theorem dX1_push_7 : decode cX1_push 7 = .ok (.aload_n 0, 1) := by decide +kernel
theorem dX1_push_8 : decode cX1_push 8 = .ok (.getfield 103, 3) := by decide +kernel
theorem dX1_push_11 : decode cX1_push 11 = .ok (.bipush 24, 2) := by decide +kernel
theorem dX1_push_13 : decode cX1_push 13 = .ok (.if_icmp .ge 27, 3) := by decide +kernel
theorem dX1_push_16 : decode cX1_push 16 = .ok (.aload_n 0, 1) := by decide +kernel
theorem dX1_push_17 : decode cX1_push 17 = .ok (.getfield 29, 3) := by decide +kernel
theorem dX1_push_20 : decode cX1_push 20 = .ok (.bipush 24, 2) := by decide +kernel
theorem dX1_push_22 : decode cX1_push 22 = .ok (.aload_n 0, 1) := by decide +kernel
theorem dX1_push_23 : decode cX1_push 23 = .ok (.getfield 103, 3) := by decide +kernel
theorem dX1_push_26 : decode cX1_push 26 = .ok (.iadd, 1) := by decide +kernel
theorem dX1_push_27 : decode cX1_push 27 = .ok (.iload_n 1, 1) := by decide +kernel
theorem dX1_push_28 : decode cX1_push 28 = .ok (.i2b, 1) := by decide +kernel
theorem dX1_push_29 : decode cX1_push 29 = .ok (.bastore, 1) := by decide +kernel
theorem dX1_push_30 : decode cX1_push 30 = .ok (.aload_n 0, 1) := by decide +kernel
theorem dX1_push_31 : decode cX1_push 31 = .ok (.dup, 1) := by decide +kernel
theorem dX1_push_32 : decode cX1_push 32 = .ok (.getfield 103, 3) := by decide +kernel
theorem dX1_push_35 : decode cX1_push 35 = .ok (.iconst 1, 1) := by decide +kernel
theorem dX1_push_36 : decode cX1_push 36 = .ok (.iadd, 1) := by decide +kernel
theorem dX1_push_37 : decode cX1_push 37 = .ok (.putfield 103, 3) := by decide +kernel
theorem dX1_push_40 : decode cX1_push 40 = .ok (.return_, 1) := by decide +kernel
theorem dX1_setPlace_0 : decode cX1_setPlace 0 = .ok (.iload_n 1, 1) := by decide +kernel
theorem dX1_setPlace_1 : decode cX1_setPlace 1 = .ok (.ifCond .lt 17, 3) := by decide +kernel
theorem dX1_setPlace_4 : decode cX1_setPlace 4 = .ok (.iload_n 1, 1) := by decide +kernel
theorem dX1_setPlace_5 : decode cX1_setPlace 5 = .ok (.bipush 48, 2) := by decide +kernel
theorem dX1_setPlace_7 : decode cX1_setPlace 7 = .ok (.if_icmp .ge 11, 3) := by decide +kernel
theorem dX1_setPlace_10 : decode cX1_setPlace 10 = .ok (.aload_n 0, 1) := by decide +kernel
theorem dX1_setPlace_11 : decode cX1_setPlace 11 = .ok (.getfield 29, 3) := by decide +kernel
theorem dX1_setPlace_14 : decode cX1_setPlace 14 = .ok (.iload_n 1, 1) := by decide +kernel
theorem dX1_setPlace_15 : decode cX1_setPlace 15 = .ok (.iload_n 2, 1) := by decide +kernel
theorem dX1_setPlace_16 : decode cX1_setPlace 16 = .ok (.i2b, 1) := by decide +kernel
theorem dX1_setPlace_17 : decode cX1_setPlace 17 = .ok (.bastore, 1) := by decide +kernel
theorem dX1_setPlace_18 : decode cX1_setPlace 18 = .ok (.return_, 1) := by decide +kernel
theorem dX1_shuffle_0 : decode cX1_shuffle 0 = .ok (.iload_n 1, 1) := by decide +kernel
theorem dX1_shuffle_1 : decode cX1_shuffle 1 = .ok (.bipush 88, 2) := by decide +kernel
theorem dX1_shuffle_3 : decode cX1_shuffle 3 = .ok (.if_icmp .eq 9, 3) := by decide +kernel
theorem dX1_shuffle_6 : decode cX1_shuffle 6 = .ok (.iload_n 1, 1) := by decide +kernel
theorem dX1_shuffle_7 : decode cX1_shuffle 7 = .ok (.bipush 92, 2) := by decide +kernel
theorem dX1_shuffle_9 : decode cX1_shuffle 9 = .ok (.if_icmp .ne 31, 3) := by decide +kernel
theorem dX1_shuffle_12 : decode cX1_shuffle 12 = .ok (.aload_n 0, 1) := by decide +kernel
theorem dX1_shuffle_13 : decode cX1_shuffle 13 = .ok (.invokevirtual 221, 3) := by decide +kernel
theorem dX1_shuffle_16 : decode cX1_shuffle 16 = .ok (.ifCond .eq 24, 3) := by decide +kernel
theorem dX1_shuffle_19 : decode cX1_shuffle 19 = .ok (.iload_n 1, 1) := by decide +kernel
theorem dX1_shuffle_20 : decode cX1_shuffle 20 = .ok (.bipush 88, 2) := by decide +kernel
theorem dX1_shuffle_22 : decode cX1_shuffle 22 = .ok (.if_icmp .ne 12, 3) := by decide +kernel
theorem dX1_shuffle_25 : decode cX1_shuffle 25 = .ok (.aload_n 0, 1) := by decide +kernel
theorem dX1_shuffle_26 : decode cX1_shuffle 26 = .ok (.iconst 2, 1) := by decide +kernel
theorem dX1_shuffle_27 : decode cX1_shuffle 27 = .ok (.invokevirtual 189, 3) := by decide +kernel
theorem dX1_shuffle_30 : decode cX1_shuffle 30 = .ok (.pop, 1) := by decide +kernel
theorem dX1_shuffle_31 : decode cX1_shuffle 31 = .ok (.goto 8, 3) := by decide +kernel
theorem dX1_shuffle_34 : decode cX1_shuffle 34 = .ok (.aload_n 0, 1) := by decide +kernel
theorem dX1_shuffle_35 : decode cX1_shuffle 35 = .ok (.iconst 2, 1) := by decide +kernel
theorem dX1_shuffle_36 : decode cX1_shuffle 36 = .ok (.invokevirtual 195, 3) := by decide +kernel
theorem dX1_shuffle_39 : decode cX1_shuffle 39 = .ok (.return_, 1) := by decide +kernel
theorem dX1_shuffle_40 : decode cX1_shuffle 40 = .ok (.aload_n 0, 1) := by decide +kernel
theorem dX1_shuffle_41 : decode cX1_shuffle 41 = .ok (.invokevirtual 225, 3) := by decide +kernel
theorem dX1_shuffle_44 : decode cX1_shuffle 44 = .ok (.istore_n 2, 1) := by decide +kernel
theorem dX1_shuffle_45 : decode cX1_shuffle 45 = .ok (.iload_n 1, 1) := by decide +kernel
theorem dX1_shuffle_46 : decode cX1_shuffle 46 = .ok (.bipush 87, 2) := by decide +kernel
theorem dX1_shuffle_48 : decode cX1_shuffle 48 = .ok (.if_icmp .eq 9, 3) := by decide +kernel
theorem dX1_shuffle_51 : decode cX1_shuffle 51 = .ok (.iload_n 1, 1) := by decide +kernel
theorem dX1_shuffle_52 : decode cX1_shuffle 52 = .ok (.bipush 89, 2) := by decide +kernel
theorem dX1_shuffle_54 : decode cX1_shuffle 54 = .ok (.if_icmp .ne 7, 3) := by decide +kernel
theorem dX1_shuffle_57 : decode cX1_shuffle 57 = .ok (.iconst 0, 1) := by decide +kernel
theorem dX1_shuffle_58 : decode cX1_shuffle 58 = .ok (.goto 7, 3) := by decide +kernel
theorem dX1_shuffle_61 : decode cX1_shuffle 61 = .ok (.aload_n 0, 1) := by decide +kernel
theorem dX1_shuffle_62 : decode cX1_shuffle 62 = .ok (.invokevirtual 225, 3) := by decide +kernel
theorem dX1_shuffle_65 : decode cX1_shuffle 65 = .ok (.istore_n 3, 1) := by decide +kernel
theorem dX1_shuffle_66 : decode cX1_shuffle 66 = .ok (.iload_n 1, 1) := by decide +kernel
theorem dX1_shuffle_67 : decode cX1_shuffle 67 = .ok (.tableswitch 108 89 95 #[41, 54, 108, 72, 108, 108, 95], 41) := by decide +kernel
theorem dX1_shuffle_108 : decode cX1_shuffle 108 = .ok (.aload_n 0, 1) := by decide +kernel
theorem dX1_shuffle_109 : decode cX1_shuffle 109 = .ok (.iload_n 2, 1) := by decide +kernel
theorem dX1_shuffle_110 : decode cX1_shuffle 110 = .ok (.invokevirtual 211, 3) := by decide +kernel
theorem dX1_shuffle_113 : decode cX1_shuffle 113 = .ok (.aload_n 0, 1) := by decide +kernel
theorem dX1_shuffle_114 : decode cX1_shuffle 114 = .ok (.iload_n 2, 1) := by decide +kernel
theorem dX1_shuffle_115 : decode cX1_shuffle 115 = .ok (.invokevirtual 211, 3) := by decide +kernel
theorem dX1_shuffle_118 : decode cX1_shuffle 118 = .ok (.goto 57, 3) := by decide +kernel
theorem dX1_shuffle_121 : decode cX1_shuffle 121 = .ok (.aload_n 0, 1) := by decide +kernel
theorem dX1_shuffle_122 : decode cX1_shuffle 122 = .ok (.iload_n 2, 1) := by decide +kernel
theorem dX1_shuffle_123 : decode cX1_shuffle 123 = .ok (.invokevirtual 211, 3) := by decide +kernel
theorem dX1_shuffle_126 : decode cX1_shuffle 126 = .ok (.aload_n 0, 1) := by decide +kernel
theorem dX1_shuffle_127 : decode cX1_shuffle 127 = .ok (.iload_n 3, 1) := by decide +kernel
theorem dX1_shuffle_128 : decode cX1_shuffle 128 = .ok (.invokevirtual 211, 3) := by decide +kernel
theorem dX1_shuffle_131 : decode cX1_shuffle 131 = .ok (.aload_n 0, 1) := by decide +kernel
theorem dX1_shuffle_132 : decode cX1_shuffle 132 = .ok (.iload_n 2, 1) := by decide +kernel
theorem dX1_shuffle_133 : decode cX1_shuffle 133 = .ok (.invokevirtual 211, 3) := by decide +kernel
theorem dX1_shuffle_136 : decode cX1_shuffle 136 = .ok (.goto 39, 3) := by decide +kernel
theorem dX1_shuffle_139 : decode cX1_shuffle 139 = .ok (.aload_n 0, 1) := by decide +kernel
theorem dX1_shuffle_140 : decode cX1_shuffle 140 = .ok (.iload_n 3, 1) := by decide +kernel
theorem dX1_shuffle_141 : decode cX1_shuffle 141 = .ok (.invokevirtual 211, 3) := by decide +kernel
theorem dX1_shuffle_144 : decode cX1_shuffle 144 = .ok (.aload_n 0, 1) := by decide +kernel
theorem dX1_shuffle_145 : decode cX1_shuffle 145 = .ok (.iload_n 2, 1) := by decide +kernel
theorem dX1_shuffle_146 : decode cX1_shuffle 146 = .ok (.invokevirtual 211, 3) := by decide +kernel
theorem dX1_shuffle_149 : decode cX1_shuffle 149 = .ok (.aload_n 0, 1) := by decide +kernel
theorem dX1_shuffle_150 : decode cX1_shuffle 150 = .ok (.iload_n 3, 1) := by decide +kernel
theorem dX1_shuffle_151 : decode cX1_shuffle 151 = .ok (.invokevirtual 211, 3) := by decide +kernel
theorem dX1_shuffle_154 : decode cX1_shuffle 154 = .ok (.aload_n 0, 1) := by decide +kernel
theorem dX1_shuffle_155 : decode cX1_shuffle 155 = .ok (.iload_n 2, 1) := by decide +kernel
theorem dX1_shuffle_156 : decode cX1_shuffle 156 = .ok (.invokevirtual 211, 3) := by decide +kernel
theorem dX1_shuffle_159 : decode cX1_shuffle 159 = .ok (.goto 16, 3) := by decide +kernel
theorem dX1_shuffle_162 : decode cX1_shuffle 162 = .ok (.aload_n 0, 1) := by decide +kernel
theorem dX1_shuffle_163 : decode cX1_shuffle 163 = .ok (.iload_n 2, 1) := by decide +kernel
theorem dX1_shuffle_164 : decode cX1_shuffle 164 = .ok (.invokevirtual 211, 3) := by decide +kernel
theorem dX1_shuffle_167 : decode cX1_shuffle 167 = .ok (.aload_n 0, 1) := by decide +kernel
theorem dX1_shuffle_168 : decode cX1_shuffle 168 = .ok (.iload_n 3, 1) := by decide +kernel
theorem dX1_shuffle_169 : decode cX1_shuffle 169 = .ok (.invokevirtual 211, 3) := by decide +kernel
theorem dX1_shuffle_172 : decode cX1_shuffle 172 = .ok (.goto 3, 3) := by decide +kernel
theorem dX1_shuffle_175 : decode cX1_shuffle 175 = .ok (.return_, 1) := by decide +kernel

theorem dX2_rowOf_94 : decode cX2_rowOf 94 = .ok (.imul, 1) := by decide +kernel
theorem dX2_rowOf_95 : decode cX2_rowOf 95 = .ok (.iadd, 1) := by decide +kernel
theorem dX2_rowOf_96 : decode cX2_rowOf 96 = .ok (.istore 4, 2) := by decide +kernel
theorem dX2_rowOf_98 : decode cX2_rowOf 98 = .ok (.aload_n 2, 1) := by decide +kernel
theorem dX2_rowOf_99 : decode cX2_rowOf 99 = .ok (.aload_n 0, 1) := by decide +kernel
theorem dX2_rowOf_100 : decode cX2_rowOf 100 = .ok (.aload_n 0, 1) := by decide +kernel
theorem dX2_rowOf_101 : decode cX2_rowOf 101 = .ok (.getfield 12, 3) := by decide +kernel
theorem dX2_rowOf_104 : decode cX2_rowOf 104 = .ok (.iload 4, 2) := by decide +kernel
theorem dX2_rowOf_106 : decode cX2_rowOf 106 = .ok (.invokevirtual 90, 3) := by decide +kernel
theorem dX2_rowOf_109 : decode cX2_rowOf 109 = .ok (.i2l, 1) := by decide +kernel
theorem dX2_rowOf_110 : decode cX2_rowOf 110 = .ok (.invokevirtual 217, 3) := by decide +kernel
theorem dX2_rowOf_113 : decode cX2_rowOf 113 = .ok (.aload_n 0, 1) := by decide +kernel
theorem dX2_rowOf_114 : decode cX2_rowOf 114 = .ok (.aload_n 0, 1) := by decide +kernel
theorem dX2_rowOf_115 : decode cX2_rowOf 115 = .ok (.getfield 12, 3) := by decide +kernel
theorem dX2_rowOf_118 : decode cX2_rowOf 118 = .ok (.iload 4, 2) := by decide +kernel
theorem dX2_rowOf_120 : decode cX2_rowOf 120 = .ok (.iconst 2, 1) := by decide +kernel
theorem dX2_rowOf_121 : decode cX2_rowOf 121 = .ok (.iadd, 1) := by decide +kernel
theorem dX2_rowOf_122 : decode cX2_rowOf 122 = .ok (.invokevirtual 90, 3) := by decide +kernel
theorem dX2_rowOf_125 : decode cX2_rowOf 125 = .ok (.i2l, 1) := by decide +kernel
theorem dX2_rowOf_126 : decode cX2_rowOf 126 = .ok (.invokevirtual 217, 3) := by decide +kernel
theorem dX2_rowOf_129 : decode cX2_rowOf 129 = .ok (.aload_n 0, 1) := by decide +kernel
theorem dX2_rowOf_130 : decode cX2_rowOf 130 = .ok (.aload_n 0, 1) := by decide +kernel
theorem dX2_rowOf_131 : decode cX2_rowOf 131 = .ok (.getfield 12, 3) := by decide +kernel
theorem dX2_rowOf_134 : decode cX2_rowOf 134 = .ok (.iload 4, 2) := by decide +kernel
theorem dX2_rowOf_136 : decode cX2_rowOf 136 = .ok (.iconst 4, 1) := by decide +kernel
theorem dX2_rowOf_137 : decode cX2_rowOf 137 = .ok (.iadd, 1) := by decide +kernel
theorem dX2_rowOf_138 : decode cX2_rowOf 138 = .ok (.invokevirtual 90, 3) := by decide +kernel
theorem dX2_rowOf_141 : decode cX2_rowOf 141 = .ok (.i2l, 1) := by decide +kernel
theorem dX2_rowOf_142 : decode cX2_rowOf 142 = .ok (.invokevirtual 217, 3) := by decide +kernel
theorem dX2_rowOf_145 : decode cX2_rowOf 145 = .ok (.aload_n 0, 1) := by decide +kernel
theorem dX2_rowOf_146 : decode cX2_rowOf 146 = .ok (.aload_n 0, 1) := by decide +kernel
theorem dX2_rowOf_147 : decode cX2_rowOf 147 = .ok (.getfield 12, 3) := by decide +kernel
theorem dX2_rowOf_150 : decode cX2_rowOf 150 = .ok (.iload 4, 2) := by decide +kernel
theorem dX2_rowOf_152 : decode cX2_rowOf 152 = .ok (.bipush 6, 2) := by decide +kernel
theorem dX2_rowOf_154 : decode cX2_rowOf 154 = .ok (.iadd, 1) := by decide +kernel
theorem dX2_rowOf_155 : decode cX2_rowOf 155 = .ok (.invokevirtual 90, 3) := by decide +kernel
theorem dX2_rowOf_158 : decode cX2_rowOf 158 = .ok (.invokevirtual 244, 3) := by decide +kernel
theorem dX2_rowOf_161 : decode cX2_rowOf 161 = .ok (.invokevirtual 342, 3) := by decide +kernel
theorem dX2_rowOf_164 : decode cX2_rowOf 164 = .ok (.iinc 3 1, 3) := by decide +kernel
theorem dX2_rowOf_167 : decode cX2_rowOf 167 = .ok (.goto (-88), 3) := by decide +kernel
theorem dX2_rowOf_170 : decode cX2_rowOf 170 = .ok (.aload_n 2, 1) := by decide +kernel
theorem dX2_rowOf_171 : decode cX2_rowOf 171 = .ok (.areturn, 1) := by decide +kernel
theorem dX2_s4_0 : decode cX2_s4 0 = .ok (.iload_n 1, 1) := by decide +kernel
theorem dX2_s4_1 : decode cX2_s4 1 = .ok (.ifCond .lt 13, 3) := by decide +kernel
theorem dX2_s4_4 : decode cX2_s4 4 = .ok (.iload_n 1, 1) := by decide +kernel
theorem dX2_s4_5 : decode cX2_s4 5 = .ok (.aload_n 0, 1) := by decide +kernel
theorem dX2_s4_6 : decode cX2_s4 6 = .ok (.getfield 117, 3) := by decide +kernel
theorem dX2_s4_9 : decode cX2_s4 9 = .ok (.iconst 4, 1) := by decide +kernel
theorem dX2_s4_10 : decode cX2_s4 10 = .ok (.isub, 1) := by decide +kernel
theorem dX2_s4_11 : decode cX2_s4 11 = .ok (.if_icmp .le 7, 3) := by decide +kernel
theorem dX2_s4_14 : decode cX2_s4 14 = .ok (.iconst 0, 1) := by decide +kernel
theorem dX2_s4_15 : decode cX2_s4 15 = .ok (.goto 16, 3) := by decide +kernel
theorem dX2_s4_18 : decode cX2_s4 18 = .ok (.aload_n 0, 1) := by decide +kernel
theorem dX2_s4_19 : decode cX2_s4 19 = .ok (.getfield 12, 3) := by decide +kernel
theorem dX2_s4_22 : decode cX2_s4 22 = .ok (.aload_n 0, 1) := by decide +kernel
theorem dX2_s4_23 : decode cX2_s4 23 = .ok (.getfield 120, 3) := by decide +kernel
theorem dX2_s4_26 : decode cX2_s4 26 = .ok (.iload_n 1, 1) := by decide +kernel
theorem dX2_s4_27 : decode cX2_s4 27 = .ok (.iadd, 1) := by decide +kernel
theorem dX2_s4_28 : decode cX2_s4 28 = .ok (.invokevirtual 102, 3) := by decide +kernel
theorem dX2_s4_31 : decode cX2_s4 31 = .ok (.ireturn, 1) := by decide +kernel
theorem dX2_set_0 : decode cX2_set 0 = .ok (.aload_n 0, 1) := by decide +kernel
theorem dX2_set_1 : decode cX2_set 1 = .ok (.iload_n 1, 1) := by decide +kernel
theorem dX2_set_2 : decode cX2_set 2 = .ok (.putfield 169, 3) := by decide +kernel
theorem dX2_set_5 : decode cX2_set 5 = .ok (.aload_n 0, 1) := by decide +kernel
theorem dX2_set_6 : decode cX2_set 6 = .ok (.lload_n 2, 1) := by decide +kernel
theorem dX2_set_7 : decode cX2_set 7 = .ok (.putfield 172, 3) := by decide +kernel
theorem dX2_set_10 : decode cX2_set 10 = .ok (.return_, 1) := by decide +kernel
theorem dX2_switchCount_0 : decode cX2_switchCount 0 = .ok (.aload_n 0, 1) := by decide +kernel
theorem dX2_switchCount_1 : decode cX2_switchCount 1 = .ok (.getfield 169, 3) := by decide +kernel
theorem dX2_switchCount_4 : decode cX2_switchCount 4 = .ok (.sipush 170, 3) := by decide +kernel
theorem dX2_switchCount_7 : decode cX2_switchCount 7 = .ok (.if_icmp .ne 24, 3) := by decide +kernel
theorem dX2_switchCount_10 : decode cX2_switchCount 10 = .ok (.aload_n 0, 1) := by decide +kernel
theorem dX2_switchCount_11 : decode cX2_switchCount 11 = .ok (.iload_n 1, 1) := by decide +kernel
theorem dX2_switchCount_12 : decode cX2_switchCount 12 = .ok (.bipush 8, 2) := by decide +kernel
theorem dX2_switchCount_14 : decode cX2_switchCount 14 = .ok (.iadd, 1) := by decide +kernel
theorem dX2_switchCount_15 : decode cX2_switchCount 15 = .ok (.invokevirtual 163, 3) := by decide +kernel
theorem dX2_switchCount_18 : decode cX2_switchCount 18 = .ok (.aload_n 0, 1) := by decide +kernel
theorem dX2_switchCount_19 : decode cX2_switchCount 19 = .ok (.iload_n 1, 1) := by decide +kernel
theorem dX2_switchCount_20 : decode cX2_switchCount 20 = .ok (.iconst 4, 1) := by decide +kernel
theorem dX2_switchCount_21 : decode cX2_switchCount 21 = .ok (.iadd, 1) := by decide +kernel
theorem dX2_switchCount_22 : decode cX2_switchCount 22 = .ok (.invokevirtual 163, 3) := by decide +kernel
theorem dX2_switchCount_25 : decode cX2_switchCount 25 = .ok (.isub, 1) := by decide +kernel
theorem dX2_switchCount_26 : decode cX2_switchCount 26 = .ok (.iconst 1, 1) := by decide +kernel
theorem dX2_switchCount_27 : decode cX2_switchCount 27 = .ok (.iadd, 1) := by decide +kernel
theorem dX2_switchCount_28 : decode cX2_switchCount 28 = .ok (.goto 10, 3) := by decide +kernel
theorem dX2_switchCount_31 : decode cX2_switchCount 31 = .ok (.aload_n 0, 1) := by decide +kernel
theorem dX2_switchCount_32 : decode cX2_switchCount 32 = .ok (.iload_n 1, 1) := by decide +kernel
theorem dX2_switchCount_33 : decode cX2_switchCount 33 = .ok (.iconst 4, 1) := by decide +kernel
theorem dX2_switchCount_34 : decode cX2_switchCount 34 = .ok (.iadd, 1) := by decide +kernel
theorem dX2_switchCount_35 : decode cX2_switchCount 35 = .ok (.invokevirtual 163, 3) := by decide +kernel
theorem dX2_switchCount_38 : decode cX2_switchCount 38 = .ok (.ireturn, 1) := by decide +kernel
theorem dX2_switchTarget_0 : decode cX2_switchTarget 0 = .ok (.iload_n 2, 1) := by decide +kernel
theorem dX2_switchTarget_1 : decode cX2_switchTarget 1 = .ok (.ifCond .ge 16, 3) := by decide +kernel
theorem dX2_switchTarget_4 : decode cX2_switchTarget 4 = .ok (.aload_n 0, 1) := by decide +kernel
theorem dX2_switchTarget_5 : decode cX2_switchTarget 5 = .ok (.getfield 166, 3) := by decide +kernel
theorem dX2_switchTarget_8 : decode cX2_switchTarget 8 = .ok (.i2l, 1) := by decide +kernel
theorem dX2_switchTarget_9 : decode cX2_switchTarget 9 = .ok (.aload_n 0, 1) := by decide +kernel
theorem dX2_switchTarget_10 : decode cX2_switchTarget 10 = .ok (.iload_n 1, 1) := by decide +kernel
theorem dX2_switchTarget_11 : decode cX2_switchTarget 11 = .ok (.invokevirtual 163, 3) := by decide +kernel
theorem dX2_switchTarget_14 : decode cX2_switchTarget 14 = .ok (.i2l, 1) := by decide +kernel
theorem dX2_switchTarget_15 : decode cX2_switchTarget 15 = .ok (.ladd, 1) := by decide +kernel
theorem dX2_switchTarget_16 : decode cX2_switchTarget 16 = .ok (.lreturn, 1) := by decide +kernel
theorem dX2_switchTarget_17 : decode cX2_switchTarget 17 = .ok (.aload_n 0, 1) := by decide +kernel
theorem dX2_switchTarget_18 : decode cX2_switchTarget 18 = .ok (.getfield 166, 3) := by decide +kernel
theorem dX2_switchTarget_21 : decode cX2_switchTarget 21 = .ok (.i2l, 1) := by decide +kernel
theorem dX2_switchTarget_22 : decode cX2_switchTarget 22 = .ok (.aload_n 0, 1) := by decide +kernel
theorem dX2_switchTarget_23 : decode cX2_switchTarget 23 = .ok (.aload_n 0, 1) := by decide +kernel
theorem dX2_switchTarget_24 : decode cX2_switchTarget 24 = .ok (.getfield 169, 3) := by decide +kernel
theorem dX2_switchTarget_27 : decode cX2_switchTarget 27 = .ok (.sipush 170, 3) := by decide +kernel
theorem dX2_switchTarget_30 : decode cX2_switchTarget 30 = .ok (.if_icmp .ne 14, 3) := by decide +kernel
theorem dX2_switchTarget_33 : decode cX2_switchTarget 33 = .ok (.iload_n 1, 1) := by decide +kernel
theorem dX2_switchTarget_34 : decode cX2_switchTarget 34 = .ok (.bipush 12, 2) := by decide +kernel
theorem dX2_switchTarget_36 : decode cX2_switchTarget 36 = .ok (.iadd, 1) := by decide +kernel
theorem dX2_switchTarget_37 : decode cX2_switchTarget 37 = .ok (.iconst 4, 1) := by decide +kernel
theorem dX2_switchTarget_38 : decode cX2_switchTarget 38 = .ok (.iload_n 2, 1) := by decide +kernel
theorem dX2_switchTarget_39 : decode cX2_switchTarget 39 = .ok (.imul, 1) := by decide +kernel
theorem dX2_switchTarget_40 : decode cX2_switchTarget 40 = .ok (.iadd, 1) := by decide +kernel
theorem dX2_switchTarget_41 : decode cX2_switchTarget 41 = .ok (.goto 12, 3) := by decide +kernel
theorem dX2_switchTarget_44 : decode cX2_switchTarget 44 = .ok (.iload_n 1, 1) := by decide +kernel
theorem dX2_switchTarget_45 : decode cX2_switchTarget 45 = .ok (.bipush 12, 2) := by decide +kernel
theorem dX2_switchTarget_47 : decode cX2_switchTarget 47 = .ok (.iadd, 1) := by decide +kernel
theorem dX2_switchTarget_48 : decode cX2_switchTarget 48 = .ok (.bipush 8, 2) := by decide +kernel
theorem dX2_switchTarget_50 : decode cX2_switchTarget 50 = .ok (.iload_n 2, 1) := by decide +kernel
theorem dX2_switchTarget_51 : decode cX2_switchTarget 51 = .ok (.imul, 1) := by decide +kernel
theorem dX2_switchTarget_52 : decode cX2_switchTarget 52 = .ok (.iadd, 1) := by decide +kernel
theorem dX2_switchTarget_53 : decode cX2_switchTarget 53 = .ok (.invokevirtual 163, 3) := by decide +kernel
theorem dX2_switchTarget_56 : decode cX2_switchTarget 56 = .ok (.i2l, 1) := by decide +kernel
theorem dX2_switchTarget_57 : decode cX2_switchTarget 57 = .ok (.ladd, 1) := by decide +kernel
theorem dX2_switchTarget_58 : decode cX2_switchTarget 58 = .ok (.lreturn, 1) := by decide +kernel
theorem dX2_tableLength_0 : decode cX2_tableLength 0 = .ok (.iload_n 1, 1) := by decide +kernel
theorem dX2_tableLength_1 : decode cX2_tableLength 1 = .ok (.invokestatic 160, 3) := by decide +kernel
theorem dX2_tableLength_4 : decode cX2_tableLength 4 = .ok (.istore_n 2, 1) := by decide +kernel
theorem dX2_tableLength_5 : decode cX2_tableLength 5 = .ok (.aload_n 0, 1) := by decide +kernel
theorem dX2_tableLength_6 : decode cX2_tableLength 6 = .ok (.iload_n 2, 1) := by decide +kernel
theorem dX2_tableLength_7 : decode cX2_tableLength 7 = .ok (.bipush 8, 2) := by decide +kernel
theorem dX2_tableLength_9 : decode cX2_tableLength 9 = .ok (.iadd, 1) := by decide +kernel
theorem dX2_tableLength_10 : decode cX2_tableLength 10 = .ok (.invokevirtual 163, 3) := by decide +kernel
theorem dX2_tableLength_13 : decode cX2_tableLength 13 = .ok (.i2l, 1) := by decide +kernel
theorem dX2_tableLength_14 : decode cX2_tableLength 14 = .ok (.aload_n 0, 1) := by decide +kernel
theorem dX2_tableLength_15 : decode cX2_tableLength 15 = .ok (.iload_n 2, 1) := by decide +kernel
theorem dX2_tableLength_16 : decode cX2_tableLength 16 = .ok (.iconst 4, 1) := by decide +kernel
theorem dX2_tableLength_17 : decode cX2_tableLength 17 = .ok (.iadd, 1) := by decide +kernel
theorem dX2_tableLength_18 : decode cX2_tableLength 18 = .ok (.invokevirtual 163, 3) := by decide +kernel
theorem dX2_tableLength_21 : decode cX2_tableLength 21 = .ok (.i2l, 1) := by decide +kernel
theorem dX2_tableLength_22 : decode cX2_tableLength 22 = .ok (.lsub, 1) := by decide +kernel
theorem dX2_tableLength_23 : decode cX2_tableLength 23 = .ok (.lstore_n 3, 1) := by decide +kernel
theorem dX2_tableLength_24 : decode cX2_tableLength 24 = .ok (.iload_n 2, 1) := by decide +kernel
theorem dX2_tableLength_25 : decode cX2_tableLength 25 = .ok (.bipush 12, 2) := by decide +kernel
theorem dX2_tableLength_27 : decode cX2_tableLength 27 = .ok (.iadd, 1) := by decide +kernel
theorem dX2_tableLength_28 : decode cX2_tableLength 28 = .ok (.aload_n 0, 1) := by decide +kernel

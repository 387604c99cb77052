theorem dX7_typesHold_90 : decode cX7_typesHold 90 = .ok (.if_icmp .ge 82, 3) := by decide +kernel
theorem dX7_typesHold_93 : decode cX7_typesHold 93 = .ok (.iload_n 1, 1) := by decide +kernel
theorem dX7_typesHold_94 : decode cX7_typesHold 94 = .ok (.aload_n 0, 1) := by decide +kernel
theorem dX7_typesHold_95 : decode cX7_typesHold 95 = .ok (.getfield 134, 3) := by decide +kernel
theorem dX7_typesHold_98 : decode cX7_typesHold 98 = .ok (.if_icmp .ge 23, 3) := by decide +kernel
theorem dX7_typesHold_101 : decode cX7_typesHold 101 = .ok (.aload_n 0, 1) := by decide +kernel
theorem dX7_typesHold_102 : decode cX7_typesHold 102 = .ok (.aload_n 0, 1) := by decide +kernel
theorem dX7_typesHold_103 : decode cX7_typesHold 103 = .ok (.iload_n 1, 1) := by decide +kernel
theorem dX7_typesHold_104 : decode cX7_typesHold 104 = .ok (.invokevirtual 180, 3) := by decide +kernel
theorem dX7_typesHold_107 : decode cX7_typesHold 107 = .ok (.invokevirtual 174, 3) := by decide +kernel
theorem dX7_typesHold_110 : decode cX7_typesHold 110 = .ok (.ifCond .eq 7, 3) := by decide +kernel
theorem dX7_typesHold_113 : decode cX7_typesHold 113 = .ok (.iconst 1, 1) := by decide +kernel
theorem dX7_typesHold_114 : decode cX7_typesHold 114 = .ok (.goto 33, 3) := by decide +kernel
theorem dX7_typesHold_117 : decode cX7_typesHold 117 = .ok (.iconst 0, 1) := by decide +kernel
theorem dX7_typesHold_118 : decode cX7_typesHold 118 = .ok (.goto 29, 3) := by decide +kernel
theorem dX7_typesHold_121 : decode cX7_typesHold 121 = .ok (.aload_n 0, 1) := by decide +kernel
theorem dX7_typesHold_122 : decode cX7_typesHold 122 = .ok (.aload_n 0, 1) := by decide +kernel
theorem dX7_typesHold_123 : decode cX7_typesHold 123 = .ok (.iload_n 1, 1) := by decide +kernel
theorem dX7_typesHold_124 : decode cX7_typesHold 124 = .ok (.invokevirtual 180, 3) := by decide +kernel
theorem dX7_typesHold_127 : decode cX7_typesHold 127 = .ok (.invokevirtual 177, 3) := by decide +kernel
theorem dX7_typesHold_130 : decode cX7_typesHold 130 = .ok (.ifCond .eq 16, 3) := by decide +kernel
theorem dX7_typesHold_133 : decode cX7_typesHold 133 = .ok (.aload_n 0, 1) := by decide +kernel
theorem dX7_typesHold_134 : decode cX7_typesHold 134 = .ok (.getfield 183, 3) := by decide +kernel
theorem dX7_typesHold_137 : decode cX7_typesHold 137 = .ok (.bipush 8, 2) := by decide +kernel
theorem dX7_typesHold_139 : decode cX7_typesHold 139 = .ok (.if_icmp .gt 7, 3) := by decide +kernel
theorem dX7_typesHold_142 : decode cX7_typesHold 142 = .ok (.iconst 1, 1) := by decide +kernel
theorem dX7_typesHold_143 : decode cX7_typesHold 143 = .ok (.goto 4, 3) := by decide +kernel
theorem dX7_typesHold_146 : decode cX7_typesHold 146 = .ok (.iconst 0, 1) := by decide +kernel
theorem dX7_typesHold_147 : decode cX7_typesHold 147 = .ok (.istore_n 2, 1) := by decide +kernel
theorem dX7_typesHold_148 : decode cX7_typesHold 148 = .ok (.iload_n 2, 1) := by decide +kernel
theorem dX7_typesHold_149 : decode cX7_typesHold 149 = .ok (.ifCond .ne 17, 3) := by decide +kernel
theorem dX7_typesHold_152 : decode cX7_typesHold 152 = .ok (.aload_n 0, 1) := by decide +kernel
theorem dX7_typesHold_153 : decode cX7_typesHold 153 = .ok (.bipush 10, 2) := by decide +kernel
theorem dX7_typesHold_155 : decode cX7_typesHold 155 = .ok (.aload_n 0, 1) := by decide +kernel
theorem dX7_typesHold_156 : decode cX7_typesHold 156 = .ok (.iload_n 1, 1) := by decide +kernel
theorem dX7_typesHold_157 : decode cX7_typesHold 157 = .ok (.invokevirtual 165, 3) := by decide +kernel
theorem dX7_typesHold_160 : decode cX7_typesHold 160 = .ok (.iconst 4, 1) := by decide +kernel
theorem dX7_typesHold_161 : decode cX7_typesHold 161 = .ok (.iadd, 1) := by decide +kernel
theorem dX7_typesHold_162 : decode cX7_typesHold 162 = .ok (.invokevirtual 87, 3) := by decide +kernel
theorem dX7_typesHold_165 : decode cX7_typesHold 165 = .ok (.ireturn, 1) := by decide +kernel
theorem dX7_typesHold_166 : decode cX7_typesHold 166 = .ok (.iinc 1 1, 3) := by decide +kernel
theorem dX7_typesHold_169 : decode cX7_typesHold 169 = .ok (.goto (-89), 3) := by decide +kernel
theorem dX7_typesHold_172 : decode cX7_typesHold 172 = .ok (.iconst 1, 1) := by decide +kernel
theorem dX7_typesHold_173 : decode cX7_typesHold 173 = .ok (.ireturn, 1) := by decide +kernel
theorem dX7_u1_0 : decode cX7_u1 0 = .ok (.iload_n 1, 1) := by decide +kernel
theorem dX7_u1_1 : decode cX7_u1 1 = .ok (.ifCond .lt 20, 3) := by decide +kernel
theorem dX7_u1_4 : decode cX7_u1 4 = .ok (.iload_n 1, 1) := by decide +kernel
theorem dX7_u1_5 : decode cX7_u1 5 = .ok (.aload_n 0, 1) := by decide +kernel
theorem dX7_u1_6 : decode cX7_u1 6 = .ok (.getfield 38, 3) := by decide +kernel
theorem dX7_u1_9 : decode cX7_u1 9 = .ok (.if_icmp .ge 12, 3) := by decide +kernel
theorem dX7_u1_12 : decode cX7_u1 12 = .ok (.iload_n 1, 1) := by decide +kernel
theorem dX7_u1_13 : decode cX7_u1 13 = .ok (.aload_n 0, 1) := by decide +kernel
theorem dX7_u1_14 : decode cX7_u1 14 = .ok (.getfield 9, 3) := by decide +kernel
theorem dX7_u1_17 : decode cX7_u1 17 = .ok (.arraylength, 1) := by decide +kernel
theorem dX7_u1_18 : decode cX7_u1 18 = .ok (.if_icmp .lt 7, 3) := by decide +kernel
theorem dX7_u1_21 : decode cX7_u1 21 = .ok (.iconst 0, 1) := by decide +kernel
theorem dX7_u1_22 : decode cX7_u1 22 = .ok (.goto 13, 3) := by decide +kernel
theorem dX7_u1_25 : decode cX7_u1 25 = .ok (.aload_n 0, 1) := by decide +kernel
theorem dX7_u1_26 : decode cX7_u1 26 = .ok (.getfield 9, 3) := by decide +kernel
theorem dX7_u1_29 : decode cX7_u1 29 = .ok (.iload_n 1, 1) := by decide +kernel
theorem dX7_u1_30 : decode cX7_u1 30 = .ok (.baload, 1) := by decide +kernel
theorem dX7_u1_31 : decode cX7_u1 31 = .ok (.sipush 255, 3) := by decide +kernel
theorem dX7_u1_34 : decode cX7_u1 34 = .ok (.iand, 1) := by decide +kernel
theorem dX7_u1_35 : decode cX7_u1 35 = .ok (.ireturn, 1) := by decide +kernel
theorem dX7_u2_0 : decode cX7_u2 0 = .ok (.iload_n 1, 1) := by decide +kernel
theorem dX7_u2_1 : decode cX7_u2 1 = .ok (.ifCond .lt 25, 3) := by decide +kernel
theorem dX7_u2_4 : decode cX7_u2 4 = .ok (.iload_n 1, 1) := by decide +kernel
theorem dX7_u2_5 : decode cX7_u2 5 = .ok (.aload_n 0, 1) := by decide +kernel
theorem dX7_u2_6 : decode cX7_u2 6 = .ok (.getfield 38, 3) := by decide +kernel
theorem dX7_u2_9 : decode cX7_u2 9 = .ok (.iconst 2, 1) := by decide +kernel
theorem dX7_u2_10 : decode cX7_u2 10 = .ok (.isub, 1) := by decide +kernel
theorem dX7_u2_11 : decode cX7_u2 11 = .ok (.if_icmp .gt 15, 3) := by decide +kernel
theorem dX7_u2_14 : decode cX7_u2 14 = .ok (.aload_n 0, 1) := by decide +kernel
theorem dX7_u2_15 : decode cX7_u2 15 = .ok (.getfield 38, 3) := by decide +kernel
theorem dX7_u2_18 : decode cX7_u2 18 = .ok (.aload_n 0, 1) := by decide +kernel
theorem dX7_u2_19 : decode cX7_u2 19 = .ok (.getfield 9, 3) := by decide +kernel
theorem dX7_u2_22 : decode cX7_u2 22 = .ok (.arraylength, 1) := by decide +kernel
theorem dX7_u2_23 : decode cX7_u2 23 = .ok (.if_icmp .le 5, 3) := by decide +kernel
theorem dX7_u2_26 : decode cX7_u2 26 = .ok (.iconst 0, 1) := by decide +kernel
theorem dX7_u2_27 : decode cX7_u2 27 = .ok (.ireturn, 1) := by decide +kernel
theorem dX7_u2_28 : decode cX7_u2 28 = .ok (.aload_n 0, 1) := by decide +kernel
theorem dX7_u2_29 : decode cX7_u2 29 = .ok (.getfield 9, 3) := by decide +kernel
theorem dX7_u2_32 : decode cX7_u2 32 = .ok (.iload_n 1, 1) := by decide +kernel
theorem dX7_u2_33 : decode cX7_u2 33 = .ok (.baload, 1) := by decide +kernel
theorem dX7_u2_34 : decode cX7_u2 34 = .ok (.sipush 255, 3) := by decide +kernel
theorem dX7_u2_37 : decode cX7_u2 37 = .ok (.iand, 1) := by decide +kernel
theorem dX7_u2_38 : decode cX7_u2 38 = .ok (.bipush 8, 2) := by decide +kernel
theorem dX7_u2_40 : decode cX7_u2 40 = .ok (.ishl, 1) := by decide +kernel
theorem dX7_u2_41 : decode cX7_u2 41 = .ok (.aload_n 0, 1) := by decide +kernel
theorem dX7_u2_42 : decode cX7_u2 42 = .ok (.getfield 9, 3) := by decide +kernel
theorem dX7_u2_45 : decode cX7_u2 45 = .ok (.iload_n 1, 1) := by decide +kernel
theorem dX7_u2_46 : decode cX7_u2 46 = .ok (.iconst 1, 1) := by decide +kernel
theorem dX7_u2_47 : decode cX7_u2 47 = .ok (.iadd, 1) := by decide +kernel
theorem dX7_u2_48 : decode cX7_u2 48 = .ok (.baload, 1) := by decide +kernel
theorem dX7_u2_49 : decode cX7_u2 49 = .ok (.sipush 255, 3) := by decide +kernel
theorem dX7_u2_52 : decode cX7_u2 52 = .ok (.iand, 1) := by decide +kernel
theorem dX7_u2_53 : decode cX7_u2 53 = .ok (.ior, 1) := by decide +kernel
theorem dX7_u2_54 : decode cX7_u2 54 = .ok (.ireturn, 1) := by decide +kernel
theorem dX7_u4_0 : decode cX7_u4 0 = .ok (.aload_n 0, 1) := by decide +kernel
theorem dX7_u4_1 : decode cX7_u4 1 = .ok (.iload_n 1, 1) := by decide +kernel
theorem dX7_u4_2 : decode cX7_u4 2 = .ok (.invokevirtual 91, 3) := by decide +kernel
theorem dX7_u4_5 : decode cX7_u4 5 = .ok (.i2l, 1) := by decide +kernel
theorem dX7_u4_6 : decode cX7_u4 6 = .ok (.ldc2_w 95, 3) := by decide +kernel
theorem dX7_u4_9 : decode cX7_u4 9 = .ok (.land, 1) := by decide +kernel
theorem dX7_u4_10 : decode cX7_u4 10 = .ok (.lreturn, 1) := by decide +kernel
theorem dX8_add_0 : decode cX8_add 0 = .ok (.aload_n 0, 1) := by decide +kernel
theorem dX8_add_1 : decode cX8_add 1 = .ok (.getfield 34, 3) := by decide +kernel
theorem dX8_add_4 : decode cX8_add 4 = .ok (.aload_n 0, 1) := by decide +kernel
theorem dX8_add_5 : decode cX8_add 5 = .ok (.getfield 9, 3) := by decide +kernel
theorem dX8_add_8 : decode cX8_add 8 = .ok (.arraylength, 1) := by decide +kernel
theorem dX8_add_9 : decode cX8_add 9 = .ok (.if_icmp .ge 23, 3) := by decide +kernel
theorem dX8_add_12 : decode cX8_add 12 = .ok (.aload_n 0, 1) := by decide +kernel
theorem dX8_add_13 : decode cX8_add 13 = .ok (.aload_n 0, 1) := by decide +kernel
theorem dX8_add_14 : decode cX8_add 14 = .ok (.getfield 34, 3) := by decide +kernel
theorem dX8_add_17 : decode cX8_add 17 = .ok (.iload_n 1, 1) := by decide +kernel
theorem dX8_add_18 : decode cX8_add 18 = .ok (.lload_n 2, 1) := by decide +kernel
theorem dX8_add_19 : decode cX8_add 19 = .ok (.invokevirtual 45, 3) := by decide +kernel
theorem dX8_add_22 : decode cX8_add 22 = .ok (.aload_n 0, 1) := by decide +kernel
theorem dX8_add_23 : decode cX8_add 23 = .ok (.dup, 1) := by decide +kernel
theorem dX8_add_24 : decode cX8_add 24 = .ok (.getfield 34, 3) := by decide +kernel
theorem dX8_add_27 : decode cX8_add 27 = .ok (.iconst 1, 1) := by decide +kernel
theorem dX8_add_28 : decode cX8_add 28 = .ok (.iadd, 1) := by decide +kernel
theorem dX8_add_29 : decode cX8_add 29 = .ok (.putfield 34, 3) := by decide +kernel
theorem dX8_add_32 : decode cX8_add 32 = .ok (.return_, 1) := by decide +kernel
theorem dX8_addCatch_0 : decode cX8_addCatch 0 = .ok (.aload_n 0, 1) := by decide +kernel
theorem dX8_addCatch_1 : decode cX8_addCatch 1 = .ok (.getfield 49, 3) := by decide +kernel
theorem dX8_addCatch_4 : decode cX8_addCatch 4 = .ok (.aload_n 0, 1) := by decide +kernel
theorem dX8_addCatch_5 : decode cX8_addCatch 5 = .ok (.getfield 22, 3) := by decide +kernel
theorem dX8_addCatch_8 : decode cX8_addCatch 8 = .ok (.arraylength, 1) := by decide +kernel
theorem dX8_addCatch_9 : decode cX8_addCatch 9 = .ok (.if_icmp .ge 54, 3) := by decide +kernel
theorem dX8_addCatch_12 : decode cX8_addCatch 12 = .ok (.aload_n 0, 1) := by decide +kernel
theorem dX8_addCatch_13 : decode cX8_addCatch 13 = .ok (.getfield 22, 3) := by decide +kernel
theorem dX8_addCatch_16 : decode cX8_addCatch 16 = .ok (.aload_n 0, 1) := by decide +kernel
theorem dX8_addCatch_17 : decode cX8_addCatch 17 = .ok (.getfield 49, 3) := by decide +kernel
theorem dX8_addCatch_20 : decode cX8_addCatch 20 = .ok (.iload_n 1, 1) := by decide +kernel
theorem dX8_addCatch_21 : decode cX8_addCatch 21 = .ok (.iastore, 1) := by decide +kernel
theorem dX8_addCatch_22 : decode cX8_addCatch 22 = .ok (.aload_n 0, 1) := by decide +kernel
theorem dX8_addCatch_23 : decode cX8_addCatch 23 = .ok (.getfield 25, 3) := by decide +kernel
theorem dX8_addCatch_26 : decode cX8_addCatch 26 = .ok (.aload_n 0, 1) := by decide +kernel
theorem dX8_addCatch_27 : decode cX8_addCatch 27 = .ok (.getfield 49, 3) := by decide +kernel
theorem dX8_addCatch_30 : decode cX8_addCatch 30 = .ok (.iload_n 2, 1) := by decide +kernel
theorem dX8_addCatch_31 : decode cX8_addCatch 31 = .ok (.iastore, 1) := by decide +kernel
theorem dX8_addCatch_32 : decode cX8_addCatch 32 = .ok (.aload_n 0, 1) := by decide +kernel
theorem dX8_addCatch_33 : decode cX8_addCatch 33 = .ok (.getfield 28, 3) := by decide +kernel
theorem dX8_addCatch_36 : decode cX8_addCatch 36 = .ok (.aload_n 0, 1) := by decide +kernel
theorem dX8_addCatch_37 : decode cX8_addCatch 37 = .ok (.getfield 49, 3) := by decide +kernel
theorem dX8_addCatch_40 : decode cX8_addCatch 40 = .ok (.iload_n 3, 1) := by decide +kernel
theorem dX8_addCatch_41 : decode cX8_addCatch 41 = .ok (.iastore, 1) := by decide +kernel
theorem dX8_addCatch_42 : decode cX8_addCatch 42 = .ok (.aload_n 0, 1) := by decide +kernel
theorem dX8_addCatch_43 : decode cX8_addCatch 43 = .ok (.getfield 31, 3) := by decide +kernel

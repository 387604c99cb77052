theorem dX7_s4_73 : decode cX7_s4 73 = .ok (.iload_n 1, 1) := by decide +kernel
theorem dX7_s4_74 : decode cX7_s4 74 = .ok (.iconst 3, 1) := by decide +kernel
theorem dX7_s4_75 : decode cX7_s4 75 = .ok (.iadd, 1) := by decide +kernel
theorem dX7_s4_76 : decode cX7_s4 76 = .ok (.baload, 1) := by decide +kernel
theorem dX7_s4_77 : decode cX7_s4 77 = .ok (.sipush 255, 3) := by decide +kernel
theorem dX7_s4_80 : decode cX7_s4 80 = .ok (.iand, 1) := by decide +kernel
theorem dX7_s4_81 : decode cX7_s4 81 = .ok (.ior, 1) := by decide +kernel
theorem dX7_s4_82 : decode cX7_s4 82 = .ok (.ireturn, 1) := by decide +kernel
theorem dX7_secondOf_0 : decode cX7_secondOf 0 = .ok (.aload_n 0, 1) := by decide +kernel
theorem dX7_secondOf_1 : decode cX7_secondOf 1 = .ok (.aload_n 0, 1) := by decide +kernel
theorem dX7_secondOf_2 : decode cX7_secondOf 2 = .ok (.iload_n 1, 1) := by decide +kernel
theorem dX7_secondOf_3 : decode cX7_secondOf 3 = .ok (.invokevirtual 150, 3) := by decide +kernel
theorem dX7_secondOf_6 : decode cX7_secondOf 6 = .ok (.iconst 3, 1) := by decide +kernel
theorem dX7_secondOf_7 : decode cX7_secondOf 7 = .ok (.iadd, 1) := by decide +kernel
theorem dX7_secondOf_8 : decode cX7_secondOf 8 = .ok (.invokevirtual 107, 3) := by decide +kernel
theorem dX7_secondOf_11 : decode cX7_secondOf 11 = .ok (.ireturn, 1) := by decide +kernel
theorem dX7_tagOf_0 : decode cX7_tagOf 0 = .ok (.aload_n 0, 1) := by decide +kernel
theorem dX7_tagOf_1 : decode cX7_tagOf 1 = .ok (.iload_n 1, 1) := by decide +kernel
theorem dX7_tagOf_2 : decode cX7_tagOf 2 = .ok (.invokevirtual 150, 3) := by decide +kernel
theorem dX7_tagOf_5 : decode cX7_tagOf 5 = .ok (.ifCond .ne 7, 3) := by decide +kernel
theorem dX7_tagOf_8 : decode cX7_tagOf 8 = .ok (.iconst 0, 1) := by decide +kernel
theorem dX7_tagOf_9 : decode cX7_tagOf 9 = .ok (.goto 12, 3) := by decide +kernel
theorem dX7_tagOf_12 : decode cX7_tagOf 12 = .ok (.aload_n 0, 1) := by decide +kernel
theorem dX7_tagOf_13 : decode cX7_tagOf 13 = .ok (.aload_n 0, 1) := by decide +kernel
theorem dX7_tagOf_14 : decode cX7_tagOf 14 = .ok (.iload_n 1, 1) := by decide +kernel
theorem dX7_tagOf_15 : decode cX7_tagOf 15 = .ok (.invokevirtual 150, 3) := by decide +kernel
theorem dX7_tagOf_18 : decode cX7_tagOf 18 = .ok (.invokevirtual 100, 3) := by decide +kernel
theorem dX7_tagOf_21 : decode cX7_tagOf 21 = .ok (.ireturn, 1) := by decide +kernel
theorem dX7_typeOf_0 : decode cX7_typeOf 0 = .ok (.aload_n 0, 1) := by decide +kernel
theorem dX7_typeOf_1 : decode cX7_typeOf 1 = .ok (.aload_n 0, 1) := by decide +kernel
theorem dX7_typeOf_2 : decode cX7_typeOf 2 = .ok (.iload_n 1, 1) := by decide +kernel
theorem dX7_typeOf_3 : decode cX7_typeOf 3 = .ok (.invokevirtual 165, 3) := by decide +kernel
theorem dX7_typeOf_6 : decode cX7_typeOf 6 = .ok (.iconst 4, 1) := by decide +kernel
theorem dX7_typeOf_7 : decode cX7_typeOf 7 = .ok (.iadd, 1) := by decide +kernel
theorem dX7_typeOf_8 : decode cX7_typeOf 8 = .ok (.invokevirtual 107, 3) := by decide +kernel
theorem dX7_typeOf_11 : decode cX7_typeOf 11 = .ok (.ireturn, 1) := by decide +kernel
theorem dX7_typesHold_0 : decode cX7_typesHold 0 = .ok (.iconst 1, 1) := by decide +kernel
theorem dX7_typesHold_1 : decode cX7_typesHold 1 = .ok (.istore_n 1, 1) := by decide +kernel
theorem dX7_typesHold_2 : decode cX7_typesHold 2 = .ok (.iload_n 1, 1) := by decide +kernel
theorem dX7_typesHold_3 : decode cX7_typesHold 3 = .ok (.aload_n 0, 1) := by decide +kernel
theorem dX7_typesHold_4 : decode cX7_typesHold 4 = .ok (.getfield 110, 3) := by decide +kernel
theorem dX7_typesHold_7 : decode cX7_typesHold 7 = .ok (.if_icmp .ge 71, 3) := by decide +kernel
theorem dX7_typesHold_10 : decode cX7_typesHold 10 = .ok (.aload_n 0, 1) := by decide +kernel
theorem dX7_typesHold_11 : decode cX7_typesHold 11 = .ok (.iload_n 1, 1) := by decide +kernel
theorem dX7_typesHold_12 : decode cX7_typesHold 12 = .ok (.invokevirtual 156, 3) := by decide +kernel
theorem dX7_typesHold_15 : decode cX7_typesHold 15 = .ok (.istore_n 2, 1) := by decide +kernel
theorem dX7_typesHold_16 : decode cX7_typesHold 16 = .ok (.iload_n 2, 1) := by decide +kernel
theorem dX7_typesHold_17 : decode cX7_typesHold 17 = .ok (.bipush 9, 2) := by decide +kernel
theorem dX7_typesHold_19 : decode cX7_typesHold 19 = .ok (.if_icmp .ne 19, 3) := by decide +kernel
theorem dX7_typesHold_22 : decode cX7_typesHold 22 = .ok (.aload_n 0, 1) := by decide +kernel
theorem dX7_typesHold_23 : decode cX7_typesHold 23 = .ok (.aload_n 0, 1) := by decide +kernel
theorem dX7_typesHold_24 : decode cX7_typesHold 24 = .ok (.aload_n 0, 1) := by decide +kernel
theorem dX7_typesHold_25 : decode cX7_typesHold 25 = .ok (.iload_n 1, 1) := by decide +kernel
theorem dX7_typesHold_26 : decode cX7_typesHold 26 = .ok (.invokevirtual 162, 3) := by decide +kernel
theorem dX7_typesHold_29 : decode cX7_typesHold 29 = .ok (.invokevirtual 162, 3) := by decide +kernel
theorem dX7_typesHold_32 : decode cX7_typesHold 32 = .ok (.invokevirtual 174, 3) := by decide +kernel
theorem dX7_typesHold_35 : decode cX7_typesHold 35 = .ok (.ifCond .eq 25, 3) := by decide +kernel
theorem dX7_typesHold_38 : decode cX7_typesHold 38 = .ok (.iload_n 2, 1) := by decide +kernel
theorem dX7_typesHold_39 : decode cX7_typesHold 39 = .ok (.bipush 10, 2) := by decide +kernel
theorem dX7_typesHold_41 : decode cX7_typesHold 41 = .ok (.if_icmp .ne 31, 3) := by decide +kernel
theorem dX7_typesHold_44 : decode cX7_typesHold 44 = .ok (.aload_n 0, 1) := by decide +kernel
theorem dX7_typesHold_45 : decode cX7_typesHold 45 = .ok (.aload_n 0, 1) := by decide +kernel
theorem dX7_typesHold_46 : decode cX7_typesHold 46 = .ok (.aload_n 0, 1) := by decide +kernel
theorem dX7_typesHold_47 : decode cX7_typesHold 47 = .ok (.iload_n 1, 1) := by decide +kernel
theorem dX7_typesHold_48 : decode cX7_typesHold 48 = .ok (.invokevirtual 162, 3) := by decide +kernel
theorem dX7_typesHold_51 : decode cX7_typesHold 51 = .ok (.invokevirtual 162, 3) := by decide +kernel
theorem dX7_typesHold_54 : decode cX7_typesHold 54 = .ok (.invokevirtual 177, 3) := by decide +kernel
theorem dX7_typesHold_57 : decode cX7_typesHold 57 = .ok (.ifCond .ne 15, 3) := by decide +kernel
theorem dX7_typesHold_60 : decode cX7_typesHold 60 = .ok (.aload_n 0, 1) := by decide +kernel
theorem dX7_typesHold_61 : decode cX7_typesHold 61 = .ok (.bipush 10, 2) := by decide +kernel
theorem dX7_typesHold_63 : decode cX7_typesHold 63 = .ok (.aload_n 0, 1) := by decide +kernel
theorem dX7_typesHold_64 : decode cX7_typesHold 64 = .ok (.iload_n 1, 1) := by decide +kernel
theorem dX7_typesHold_65 : decode cX7_typesHold 65 = .ok (.invokevirtual 150, 3) := by decide +kernel
theorem dX7_typesHold_68 : decode cX7_typesHold 68 = .ok (.invokevirtual 87, 3) := by decide +kernel
theorem dX7_typesHold_71 : decode cX7_typesHold 71 = .ok (.ireturn, 1) := by decide +kernel
theorem dX7_typesHold_72 : decode cX7_typesHold 72 = .ok (.iinc 1 1, 3) := by decide +kernel
theorem dX7_typesHold_75 : decode cX7_typesHold 75 = .ok (.goto (-73), 3) := by decide +kernel
theorem dX7_typesHold_78 : decode cX7_typesHold 78 = .ok (.iconst 0, 1) := by decide +kernel
theorem dX7_typesHold_79 : decode cX7_typesHold 79 = .ok (.istore_n 1, 1) := by decide +kernel
theorem dX7_typesHold_80 : decode cX7_typesHold 80 = .ok (.iload_n 1, 1) := by decide +kernel
theorem dX7_typesHold_81 : decode cX7_typesHold 81 = .ok (.aload_n 0, 1) := by decide +kernel
theorem dX7_typesHold_82 : decode cX7_typesHold 82 = .ok (.getfield 134, 3) := by decide +kernel
theorem dX7_typesHold_85 : decode cX7_typesHold 85 = .ok (.aload_n 0, 1) := by decide +kernel
theorem dX7_typesHold_86 : decode cX7_typesHold 86 = .ok (.getfield 131, 3) := by decide +kernel
theorem dX7_typesHold_89 : decode cX7_typesHold 89 = .ok (.iadd, 1) := by decide +kernel
theorem dX7_typesHold_90 : decode cX7_typesHold 90 = .ok (.if_icmp .ge 82, 3) := by decide +kernel
theorem dX7_typesHold_93 : decode cX7_typesHold 93 = .ok (.iload_n 1, 1) := by decide +kernel
theorem dX7_typesHold_94 : decode cX7_typesHold 94 = .ok (.aload_n 0, 1) := by decide +kernel
theorem dX7_typesHold_95 : decode cX7_typesHold 95 = .ok (.getfield 134, 3) := by decide +kernel
theorem dX7_typesHold_98 : decode cX7_typesHold 98 = .ok (.if_icmp .ge 23, 3) := by decide +kernel
theorem dX7_typesHold_101 : decode cX7_typesHold 101 = .ok (.aload_n 0, 1) := by decide +kernel
theorem dX7_typesHold_102 : decode cX7_typesHold 102 = .ok (.aload_n 0, 1) := by decide +kernel
theorem dX7_typesHold_103 : decode cX7_typesHold 103 = .ok (.iload_n 1, 1) := by decide +kernel
theorem dX7_typesHold_104 : decode cX7_typesHold 104 = .ok (.invokevirtual 180, 3) := by decide +kernel
theorem dX7_typesHold_107 : decode cX7_typesHold 107 = .ok (.invokevirtual 174, 3) := by decide +kernel
theorem dX7_typesHold_110 : decode cX7_typesHold 110 = .ok (.ifCond .eq 7, 3) := by decide +kernel
theorem dX7_typesHold_113 : decode cX7_typesHold 113 = .ok (.iconst 1, 1) := by decide +kernel
theorem dX7_typesHold_114 : decode cX7_typesHold 114 = .ok (.goto 33, 3) := by decide +kernel
theorem dX7_typesHold_117 : decode cX7_typesHold 117 = .ok (.iconst 0, 1) := by decide +kernel
theorem dX7_typesHold_118 : decode cX7_typesHold 118 = .ok (.goto 29, 3) := by decide +kernel
theorem dX7_typesHold_121 : decode cX7_typesHold 121 = .ok (.aload_n 0, 1) := by decide +kernel
theorem dX7_typesHold_122 : decode cX7_typesHold 122 = .ok (.aload_n 0, 1) := by decide +kernel
theorem dX7_typesHold_123 : decode cX7_typesHold 123 = .ok (.iload_n 1, 1) := by decide +kernel
theorem dX7_typesHold_124 : decode cX7_typesHold 124 = .ok (.invokevirtual 180, 3) := by decide +kernel
theorem dX7_typesHold_127 : decode cX7_typesHold 127 = .ok (.invokevirtual 177, 3) := by decide +kernel
theorem dX7_typesHold_130 : decode cX7_typesHold 130 = .ok (.ifCond .eq 16, 3) := by decide +kernel
theorem dX7_typesHold_133 : decode cX7_typesHold 133 = .ok (.aload_n 0, 1) := by decide +kernel
theorem dX7_typesHold_134 : decode cX7_typesHold 134 = .ok (.getfield 183, 3) := by decide +kernel
theorem dX7_typesHold_137 : decode cX7_typesHold 137 = .ok (.bipush 8, 2) := by decide +kernel
theorem dX7_typesHold_139 : decode cX7_typesHold 139 = .ok (.if_icmp .gt 7, 3) := by decide +kernel
theorem dX7_typesHold_142 : decode cX7_typesHold 142 = .ok (.iconst 1, 1) := by decide +kernel
theorem dX7_typesHold_143 : decode cX7_typesHold 143 = .ok (.goto 4, 3) := by decide +kernel
theorem dX7_typesHold_146 : decode cX7_typesHold 146 = .ok (.iconst 0, 1) := by decide +kernel
theorem dX7_typesHold_147 : decode cX7_typesHold 147 = .ok (.istore_n 2, 1) := by decide +kernel
theorem dX7_typesHold_148 : decode cX7_typesHold 148 = .ok (.iload_n 2, 1) := by decide +kernel
theorem dX7_typesHold_149 : decode cX7_typesHold 149 = .ok (.ifCond .ne 17, 3) := by decide +kernel
theorem dX7_typesHold_152 : decode cX7_typesHold 152 = .ok (.aload_n 0, 1) := by decide +kernel
theorem dX7_typesHold_153 : decode cX7_typesHold 153 = .ok (.bipush 10, 2) := by decide +kernel
theorem dX7_typesHold_155 : decode cX7_typesHold 155 = .ok (.aload_n 0, 1) := by decide +kernel
theorem dX7_typesHold_156 : decode cX7_typesHold 156 = .ok (.iload_n 1, 1) := by decide +kernel
theorem dX7_typesHold_157 : decode cX7_typesHold 157 = .ok (.invokevirtual 165, 3) := by decide +kernel
theorem dX7_typesHold_160 : decode cX7_typesHold 160 = .ok (.iconst 4, 1) := by decide +kernel
theorem dX7_typesHold_161 : decode cX7_typesHold 161 = .ok (.iadd, 1) := by decide +kernel
theorem dX7_typesHold_162 : decode cX7_typesHold 162 = .ok (.invokevirtual 87, 3) := by decide +kernel
theorem dX7_typesHold_165 : decode cX7_typesHold 165 = .ok (.ireturn, 1) := by decide +kernel
theorem dX7_typesHold_166 : decode cX7_typesHold 166 = .ok (.iinc 1 1, 3) := by decide +kernel
theorem dX7_typesHold_169 : decode cX7_typesHold 169 = .ok (.goto (-89), 3) := by decide +kernel
theorem dX7_typesHold_172 : decode cX7_typesHold 172 = .ok (.iconst 1, 1) := by decide +kernel
theorem dX7_typesHold_173 : decode cX7_typesHold 173 = .ok (.ireturn, 1) := by decide +kernel
theorem dX7_u1_0 : decode cX7_u1 0 = .ok (.iload_n 1, 1) := by decide +kernel
theorem dX7_u1_1 : decode cX7_u1 1 = .ok (.ifCond .lt 20, 3) := by decide +kernel
theorem dX7_u1_4 : decode cX7_u1 4 = .ok (.iload_n 1, 1) := by decide +kernel
theorem dX7_u1_5 : decode cX7_u1 5 = .ok (.aload_n 0, 1) := by decide +kernel
theorem dX7_u1_6 : decode cX7_u1 6 = .ok (.getfield 38, 3) := by decide +kernel
theorem dX7_u1_9 : decode cX7_u1 9 = .ok (.if_icmp .ge 12, 3) := by decide +kernel
theorem dX7_u1_12 : decode cX7_u1 12 = .ok (.iload_n 1, 1) := by decide +kernel
theorem dX7_u1_13 : decode cX7_u1 13 = .ok (.aload_n 0, 1) := by decide +kernel
theorem dX7_u1_14 : decode cX7_u1 14 = .ok (.getfield 9, 3) := by decide +kernel
theorem dX7_u1_17 : decode cX7_u1 17 = .ok (.arraylength, 1) := by decide +kernel
theorem dX7_u1_18 : decode cX7_u1 18 = .ok (.if_icmp .lt 7, 3) := by decide +kernel
theorem dX7_u1_21 : decode cX7_u1 21 = .ok (.iconst 0, 1) := by decide +kernel
theorem dX7_u1_22 : decode cX7_u1 22 = .ok (.goto 13, 3) := by decide +kernel
theorem dX7_u1_25 : decode cX7_u1 25 = .ok (.aload_n 0, 1) := by decide +kernel
theorem dX7_u1_26 : decode cX7_u1 26 = .ok (.getfield 9, 3) := by decide +kernel
theorem dX7_u1_29 : decode cX7_u1 29 = .ok (.iload_n 1, 1) := by decide +kernel
theorem dX7_u1_30 : decode cX7_u1 30 = .ok (.baload, 1) := by decide +kernel
theorem dX7_u1_31 : decode cX7_u1 31 = .ok (.sipush 255, 3) := by decide +kernel
theorem dX7_u1_34 : decode cX7_u1 34 = .ok (.iand, 1) := by decide +kernel
theorem dX7_u1_35 : decode cX7_u1 35 = .ok (.ireturn, 1) := by decide +kernel
theorem dX7_u2_0 : decode cX7_u2 0 = .ok (.iload_n 1, 1) := by decide +kernel

theorem dX2_catchHolds_8 : decode cX2_catchHolds 8 = .ok (.istore_n 2, 1) := by decide +kernel
theorem dX2_catchHolds_9 : decode cX2_catchHolds 9 = .ok (.aload_n 0, 1) := by decide +kernel
theorem dX2_catchHolds_10 : decode cX2_catchHolds 10 = .ok (.getfield 12, 3) := by decide +kernel
theorem dX2_catchHolds_13 : decode cX2_catchHolds 13 = .ok (.iload_n 1, 1) := by decide +kernel
theorem dX2_catchHolds_14 : decode cX2_catchHolds 14 = .ok (.iconst 2, 1) := by decide +kernel
theorem dX2_catchHolds_15 : decode cX2_catchHolds 15 = .ok (.iadd, 1) := by decide +kernel
theorem dX2_catchHolds_16 : decode cX2_catchHolds 16 = .ok (.invokevirtual 90, 3) := by decide +kernel
theorem dX2_catchHolds_19 : decode cX2_catchHolds 19 = .ok (.istore_n 3, 1) := by decide +kernel
theorem dX2_catchHolds_20 : decode cX2_catchHolds 20 = .ok (.aload_n 0, 1) := by decide +kernel
theorem dX2_catchHolds_21 : decode cX2_catchHolds 21 = .ok (.iload_n 2, 1) := by decide +kernel
theorem dX2_catchHolds_22 : decode cX2_catchHolds 22 = .ok (.i2l, 1) := by decide +kernel
theorem dX2_catchHolds_23 : decode cX2_catchHolds 23 = .ok (.invokevirtual 221, 3) := by decide +kernel
theorem dX2_catchHolds_26 : decode cX2_catchHolds 26 = .ok (.ifCond .eq 58, 3) := by decide +kernel
theorem dX2_catchHolds_29 : decode cX2_catchHolds 29 = .ok (.aload_n 0, 1) := by decide +kernel
theorem dX2_catchHolds_30 : decode cX2_catchHolds 30 = .ok (.iload_n 3, 1) := by decide +kernel
theorem dX2_catchHolds_31 : decode cX2_catchHolds 31 = .ok (.i2l, 1) := by decide +kernel
theorem dX2_catchHolds_32 : decode cX2_catchHolds 32 = .ok (.invokevirtual 217, 3) := by decide +kernel
theorem dX2_catchHolds_35 : decode cX2_catchHolds 35 = .ok (.ifCond .lt 49, 3) := by decide +kernel
theorem dX2_catchHolds_38 : decode cX2_catchHolds 38 = .ok (.iload_n 2, 1) := by decide +kernel
theorem dX2_catchHolds_39 : decode cX2_catchHolds 39 = .ok (.iload_n 3, 1) := by decide +kernel
theorem dX2_catchHolds_40 : decode cX2_catchHolds 40 = .ok (.if_icmp .ge 44, 3) := by decide +kernel
theorem dX2_catchHolds_43 : decode cX2_catchHolds 43 = .ok (.aload_n 0, 1) := by decide +kernel
theorem dX2_catchHolds_44 : decode cX2_catchHolds 44 = .ok (.aload_n 0, 1) := by decide +kernel
theorem dX2_catchHolds_45 : decode cX2_catchHolds 45 = .ok (.getfield 12, 3) := by decide +kernel
theorem dX2_catchHolds_48 : decode cX2_catchHolds 48 = .ok (.iload_n 1, 1) := by decide +kernel
theorem dX2_catchHolds_49 : decode cX2_catchHolds 49 = .ok (.iconst 4, 1) := by decide +kernel
theorem dX2_catchHolds_50 : decode cX2_catchHolds 50 = .ok (.iadd, 1) := by decide +kernel
theorem dX2_catchHolds_51 : decode cX2_catchHolds 51 = .ok (.invokevirtual 90, 3) := by decide +kernel
theorem dX2_catchHolds_54 : decode cX2_catchHolds 54 = .ok (.i2l, 1) := by decide +kernel
theorem dX2_catchHolds_55 : decode cX2_catchHolds 55 = .ok (.invokevirtual 221, 3) := by decide +kernel
theorem dX2_catchHolds_58 : decode cX2_catchHolds 58 = .ok (.ifCond .eq 26, 3) := by decide +kernel
theorem dX2_catchHolds_61 : decode cX2_catchHolds 61 = .ok (.aload_n 0, 1) := by decide +kernel
theorem dX2_catchHolds_62 : decode cX2_catchHolds 62 = .ok (.aload_n 0, 1) := by decide +kernel
theorem dX2_catchHolds_63 : decode cX2_catchHolds 63 = .ok (.getfield 12, 3) := by decide +kernel
theorem dX2_catchHolds_66 : decode cX2_catchHolds 66 = .ok (.iload_n 1, 1) := by decide +kernel
theorem dX2_catchHolds_67 : decode cX2_catchHolds 67 = .ok (.bipush 6, 2) := by decide +kernel
theorem dX2_catchHolds_69 : decode cX2_catchHolds 69 = .ok (.iadd, 1) := by decide +kernel
theorem dX2_catchHolds_70 : decode cX2_catchHolds 70 = .ok (.invokevirtual 90, 3) := by decide +kernel
theorem dX2_catchHolds_73 : decode cX2_catchHolds 73 = .ok (.invokevirtual 244, 3) := by decide +kernel
theorem dX2_catchHolds_76 : decode cX2_catchHolds 76 = .ok (.iconst (-1), 1) := by decide +kernel
theorem dX2_catchHolds_77 : decode cX2_catchHolds 77 = .ok (.if_icmp .lt 7, 3) := by decide +kernel
theorem dX2_catchHolds_80 : decode cX2_catchHolds 80 = .ok (.iconst 1, 1) := by decide +kernel
theorem dX2_catchHolds_81 : decode cX2_catchHolds 81 = .ok (.goto 4, 3) := by decide +kernel
theorem dX2_catchHolds_84 : decode cX2_catchHolds 84 = .ok (.iconst 0, 1) := by decide +kernel
theorem dX2_catchHolds_85 : decode cX2_catchHolds 85 = .ok (.ireturn, 1) := by decide +kernel
theorem dX2_catchesHold_0 : decode cX2_catchesHold 0 = .ok (.iload_n 1, 1) := by decide +kernel
theorem dX2_catchesHold_1 : decode cX2_catchesHold 1 = .ok (.iconst 2, 1) := by decide +kernel
theorem dX2_catchesHold_2 : decode cX2_catchesHold 2 = .ok (.iadd, 1) := by decide +kernel
theorem dX2_catchesHold_3 : decode cX2_catchesHold 3 = .ok (.iload_n 2, 1) := by decide +kernel
theorem dX2_catchesHold_4 : decode cX2_catchesHold 4 = .ok (.if_icmp .le 14, 3) := by decide +kernel
theorem dX2_catchesHold_7 : decode cX2_catchesHold 7 = .ok (.aload_n 0, 1) := by decide +kernel
theorem dX2_catchesHold_8 : decode cX2_catchesHold 8 = .ok (.getfield 12, 3) := by decide +kernel
theorem dX2_catchesHold_11 : decode cX2_catchesHold 11 = .ok (.bipush 14, 2) := by decide +kernel
theorem dX2_catchesHold_13 : decode cX2_catchesHold 13 = .ok (.iload_n 2, 1) := by decide +kernel
theorem dX2_catchesHold_14 : decode cX2_catchesHold 14 = .ok (.invokevirtual 86, 3) := by decide +kernel
theorem dX2_catchesHold_17 : decode cX2_catchesHold 17 = .ok (.ireturn, 1) := by decide +kernel
theorem dX2_catchesHold_18 : decode cX2_catchesHold 18 = .ok (.aload_n 0, 1) := by decide +kernel
theorem dX2_catchesHold_19 : decode cX2_catchesHold 19 = .ok (.getfield 12, 3) := by decide +kernel
theorem dX2_catchesHold_22 : decode cX2_catchesHold 22 = .ok (.iload_n 1, 1) := by decide +kernel
theorem dX2_catchesHold_23 : decode cX2_catchesHold 23 = .ok (.invokevirtual 90, 3) := by decide +kernel
theorem dX2_catchesHold_26 : decode cX2_catchesHold 26 = .ok (.istore_n 3, 1) := by decide +kernel
theorem dX2_catchesHold_27 : decode cX2_catchesHold 27 = .ok (.iload_n 3, 1) := by decide +kernel
theorem dX2_catchesHold_28 : decode cX2_catchesHold 28 = .ok (.bipush 16, 2) := by decide +kernel
theorem dX2_catchesHold_30 : decode cX2_catchesHold 30 = .ok (.if_icmp .le 14, 3) := by decide +kernel
theorem dX2_catchesHold_33 : decode cX2_catchesHold 33 = .ok (.aload_n 0, 1) := by decide +kernel
theorem dX2_catchesHold_34 : decode cX2_catchesHold 34 = .ok (.getfield 12, 3) := by decide +kernel
theorem dX2_catchesHold_37 : decode cX2_catchesHold 37 = .ok (.bipush 13, 2) := by decide +kernel
theorem dX2_catchesHold_39 : decode cX2_catchesHold 39 = .ok (.iload_n 1, 1) := by decide +kernel
theorem dX2_catchesHold_40 : decode cX2_catchesHold 40 = .ok (.invokevirtual 86, 3) := by decide +kernel
theorem dX2_catchesHold_43 : decode cX2_catchesHold 43 = .ok (.ireturn, 1) := by decide +kernel
theorem dX2_catchesHold_44 : decode cX2_catchesHold 44 = .ok (.iload_n 1, 1) := by decide +kernel
theorem dX2_catchesHold_45 : decode cX2_catchesHold 45 = .ok (.iconst 2, 1) := by decide +kernel
theorem dX2_catchesHold_46 : decode cX2_catchesHold 46 = .ok (.iadd, 1) := by decide +kernel
theorem dX2_catchesHold_47 : decode cX2_catchesHold 47 = .ok (.bipush 8, 2) := by decide +kernel
theorem dX2_catchesHold_49 : decode cX2_catchesHold 49 = .ok (.iload_n 3, 1) := by decide +kernel
theorem dX2_catchesHold_50 : decode cX2_catchesHold 50 = .ok (.imul, 1) := by decide +kernel
theorem dX2_catchesHold_51 : decode cX2_catchesHold 51 = .ok (.iadd, 1) := by decide +kernel
theorem dX2_catchesHold_52 : decode cX2_catchesHold 52 = .ok (.istore 4, 2) := by decide +kernel
theorem dX2_catchesHold_54 : decode cX2_catchesHold 54 = .ok (.iload 4, 2) := by decide +kernel
theorem dX2_catchesHold_56 : decode cX2_catchesHold 56 = .ok (.iconst 2, 1) := by decide +kernel
theorem dX2_catchesHold_57 : decode cX2_catchesHold 57 = .ok (.iadd, 1) := by decide +kernel
theorem dX2_catchesHold_58 : decode cX2_catchesHold 58 = .ok (.iload_n 2, 1) := by decide +kernel
theorem dX2_catchesHold_59 : decode cX2_catchesHold 59 = .ok (.if_icmp .le 14, 3) := by decide +kernel
theorem dX2_catchesHold_62 : decode cX2_catchesHold 62 = .ok (.aload_n 0, 1) := by decide +kernel
theorem dX2_catchesHold_63 : decode cX2_catchesHold 63 = .ok (.getfield 12, 3) := by decide +kernel
theorem dX2_catchesHold_66 : decode cX2_catchesHold 66 = .ok (.bipush 14, 2) := by decide +kernel
theorem dX2_catchesHold_68 : decode cX2_catchesHold 68 = .ok (.iload_n 2, 1) := by decide +kernel
theorem dX2_catchesHold_69 : decode cX2_catchesHold 69 = .ok (.invokevirtual 86, 3) := by decide +kernel
theorem dX2_catchesHold_72 : decode cX2_catchesHold 72 = .ok (.ireturn, 1) := by decide +kernel
theorem dX2_catchesHold_73 : decode cX2_catchesHold 73 = .ok (.aload_n 0, 1) := by decide +kernel
theorem dX2_catchesHold_74 : decode cX2_catchesHold 74 = .ok (.getfield 12, 3) := by decide +kernel
theorem dX2_catchesHold_77 : decode cX2_catchesHold 77 = .ok (.iload 4, 2) := by decide +kernel
theorem dX2_catchesHold_79 : decode cX2_catchesHold 79 = .ok (.invokevirtual 90, 3) := by decide +kernel
theorem dX2_catchesHold_82 : decode cX2_catchesHold 82 = .ok (.istore 5, 2) := by decide +kernel
theorem dX2_catchesHold_84 : decode cX2_catchesHold 84 = .ok (.iinc 4 2, 3) := by decide +kernel
theorem dX2_catchesHold_87 : decode cX2_catchesHold 87 = .ok (.iconst 0, 1) := by decide +kernel
theorem dX2_catchesHold_88 : decode cX2_catchesHold 88 = .ok (.istore 6, 2) := by decide +kernel
theorem dX2_catchesHold_90 : decode cX2_catchesHold 90 = .ok (.iload 6, 2) := by decide +kernel
theorem dX2_catchesHold_92 : decode cX2_catchesHold 92 = .ok (.iload 5, 2) := by decide +kernel
theorem dX2_catchesHold_94 : decode cX2_catchesHold 94 = .ok (.if_icmp .ge 71, 3) := by decide +kernel
theorem dX2_catchesHold_97 : decode cX2_catchesHold 97 = .ok (.iload 4, 2) := by decide +kernel
theorem dX2_catchesHold_99 : decode cX2_catchesHold 99 = .ok (.bipush 6, 2) := by decide +kernel
theorem dX2_catchesHold_101 : decode cX2_catchesHold 101 = .ok (.iadd, 1) := by decide +kernel
theorem dX2_catchesHold_102 : decode cX2_catchesHold 102 = .ok (.iload_n 2, 1) := by decide +kernel
theorem dX2_catchesHold_103 : decode cX2_catchesHold 103 = .ok (.if_icmp .gt 26, 3) := by decide +kernel
theorem dX2_catchesHold_106 : decode cX2_catchesHold 106 = .ok (.aload_n 0, 1) := by decide +kernel
theorem dX2_catchesHold_107 : decode cX2_catchesHold 107 = .ok (.getfield 12, 3) := by decide +kernel
theorem dX2_catchesHold_110 : decode cX2_catchesHold 110 = .ok (.iload 4, 2) := by decide +kernel
theorem dX2_catchesHold_112 : decode cX2_catchesHold 112 = .ok (.iconst 2, 1) := by decide +kernel
theorem dX2_catchesHold_113 : decode cX2_catchesHold 113 = .ok (.iadd, 1) := by decide +kernel
theorem dX2_catchesHold_114 : decode cX2_catchesHold 114 = .ok (.invokevirtual 93, 3) := by decide +kernel
theorem dX2_catchesHold_117 : decode cX2_catchesHold 117 = .ok (.iload_n 2, 1) := by decide +kernel
theorem dX2_catchesHold_118 : decode cX2_catchesHold 118 = .ok (.iload 4, 2) := by decide +kernel
theorem dX2_catchesHold_120 : decode cX2_catchesHold 120 = .ok (.isub, 1) := by decide +kernel
theorem dX2_catchesHold_121 : decode cX2_catchesHold 121 = .ok (.bipush 6, 2) := by decide +kernel
theorem dX2_catchesHold_123 : decode cX2_catchesHold 123 = .ok (.isub, 1) := by decide +kernel
theorem dX2_catchesHold_124 : decode cX2_catchesHold 124 = .ok (.i2l, 1) := by decide +kernel
theorem dX2_catchesHold_125 : decode cX2_catchesHold 125 = .ok (.lcmp, 1) := by decide +kernel
theorem dX2_catchesHold_126 : decode cX2_catchesHold 126 = .ok (.ifCond .le 14, 3) := by decide +kernel
theorem dX2_catchesHold_129 : decode cX2_catchesHold 129 = .ok (.aload_n 0, 1) := by decide +kernel
theorem dX2_catchesHold_130 : decode cX2_catchesHold 130 = .ok (.getfield 12, 3) := by decide +kernel
theorem dX2_catchesHold_133 : decode cX2_catchesHold 133 = .ok (.bipush 14, 2) := by decide +kernel
theorem dX2_catchesHold_135 : decode cX2_catchesHold 135 = .ok (.iload_n 2, 1) := by decide +kernel
theorem dX2_catchesHold_136 : decode cX2_catchesHold 136 = .ok (.invokevirtual 86, 3) := by decide +kernel
theorem dX2_catchesHold_139 : decode cX2_catchesHold 139 = .ok (.ireturn, 1) := by decide +kernel
theorem dX2_catchesHold_140 : decode cX2_catchesHold 140 = .ok (.iload 4, 2) := by decide +kernel
theorem dX2_catchesHold_142 : decode cX2_catchesHold 142 = .ok (.bipush 6, 2) := by decide +kernel
theorem dX2_catchesHold_144 : decode cX2_catchesHold 144 = .ok (.aload_n 0, 1) := by decide +kernel
theorem dX2_catchesHold_145 : decode cX2_catchesHold 145 = .ok (.getfield 12, 3) := by decide +kernel
theorem dX2_catchesHold_148 : decode cX2_catchesHold 148 = .ok (.iload 4, 2) := by decide +kernel
theorem dX2_catchesHold_150 : decode cX2_catchesHold 150 = .ok (.iconst 2, 1) := by decide +kernel
theorem dX2_catchesHold_151 : decode cX2_catchesHold 151 = .ok (.iadd, 1) := by decide +kernel
theorem dX2_catchesHold_152 : decode cX2_catchesHold 152 = .ok (.invokevirtual 102, 3) := by decide +kernel
theorem dX2_catchesHold_155 : decode cX2_catchesHold 155 = .ok (.iadd, 1) := by decide +kernel
theorem dX2_catchesHold_156 : decode cX2_catchesHold 156 = .ok (.iadd, 1) := by decide +kernel
theorem dX2_catchesHold_157 : decode cX2_catchesHold 157 = .ok (.istore 4, 2) := by decide +kernel
theorem dX2_catchesHold_159 : decode cX2_catchesHold 159 = .ok (.iinc 6 1, 3) := by decide +kernel
theorem dX2_catchesHold_162 : decode cX2_catchesHold 162 = .ok (.goto (-72), 3) := by decide +kernel
theorem dX2_catchesHold_165 : decode cX2_catchesHold 165 = .ok (.iload 4, 2) := by decide +kernel
theorem dX2_catchesHold_167 : decode cX2_catchesHold 167 = .ok (.iload_n 2, 1) := by decide +kernel
theorem dX2_catchesHold_168 : decode cX2_catchesHold 168 = .ok (.if_icmp .eq 17, 3) := by decide +kernel
theorem dX2_catchesHold_171 : decode cX2_catchesHold 171 = .ok (.aload_n 0, 1) := by decide +kernel
theorem dX2_catchesHold_172 : decode cX2_catchesHold 172 = .ok (.getfield 12, 3) := by decide +kernel
theorem dX2_catchesHold_175 : decode cX2_catchesHold 175 = .ok (.bipush 14, 2) := by decide +kernel
theorem dX2_catchesHold_177 : decode cX2_catchesHold 177 = .ok (.iload 4, 2) := by decide +kernel
theorem dX2_catchesHold_179 : decode cX2_catchesHold 179 = .ok (.invokevirtual 86, 3) := by decide +kernel
theorem dX2_catchesHold_182 : decode cX2_catchesHold 182 = .ok (.ifCond .eq 7, 3) := by decide +kernel
theorem dX2_catchesHold_185 : decode cX2_catchesHold 185 = .ok (.iconst 1, 1) := by decide +kernel
theorem dX2_catchesHold_186 : decode cX2_catchesHold 186 = .ok (.goto 4, 3) := by decide +kernel
theorem dX2_catchesHold_189 : decode cX2_catchesHold 189 = .ok (.iconst 0, 1) := by decide +kernel

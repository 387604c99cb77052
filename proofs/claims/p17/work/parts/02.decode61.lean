theorem dX5_tellLength_13 : decode cX5_tellLength 13 = .ok (.aload_n 0, 1) := by decide +kernel
theorem dX5_tellLength_14 : decode cX5_tellLength 14 = .ok (.lload_n 1, 1) := by decide +kernel
theorem dX5_tellLength_15 : decode cX5_tellLength 15 = .ok (.l2i, 1) := by decide +kernel
theorem dX5_tellLength_16 : decode cX5_tellLength 16 = .ok (.invokevirtual 70, 3) := by decide +kernel
theorem dX5_tellLength_19 : decode cX5_tellLength 19 = .ok (.i2l, 1) := by decide +kernel
theorem dX5_tellLength_20 : decode cX5_tellLength 20 = .ok (.invokevirtual 137, 3) := by decide +kernel
theorem dX5_tellLength_23 : decode cX5_tellLength 23 = .ok (.aload_n 0, 1) := by decide +kernel
theorem dX5_tellLength_24 : decode cX5_tellLength 24 = .ok (.dup, 1) := by decide +kernel
theorem dX5_tellLength_25 : decode cX5_tellLength 25 = .ok (.getfield 123, 3) := by decide +kernel
theorem dX5_tellLength_28 : decode cX5_tellLength 28 = .ok (.iconst 1, 1) := by decide +kernel
theorem dX5_tellLength_29 : decode cX5_tellLength 29 = .ok (.iadd, 1) := by decide +kernel
theorem dX5_tellLength_30 : decode cX5_tellLength 30 = .ok (.putfield 123, 3) := by decide +kernel
theorem dX5_tellLength_33 : decode cX5_tellLength 33 = .ok (.return_, 1) := by decide +kernel
theorem dX5_throwIt_0 : decode cX5_throwIt 0 = .ok (.aload_n 0, 1) := by decide +kernel
theorem dX5_throwIt_1 : decode cX5_throwIt 1 = .ok (.lload_n 1, 1) := by decide +kernel
theorem dX5_throwIt_2 : decode cX5_throwIt 2 = .ok (.lconst 0, 1) := by decide +kernel
theorem dX5_throwIt_3 : decode cX5_throwIt 3 = .ok (.lcmp, 1) := by decide +kernel
theorem dX5_throwIt_4 : decode cX5_throwIt 4 = .ok (.ifCond .ge 20, 3) := by decide +kernel
theorem dX5_throwIt_7 : decode cX5_throwIt 7 = .ok (.lload_n 1, 1) := by decide +kernel
theorem dX5_throwIt_8 : decode cX5_throwIt 8 = .ok (.ldc2_w 287, 3) := by decide +kernel
theorem dX5_throwIt_11 : decode cX5_throwIt 11 = .ok (.lcmp, 1) := by decide +kernel
theorem dX5_throwIt_12 : decode cX5_throwIt 12 = .ok (.ifCond .lt 12, 3) := by decide +kernel
theorem dX5_throwIt_15 : decode cX5_throwIt 15 = .ok (.ldc2_w 289, 3) := by decide +kernel
theorem dX5_throwIt_18 : decode cX5_throwIt 18 = .ok (.lload_n 1, 1) := by decide +kernel
theorem dX5_throwIt_19 : decode cX5_throwIt 19 = .ok (.lsub, 1) := by decide +kernel
theorem dX5_throwIt_20 : decode cX5_throwIt 20 = .ok (.l2i, 1) := by decide +kernel
theorem dX5_throwIt_21 : decode cX5_throwIt 21 = .ok (.goto 4, 3) := by decide +kernel
theorem dX5_throwIt_24 : decode cX5_throwIt 24 = .ok (.iconst 1, 1) := by decide +kernel
theorem dX5_throwIt_25 : decode cX5_throwIt 25 = .ok (.invokevirtual 211, 3) := by decide +kernel
theorem dX5_throwIt_28 : decode cX5_throwIt 28 = .ok (.return_, 1) := by decide +kernel
theorem dX5_useElement_0 : decode cX5_useElement 0 = .ok (.iload_n 1, 1) := by decide +kernel
theorem dX5_useElement_1 : decode cX5_useElement 1 = .ok (.bipush 79, 2) := by decide +kernel
theorem dX5_useElement_3 : decode cX5_useElement 3 = .ok (.if_icmp .ne 11, 3) := by decide +kernel
theorem dX5_useElement_6 : decode cX5_useElement 6 = .ok (.aload_n 0, 1) := by decide +kernel
theorem dX5_useElement_7 : decode cX5_useElement 7 = .ok (.invokevirtual 141, 3) := by decide +kernel
theorem dX5_useElement_10 : decode cX5_useElement 10 = .ok (.l2i, 1) := by decide +kernel
theorem dX5_useElement_11 : decode cX5_useElement 11 = .ok (.goto 4, 3) := by decide +kernel
theorem dX5_useElement_14 : decode cX5_useElement 14 = .ok (.iconst 0, 1) := by decide +kernel
theorem dX5_useElement_15 : decode cX5_useElement 15 = .ok (.istore_n 2, 1) := by decide +kernel
theorem dX5_useElement_16 : decode cX5_useElement 16 = .ok (.aload_n 0, 1) := by decide +kernel
theorem dX5_useElement_17 : decode cX5_useElement 17 = .ok (.invokevirtual 141, 3) := by decide +kernel
theorem dX5_useElement_20 : decode cX5_useElement 20 = .ok (.l2i, 1) := by decide +kernel
theorem dX5_useElement_21 : decode cX5_useElement 21 = .ok (.istore_n 3, 1) := by decide +kernel
theorem dX5_useElement_22 : decode cX5_useElement 22 = .ok (.aload_n 0, 1) := by decide +kernel
theorem dX5_useElement_23 : decode cX5_useElement 23 = .ok (.invokevirtual 141, 3) := by decide +kernel
theorem dX5_useElement_26 : decode cX5_useElement 26 = .ok (.l2i, 1) := by decide +kernel
theorem dX5_useElement_27 : decode cX5_useElement 27 = .ok (.istore 4, 2) := by decide +kernel
theorem dX5_useElement_29 : decode cX5_useElement 29 = .ok (.iload 4, 2) := by decide +kernel
theorem dX5_useElement_31 : decode cX5_useElement 31 = .ok (.ifCond .ne 9, 3) := by decide +kernel
theorem dX5_useElement_34 : decode cX5_useElement 34 = .ok (.aload_n 0, 1) := by decide +kernel
theorem dX5_useElement_35 : decode cX5_useElement 35 = .ok (.iconst 1, 1) := by decide +kernel
theorem dX5_useElement_36 : decode cX5_useElement 36 = .ok (.invokevirtual 211, 3) := by decide +kernel
theorem dX5_useElement_39 : decode cX5_useElement 39 = .ok (.return_, 1) := by decide +kernel
theorem dX5_useElement_40 : decode cX5_useElement 40 = .ok (.iload_n 3, 1) := by decide +kernel
theorem dX5_useElement_41 : decode cX5_useElement 41 = .ok (.ifCond .lt 13, 3) := by decide +kernel
theorem dX5_useElement_44 : decode cX5_useElement 44 = .ok (.iload_n 3, 1) := by decide +kernel
theorem dX5_useElement_45 : decode cX5_useElement 45 = .ok (.aload_n 0, 1) := by decide +kernel
theorem dX5_useElement_46 : decode cX5_useElement 46 = .ok (.iload 4, 2) := by decide +kernel
theorem dX5_useElement_48 : decode cX5_useElement 48 = .ok (.invokevirtual 70, 3) := by decide +kernel
theorem dX5_useElement_51 : decode cX5_useElement 51 = .ok (.if_icmp .lt 9, 3) := by decide +kernel
theorem dX5_useElement_54 : decode cX5_useElement 54 = .ok (.aload_n 0, 1) := by decide +kernel
theorem dX5_useElement_55 : decode cX5_useElement 55 = .ok (.iconst 2, 1) := by decide +kernel
theorem dX5_useElement_56 : decode cX5_useElement 56 = .ok (.invokevirtual 211, 3) := by decide +kernel
theorem dX5_useElement_59 : decode cX5_useElement 59 = .ok (.return_, 1) := by decide +kernel
theorem dX5_useElement_60 : decode cX5_useElement 60 = .ok (.aload_n 0, 1) := by decide +kernel
theorem dX5_useElement_61 : decode cX5_useElement 61 = .ok (.iload 4, 2) := by decide +kernel
theorem dX5_useElement_63 : decode cX5_useElement 63 = .ok (.invokevirtual 66, 3) := by decide +kernel
theorem dX5_useElement_66 : decode cX5_useElement 66 = .ok (.iload_n 3, 1) := by decide +kernel
theorem dX5_useElement_67 : decode cX5_useElement 67 = .ok (.iadd, 1) := by decide +kernel
theorem dX5_useElement_68 : decode cX5_useElement 68 = .ok (.istore 5, 2) := by decide +kernel
theorem dX5_useElement_70 : decode cX5_useElement 70 = .ok (.iload_n 1, 1) := by decide +kernel
theorem dX5_useElement_71 : decode cX5_useElement 71 = .ok (.bipush 46, 2) := by decide +kernel
theorem dX5_useElement_73 : decode cX5_useElement 73 = .ok (.if_icmp .ne 17, 3) := by decide +kernel
theorem dX5_useElement_76 : decode cX5_useElement 76 = .ok (.aload_n 0, 1) := by decide +kernel
theorem dX5_useElement_77 : decode cX5_useElement 77 = .ok (.aload_n 0, 1) := by decide +kernel
theorem dX5_useElement_78 : decode cX5_useElement 78 = .ok (.iload 5, 2) := by decide +kernel
theorem dX5_useElement_80 : decode cX5_useElement 80 = .ok (.invokevirtual 73, 3) := by decide +kernel
theorem dX5_useElement_83 : decode cX5_useElement 83 = .ok (.i2l, 1) := by decide +kernel
theorem dX5_useElement_84 : decode cX5_useElement 84 = .ok (.invokevirtual 137, 3) := by decide +kernel
theorem dX5_useElement_87 : decode cX5_useElement 87 = .ok (.goto 26, 3) := by decide +kernel
theorem dX5_useElement_90 : decode cX5_useElement 90 = .ok (.iload 5, 2) := by decide +kernel
theorem dX5_useElement_92 : decode cX5_useElement 92 = .ok (.ifCond .lt 21, 3) := by decide +kernel
theorem dX5_useElement_95 : decode cX5_useElement 95 = .ok (.iload 5, 2) := by decide +kernel
theorem dX5_useElement_97 : decode cX5_useElement 97 = .ok (.aload_n 0, 1) := by decide +kernel
theorem dX5_useElement_98 : decode cX5_useElement 98 = .ok (.getfield 15, 3) := by decide +kernel
theorem dX5_useElement_101 : decode cX5_useElement 101 = .ok (.arraylength, 1) := by decide +kernel
theorem dX5_useElement_102 : decode cX5_useElement 102 = .ok (.if_icmp .ge 11, 3) := by decide +kernel
theorem dX5_useElement_105 : decode cX5_useElement 105 = .ok (.aload_n 0, 1) := by decide +kernel
theorem dX5_useElement_106 : decode cX5_useElement 106 = .ok (.getfield 15, 3) := by decide +kernel
theorem dX5_useElement_109 : decode cX5_useElement 109 = .ok (.iload 5, 2) := by decide +kernel
theorem dX5_useElement_111 : decode cX5_useElement 111 = .ok (.iload_n 2, 1) := by decide +kernel
theorem dX5_useElement_112 : decode cX5_useElement 112 = .ok (.iastore, 1) := by decide +kernel
theorem dX5_useElement_113 : decode cX5_useElement 113 = .ok (.aload_n 0, 1) := by decide +kernel
theorem dX5_useElement_114 : decode cX5_useElement 114 = .ok (.dup, 1) := by decide +kernel
theorem dX5_useElement_115 : decode cX5_useElement 115 = .ok (.getfield 123, 3) := by decide +kernel
theorem dX5_useElement_118 : decode cX5_useElement 118 = .ok (.iconst 1, 1) := by decide +kernel
theorem dX5_useElement_119 : decode cX5_useElement 119 = .ok (.iadd, 1) := by decide +kernel
theorem dX5_useElement_120 : decode cX5_useElement 120 = .ok (.putfield 123, 3) := by decide +kernel
theorem dX5_useElement_123 : decode cX5_useElement 123 = .ok (.return_, 1) := by decide +kernel
theorem dX5_useStage_0 : decode cX5_useStage 0 = .ok (.aload_n 0, 1) := by decide +kernel
theorem dX5_useStage_1 : decode cX5_useStage 1 = .ok (.getfield 119, 3) := by decide +kernel
theorem dX5_useStage_4 : decode cX5_useStage 4 = .ok (.aload_n 0, 1) := by decide +kernel
theorem dX5_useStage_5 : decode cX5_useStage 5 = .ok (.getfield 123, 3) := by decide +kernel
theorem dX5_useStage_8 : decode cX5_useStage 8 = .ok (.invokevirtual 184, 3) := by decide +kernel
theorem dX5_useStage_11 : decode cX5_useStage 11 = .ok (.l2i, 1) := by decide +kernel
theorem dX5_useStage_12 : decode cX5_useStage 12 = .ok (.istore_n 2, 1) := by decide +kernel
theorem dX5_useStage_13 : decode cX5_useStage 13 = .ok (.iload_n 1, 1) := by decide +kernel
theorem dX5_useStage_14 : decode cX5_useStage 14 = .ok (.lookupswitch 184 #[(46, 176), (79, 176), (178, 74), (179, 104), (184, 134), (188, 153), (190, 165), (191, 142)], 74) := by decide +kernel
theorem dX5_useStage_88 : decode cX5_useStage 88 = .ok (.aload_n 0, 1) := by decide +kernel
theorem dX5_useStage_89 : decode cX5_useStage 89 = .ok (.aload_n 0, 1) := by decide +kernel
theorem dX5_useStage_90 : decode cX5_useStage 90 = .ok (.getfield 38, 3) := by decide +kernel
theorem dX5_useStage_93 : decode cX5_useStage 93 = .ok (.iload_n 2, 1) := by decide +kernel
theorem dX5_useStage_94 : decode cX5_useStage 94 = .ok (.invokevirtual 243, 3) := by decide +kernel
theorem dX5_useStage_97 : decode cX5_useStage 97 = .ok (.aload_n 0, 1) := by decide +kernel
theorem dX5_useStage_98 : decode cX5_useStage 98 = .ok (.iload_n 2, 1) := by decide +kernel
theorem dX5_useStage_99 : decode cX5_useStage 99 = .ok (.invokevirtual 246, 3) := by decide +kernel
theorem dX5_useStage_102 : decode cX5_useStage 102 = .ok (.invokevirtual 176, 3) := by decide +kernel
theorem dX5_useStage_105 : decode cX5_useStage 105 = .ok (.aload_n 0, 1) := by decide +kernel
theorem dX5_useStage_106 : decode cX5_useStage 106 = .ok (.dup, 1) := by decide +kernel
theorem dX5_useStage_107 : decode cX5_useStage 107 = .ok (.getfield 123, 3) := by decide +kernel
theorem dX5_useStage_110 : decode cX5_useStage 110 = .ok (.iconst 1, 1) := by decide +kernel
theorem dX5_useStage_111 : decode cX5_useStage 111 = .ok (.iadd, 1) := by decide +kernel
theorem dX5_useStage_112 : decode cX5_useStage 112 = .ok (.putfield 123, 3) := by decide +kernel
theorem dX5_useStage_115 : decode cX5_useStage 115 = .ok (.goto 103, 3) := by decide +kernel
theorem dX5_useStage_118 : decode cX5_useStage 118 = .ok (.aload_n 0, 1) := by decide +kernel
theorem dX5_useStage_119 : decode cX5_useStage 119 = .ok (.iload_n 2, 1) := by decide +kernel
theorem dX5_useStage_120 : decode cX5_useStage 120 = .ok (.aload_n 0, 1) := by decide +kernel
theorem dX5_useStage_121 : decode cX5_useStage 121 = .ok (.aload_n 0, 1) := by decide +kernel
theorem dX5_useStage_122 : decode cX5_useStage 122 = .ok (.getfield 38, 3) := by decide +kernel
theorem dX5_useStage_125 : decode cX5_useStage 125 = .ok (.iload_n 2, 1) := by decide +kernel
theorem dX5_useStage_126 : decode cX5_useStage 126 = .ok (.invokevirtual 243, 3) := by decide +kernel
theorem dX5_useStage_129 : decode cX5_useStage 129 = .ok (.invokevirtual 169, 3) := by decide +kernel
theorem dX5_useStage_132 : decode cX5_useStage 132 = .ok (.invokevirtual 249, 3) := by decide +kernel
theorem dX5_useStage_135 : decode cX5_useStage 135 = .ok (.aload_n 0, 1) := by decide +kernel
theorem dX5_useStage_136 : decode cX5_useStage 136 = .ok (.dup, 1) := by decide +kernel
theorem dX5_useStage_137 : decode cX5_useStage 137 = .ok (.getfield 123, 3) := by decide +kernel
theorem dX5_useStage_140 : decode cX5_useStage 140 = .ok (.iconst 1, 1) := by decide +kernel
theorem dX5_useStage_141 : decode cX5_useStage 141 = .ok (.iadd, 1) := by decide +kernel
theorem dX5_useStage_142 : decode cX5_useStage 142 = .ok (.putfield 123, 3) := by decide +kernel
theorem dX5_useStage_145 : decode cX5_useStage 145 = .ok (.goto 73, 3) := by decide +kernel
theorem dX5_useStage_148 : decode cX5_useStage 148 = .ok (.aload_n 0, 1) := by decide +kernel
theorem dX5_useStage_149 : decode cX5_useStage 149 = .ok (.iload_n 2, 1) := by decide +kernel
theorem dX5_useStage_150 : decode cX5_useStage 150 = .ok (.invokevirtual 252, 3) := by decide +kernel
theorem dX5_useStage_153 : decode cX5_useStage 153 = .ok (.goto 65, 3) := by decide +kernel
theorem dX5_useStage_156 : decode cX5_useStage 156 = .ok (.aload_n 0, 1) := by decide +kernel
theorem dX5_useStage_157 : decode cX5_useStage 157 = .ok (.aload_n 0, 1) := by decide +kernel
theorem dX5_useStage_158 : decode cX5_useStage 158 = .ok (.invokevirtual 141, 3) := by decide +kernel
theorem dX5_useStage_161 : decode cX5_useStage 161 = .ok (.invokevirtual 255, 3) := by decide +kernel
theorem dX5_useStage_164 : decode cX5_useStage 164 = .ok (.goto 54, 3) := by decide +kernel
theorem dX5_useStage_167 : decode cX5_useStage 167 = .ok (.aload_n 0, 1) := by decide +kernel

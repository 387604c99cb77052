theorem dX5_useElement_101 : decode cX5_useElement 101 = .ok (.arraylength, 1) := by decide +kernel
theorem dX5_useElement_102 : decode cX5_useElement 102 = .ok (.if_icmp .ge 11, 3) := by decide +kernel
theorem dX5_useElement_105 : decode cX5_useElement 105 = .ok (.aload_n 0, 1) := by decide +kernel
theorem dX5_useElement_106 : decode cX5_useElement 106 = .ok (.getfield 15, 3) := by decide +kernel
theorem dX5_useElement_109 : decode cX5_useElement 109 = .ok (.iload 5, 2) := by decide +kernel
theorem dX5_useElement_111 : decode cX5_useElement 111 = .ok (.iload_n 2, 1) := by decide +kernel
theorem dX5_useElement_112 : decode cX5_useElement 112 = .ok (.iastore, 1) := by decide +kernel
theorem dX5_useElement_113 : decode cX5_useElement 113 = .ok (.aload_n 0, 1) := by decide +kernel
theorem dX5_useElement_114 : decode cX5_useElement 114 = .ok (.dup, 1) := by decide +kernel
theorem dX5_useElement_115 : decode cX5_useElement 115 = .ok (.getfield 123, 3) := by decide +kernel
theorem dX5_useElement_118 : decode cX5_useElement 118 = .ok (.iconst 1, 1) := by decide +kernel
theorem dX5_useElement_119 : decode cX5_useElement 119 = .ok (.iadd, 1) := by decide +kernel
theorem dX5_useElement_120 : decode cX5_useElement 120 = .ok (.putfield 123, 3) := by decide +kernel
theorem dX5_useElement_123 : decode cX5_useElement 123 = .ok (.return_, 1) := by decide +kernel
theorem dX5_useStage_0 : decode cX5_useStage 0 = .ok (.aload_n 0, 1) := by decide +kernel
theorem dX5_useStage_1 : decode cX5_useStage 1 = .ok (.getfield 119, 3) := by decide +kernel
theorem dX5_useStage_4 : decode cX5_useStage 4 = .ok (.aload_n 0, 1) := by decide +kernel
theorem dX5_useStage_5 : decode cX5_useStage 5 = .ok (.getfield 123, 3) := by decide +kernel
theorem dX5_useStage_8 : decode cX5_useStage 8 = .ok (.invokevirtual 184, 3) := by decide +kernel
theorem dX5_useStage_11 : decode cX5_useStage 11 = .ok (.l2i, 1) := by decide +kernel
theorem dX5_useStage_12 : decode cX5_useStage 12 = .ok (.istore_n 2, 1) := by decide +kernel
theorem dX5_useStage_13 : decode cX5_useStage 13 = .ok (.iload_n 1, 1) := by decide +kernel
theorem dX5_useStage_14 : decode cX5_useStage 14 = .ok (.lookupswitch 184 #[(46, 176), (79, 176), (178, 74), (179, 104), (184, 134), (188, 153), (190, 165), (191, 142)], 74) := by decide +kernel
theorem dX5_useStage_88 : decode cX5_useStage 88 = .ok (.aload_n 0, 1) := by decide +kernel
theorem dX5_useStage_89 : decode cX5_useStage 89 = .ok (.aload_n 0, 1) := by decide +kernel
theorem dX5_useStage_90 : decode cX5_useStage 90 = .ok (.getfield 38, 3) := by decide +kernel
theorem dX5_useStage_93 : decode cX5_useStage 93 = .ok (.iload_n 2, 1) := by decide +kernel
theorem dX5_useStage_94 : decode cX5_useStage 94 = .ok (.invokevirtual 243, 3) := by decide +kernel
theorem dX5_useStage_97 : decode cX5_useStage 97 = .ok (.aload_n 0, 1) := by decide +kernel
theorem dX5_useStage_98 : decode cX5_useStage 98 = .ok (.iload_n 2, 1) := by decide +kernel
theorem dX5_useStage_99 : decode cX5_useStage 99 = .ok (.invokevirtual 246, 3) := by decide +kernel
theorem dX5_useStage_102 : decode cX5_useStage 102 = .ok (.invokevirtual 176, 3) := by decide +kernel
theorem dX5_useStage_105 : decode cX5_useStage 105 = .ok (.aload_n 0, 1) := by decide +kernel
theorem dX5_useStage_106 : decode cX5_useStage 106 = .ok (.dup, 1) := by decide +kernel
theorem dX5_useStage_107 : decode cX5_useStage 107 = .ok (.getfield 123, 3) := by decide +kernel
theorem dX5_useStage_110 : decode cX5_useStage 110 = .ok (.iconst 1, 1) := by decide +kernel
theorem dX5_useStage_111 : decode cX5_useStage 111 = .ok (.iadd, 1) := by decide +kernel
theorem dX5_useStage_112 : decode cX5_useStage 112 = .ok (.putfield 123, 3) := by decide +kernel
theorem dX5_useStage_115 : decode cX5_useStage 115 = .ok (.goto 103, 3) := by decide +kernel
theorem dX5_useStage_118 : decode cX5_useStage 118 = .ok (.aload_n 0, 1) := by decide +kernel
theorem dX5_useStage_119 : decode cX5_useStage 119 = .ok (.iload_n 2, 1) := by decide +kernel
theorem dX5_useStage_120 : decode cX5_useStage 120 = .ok (.aload_n 0, 1) := by decide +kernel
theorem dX5_useStage_121 : decode cX5_useStage 121 = .ok (.aload_n 0, 1) := by decide +kernel
theorem dX5_useStage_122 : decode cX5_useStage 122 = .ok (.getfield 38, 3) := by decide +kernel
theorem dX5_useStage_125 : decode cX5_useStage 125 = .ok (.iload_n 2, 1) := by decide +kernel
theorem dX5_useStage_126 : decode cX5_useStage 126 = .ok (.invokevirtual 243, 3) := by decide +kernel
theorem dX5_useStage_129 : decode cX5_useStage 129 = .ok (.invokevirtual 169, 3) := by decide +kernel
theorem dX5_useStage_132 : decode cX5_useStage 132 = .ok (.invokevirtual 249, 3) := by decide +kernel
theorem dX5_useStage_135 : decode cX5_useStage 135 = .ok (.aload_n 0, 1) := by decide +kernel
theorem dX5_useStage_136 : decode cX5_useStage 136 = .ok (.dup, 1) := by decide +kernel
theorem dX5_useStage_137 : decode cX5_useStage 137 = .ok (.getfield 123, 3) := by decide +kernel
theorem dX5_useStage_140 : decode cX5_useStage 140 = .ok (.iconst 1, 1) := by decide +kernel
theorem dX5_useStage_141 : decode cX5_useStage 141 = .ok (.iadd, 1) := by decide +kernel
theorem dX5_useStage_142 : decode cX5_useStage 142 = .ok (.putfield 123, 3) := by decide +kernel
theorem dX5_useStage_145 : decode cX5_useStage 145 = .ok (.goto 73, 3) := by decide +kernel
theorem dX5_useStage_148 : decode cX5_useStage 148 = .ok (.aload_n 0, 1) := by decide +kernel
theorem dX5_useStage_149 : decode cX5_useStage 149 = .ok (.iload_n 2, 1) := by decide +kernel
theorem dX5_useStage_150 : decode cX5_useStage 150 = .ok (.invokevirtual 252, 3) := by decide +kernel
theorem dX5_useStage_153 : decode cX5_useStage 153 = .ok (.goto 65, 3) := by decide +kernel
theorem dX5_useStage_156 : decode cX5_useStage 156 = .ok (.aload_n 0, 1) := by decide +kernel
theorem dX5_useStage_157 : decode cX5_useStage 157 = .ok (.aload_n 0, 1) := by decide +kernel
theorem dX5_useStage_158 : decode cX5_useStage 158 = .ok (.invokevirtual 141, 3) := by decide +kernel
theorem dX5_useStage_161 : decode cX5_useStage 161 = .ok (.invokevirtual 255, 3) := by decide +kernel
theorem dX5_useStage_164 : decode cX5_useStage 164 = .ok (.goto 54, 3) := by decide +kernel
theorem dX5_useStage_167 : decode cX5_useStage 167 = .ok (.aload_n 0, 1) := by decide +kernel
theorem dX5_useStage_168 : decode cX5_useStage 168 = .ok (.aload_n 0, 1) := by decide +kernel
theorem dX5_useStage_169 : decode cX5_useStage 169 = .ok (.invokevirtual 141, 3) := by decide +kernel
theorem dX5_useStage_172 : decode cX5_useStage 172 = .ok (.l2i, 1) := by decide +kernel
theorem dX5_useStage_173 : decode cX5_useStage 173 = .ok (.invokevirtual 258, 3) := by decide +kernel
theorem dX5_useStage_176 : decode cX5_useStage 176 = .ok (.goto 42, 3) := by decide +kernel
theorem dX5_useStage_179 : decode cX5_useStage 179 = .ok (.aload_n 0, 1) := by decide +kernel
theorem dX5_useStage_180 : decode cX5_useStage 180 = .ok (.aload_n 0, 1) := by decide +kernel
theorem dX5_useStage_181 : decode cX5_useStage 181 = .ok (.invokevirtual 141, 3) := by decide +kernel
theorem dX5_useStage_184 : decode cX5_useStage 184 = .ok (.invokevirtual 261, 3) := by decide +kernel
theorem dX5_useStage_187 : decode cX5_useStage 187 = .ok (.goto 31, 3) := by decide +kernel
theorem dX5_useStage_190 : decode cX5_useStage 190 = .ok (.aload_n 0, 1) := by decide +kernel
theorem dX5_useStage_191 : decode cX5_useStage 191 = .ok (.iload_n 1, 1) := by decide +kernel
theorem dX5_useStage_192 : decode cX5_useStage 192 = .ok (.invokevirtual 264, 3) := by decide +kernel
theorem dX5_useStage_195 : decode cX5_useStage 195 = .ok (.goto 23, 3) := by decide +kernel
theorem dX5_useStage_198 : decode cX5_useStage 198 = .ok (.aload_n 0, 1) := by decide +kernel
theorem dX5_useStage_199 : decode cX5_useStage 199 = .ok (.dup, 1) := by decide +kernel
theorem dX5_useStage_200 : decode cX5_useStage 200 = .ok (.getfield 76, 3) := by decide +kernel
theorem dX5_useStage_203 : decode cX5_useStage 203 = .ok (.iconst 1, 1) := by decide +kernel
theorem dX5_useStage_204 : decode cX5_useStage 204 = .ok (.iadd, 1) := by decide +kernel
theorem dX5_useStage_205 : decode cX5_useStage 205 = .ok (.putfield 76, 3) := by decide +kernel
theorem dX5_useStage_208 : decode cX5_useStage 208 = .ok (.aload_n 0, 1) := by decide +kernel
theorem dX5_useStage_209 : decode cX5_useStage 209 = .ok (.dup, 1) := by decide +kernel
theorem dX5_useStage_210 : decode cX5_useStage 210 = .ok (.getfield 123, 3) := by decide +kernel
theorem dX5_useStage_213 : decode cX5_useStage 213 = .ok (.iconst 1, 1) := by decide +kernel
theorem dX5_useStage_214 : decode cX5_useStage 214 = .ok (.iadd, 1) := by decide +kernel
theorem dX5_useStage_215 : decode cX5_useStage 215 = .ok (.putfield 123, 3) := by decide +kernel
theorem dX5_useStage_218 : decode cX5_useStage 218 = .ok (.return_, 1) := by decide +kernel
theorem dX6_binary_0 : decode cX6_binary 0 = .ok (.iload_n 0, 1) := by decide +kernel
theorem dX6_binary_1 : decode cX6_binary 1 = .ok (.sipush 148, 3) := by decide +kernel
theorem dX6_binary_4 : decode cX6_binary 4 = .ok (.if_icmp .ne 10, 3) := by decide +kernel
theorem dX6_binary_7 : decode cX6_binary 7 = .ok (.lload_n 1, 1) := by decide +kernel
theorem dX6_binary_8 : decode cX6_binary 8 = .ok (.lload_n 3, 1) := by decide +kernel
theorem dX6_binary_9 : decode cX6_binary 9 = .ok (.invokestatic 32, 3) := by decide +kernel
theorem dX6_binary_12 : decode cX6_binary 12 = .ok (.i2l, 1) := by decide +kernel
theorem dX6_binary_13 : decode cX6_binary 13 = .ok (.lreturn, 1) := by decide +kernel
theorem dX6_binary_14 : decode cX6_binary 14 = .ok (.iload_n 0, 1) := by decide +kernel
theorem dX6_binary_15 : decode cX6_binary 15 = .ok (.invokestatic 38, 3) := by decide +kernel
theorem dX6_binary_18 : decode cX6_binary 18 = .ok (.lookupswitch 47 #[(17, 26), (33, 36)], 26) := by decide +kernel
theorem dX6_binary_44 : decode cX6_binary 44 = .ok (.iload_n 0, 1) := by decide +kernel
theorem dX6_binary_45 : decode cX6_binary 45 = .ok (.lload_n 1, 1) := by decide +kernel
theorem dX6_binary_46 : decode cX6_binary 46 = .ok (.l2i, 1) := by decide +kernel
theorem dX6_binary_47 : decode cX6_binary 47 = .ok (.lload_n 3, 1) := by decide +kernel
theorem dX6_binary_48 : decode cX6_binary 48 = .ok (.l2i, 1) := by decide +kernel
theorem dX6_binary_49 : decode cX6_binary 49 = .ok (.invokestatic 41, 3) := by decide +kernel
theorem dX6_binary_52 : decode cX6_binary 52 = .ok (.i2l, 1) := by decide +kernel
theorem dX6_binary_53 : decode cX6_binary 53 = .ok (.lreturn, 1) := by decide +kernel
theorem dX6_binary_54 : decode cX6_binary 54 = .ok (.iload_n 0, 1) := by decide +kernel
theorem dX6_binary_55 : decode cX6_binary 55 = .ok (.lload_n 1, 1) := by decide +kernel
theorem dX6_binary_56 : decode cX6_binary 56 = .ok (.lload_n 3, 1) := by decide +kernel
theorem dX6_binary_57 : decode cX6_binary 57 = .ok (.ldc2_w 45, 3) := by decide +kernel
theorem dX6_binary_60 : decode cX6_binary 60 = .ok (.land, 1) := by decide +kernel
theorem dX6_binary_61 : decode cX6_binary 61 = .ok (.invokestatic 47, 3) := by decide +kernel
theorem dX6_binary_64 : decode cX6_binary 64 = .ok (.lreturn, 1) := by decide +kernel
theorem dX6_binary_65 : decode cX6_binary 65 = .ok (.iload_n 0, 1) := by decide +kernel
theorem dX6_binary_66 : decode cX6_binary 66 = .ok (.lload_n 1, 1) := by decide +kernel
theorem dX6_binary_67 : decode cX6_binary 67 = .ok (.lload_n 3, 1) := by decide +kernel
theorem dX6_binary_68 : decode cX6_binary 68 = .ok (.invokestatic 47, 3) := by decide +kernel
theorem dX6_binary_71 : decode cX6_binary 71 = .ok (.lreturn, 1) := by decide +kernel
theorem dX6_errorName_0 : decode cX6_errorName 0 = .ok (.iload_n 0, 1) := by decide +kernel
theorem dX6_errorName_1 : decode cX6_errorName 1 = .ok (.tableswitch 36 0 2 #[27, 30, 33], 27) := by decide +kernel
theorem dX6_errorName_28 : decode cX6_errorName 28 = .ok (.ldc 51, 2) := by decide +kernel
theorem dX6_errorName_30 : decode cX6_errorName 30 = .ok (.areturn, 1) := by decide +kernel
theorem dX6_errorName_31 : decode cX6_errorName 31 = .ok (.ldc 53, 2) := by decide +kernel
theorem dX6_errorName_33 : decode cX6_errorName 33 = .ok (.areturn, 1) := by decide +kernel
theorem dX6_errorName_34 : decode cX6_errorName 34 = .ok (.ldc 55, 2) := by decide +kernel
theorem dX6_errorName_36 : decode cX6_errorName 36 = .ok (.areturn, 1) := by decide +kernel
theorem dX6_errorName_37 : decode cX6_errorName 37 = .ok (.ldc 57, 2) := by decide +kernel
theorem dX6_errorName_39 : decode cX6_errorName 39 = .ok (.areturn, 1) := by decide +kernel
theorem dX6_gives_0 : decode cX6_gives 0 = .ok (.iload_n 0, 1) := by decide +kernel
theorem dX6_gives_1 : decode cX6_gives 1 = .ok (.ifCond .lt 11, 3) := by decide +kernel
theorem dX6_gives_4 : decode cX6_gives 4 = .ok (.iload_n 0, 1) := by decide +kernel
theorem dX6_gives_5 : decode cX6_gives 5 = .ok (.getstatic 25, 3) := by decide +kernel
theorem dX6_gives_8 : decode cX6_gives 8 = .ok (.arraylength, 1) := by decide +kernel
theorem dX6_gives_9 : decode cX6_gives 9 = .ok (.if_icmp .lt 7, 3) := by decide +kernel
theorem dX6_gives_12 : decode cX6_gives 12 = .ok (.iconst 0, 1) := by decide +kernel
theorem dX6_gives_13 : decode cX6_gives 13 = .ok (.goto 8, 3) := by decide +kernel
theorem dX6_gives_16 : decode cX6_gives 16 = .ok (.getstatic 25, 3) := by decide +kernel
theorem dX6_gives_19 : decode cX6_gives 19 = .ok (.iload_n 0, 1) := by decide +kernel
theorem dX6_gives_20 : decode cX6_gives 20 = .ok (.iaload, 1) := by decide +kernel
theorem dX6_gives_21 : decode cX6_gives 21 = .ok (.ireturn, 1) := by decide +kernel
theorem dX6_goesOn_0 : decode cX6_goesOn 0 = .ok (.iload_n 0, 1) := by decide +kernel
theorem dX6_goesOn_1 : decode cX6_goesOn 1 = .ok (.sipush 167, 3) := by decide +kernel
theorem dX6_goesOn_4 : decode cX6_goesOn 4 = .ok (.if_icmp .eq 28, 3) := by decide +kernel
theorem dX6_goesOn_7 : decode cX6_goesOn 7 = .ok (.iload_n 0, 1) := by decide +kernel
theorem dX6_goesOn_8 : decode cX6_goesOn 8 = .ok (.sipush 191, 3) := by decide +kernel

theorem dX1_give_12 : decode cX1_give 12 = .ok (.iload_n 1, 1) := by decide +kernel
theorem dX1_give_13 : decode cX1_give 13 = .ok (.iconst 2, 1) := by decide +kernel
theorem dX1_give_14 : decode cX1_give 14 = .ok (.if_icmp .ne 8, 3) := by decide +kernel
theorem dX1_give_17 : decode cX1_give 17 = .ok (.aload_n 0, 1) := by decide +kernel
theorem dX1_give_18 : decode cX1_give 18 = .ok (.iconst 3, 1) := by decide +kernel
theorem dX1_give_19 : decode cX1_give 19 = .ok (.invokevirtual 211, 3) := by decide +kernel
theorem dX1_give_22 : decode cX1_give 22 = .ok (.return_, 1) := by decide +kernel
theorem dX1_goThrough_0 : decode cX1_goThrough 0 = .ok (.aload_n 0, 1) := by decide +kernel
theorem dX1_goThrough_1 : decode cX1_goThrough 1 = .ok (.getfield 36, 3) := by decide +kernel
theorem dX1_goThrough_4 : decode cX1_goThrough 4 = .ok (.iload_n 1, 1) := by decide +kernel
theorem dX1_goThrough_5 : decode cX1_goThrough 5 = .ok (.invokevirtual 149, 3) := by decide +kernel
theorem dX1_goThrough_8 : decode cX1_goThrough 8 = .ok (.istore_n 2, 1) := by decide +kernel
theorem dX1_goThrough_9 : decode cX1_goThrough 9 = .ok (.iload_n 2, 1) := by decide +kernel
theorem dX1_goThrough_10 : decode cX1_goThrough 10 = .ok (.bipush 87, 2) := by decide +kernel
theorem dX1_goThrough_12 : decode cX1_goThrough 12 = .ok (.if_icmp .lt 17, 3) := by decide +kernel
theorem dX1_goThrough_15 : decode cX1_goThrough 15 = .ok (.iload_n 2, 1) := by decide +kernel
theorem dX1_goThrough_16 : decode cX1_goThrough 16 = .ok (.bipush 95, 2) := by decide +kernel
theorem dX1_goThrough_18 : decode cX1_goThrough 18 = .ok (.if_icmp .gt 11, 3) := by decide +kernel
theorem dX1_goThrough_21 : decode cX1_goThrough 21 = .ok (.aload_n 0, 1) := by decide +kernel
theorem dX1_goThrough_22 : decode cX1_goThrough 22 = .ok (.iload_n 2, 1) := by decide +kernel
theorem dX1_goThrough_23 : decode cX1_goThrough 23 = .ok (.invokevirtual 164, 3) := by decide +kernel
theorem dX1_goThrough_26 : decode cX1_goThrough 26 = .ok (.goto 191, 3) := by decide +kernel
theorem dX1_goThrough_29 : decode cX1_goThrough 29 = .ok (.iload_n 2, 1) := by decide +kernel
theorem dX1_goThrough_30 : decode cX1_goThrough 30 = .ok (.invokestatic 167, 3) := by decide +kernel
theorem dX1_goThrough_33 : decode cX1_goThrough 33 = .ok (.ifCond .eq 19, 3) := by decide +kernel
theorem dX1_goThrough_36 : decode cX1_goThrough 36 = .ok (.aload_n 0, 1) := by decide +kernel
theorem dX1_goThrough_37 : decode cX1_goThrough 37 = .ok (.iload_n 2, 1) := by decide +kernel
theorem dX1_goThrough_38 : decode cX1_goThrough 38 = .ok (.aload_n 0, 1) := by decide +kernel
theorem dX1_goThrough_39 : decode cX1_goThrough 39 = .ok (.getfield 36, 3) := by decide +kernel
theorem dX1_goThrough_42 : decode cX1_goThrough 42 = .ok (.iload_n 1, 1) := by decide +kernel
theorem dX1_goThrough_43 : decode cX1_goThrough 43 = .ok (.invokevirtual 170, 3) := by decide +kernel
theorem dX1_goThrough_46 : decode cX1_goThrough 46 = .ok (.invokevirtual 173, 3) := by decide +kernel
theorem dX1_goThrough_49 : decode cX1_goThrough 49 = .ok (.goto 168, 3) := by decide +kernel
theorem dX1_goThrough_52 : decode cX1_goThrough 52 = .ok (.iload_n 2, 1) := by decide +kernel
theorem dX1_goThrough_53 : decode cX1_goThrough 53 = .ok (.invokestatic 176, 3) := by decide +kernel
theorem dX1_goThrough_56 : decode cX1_goThrough 56 = .ok (.ifCond .eq 19, 3) := by decide +kernel
theorem dX1_goThrough_59 : decode cX1_goThrough 59 = .ok (.aload_n 0, 1) := by decide +kernel
theorem dX1_goThrough_60 : decode cX1_goThrough 60 = .ok (.iload_n 2, 1) := by decide +kernel
theorem dX1_goThrough_61 : decode cX1_goThrough 61 = .ok (.aload_n 0, 1) := by decide +kernel
theorem dX1_goThrough_62 : decode cX1_goThrough 62 = .ok (.getfield 36, 3) := by decide +kernel
theorem dX1_goThrough_65 : decode cX1_goThrough 65 = .ok (.iload_n 1, 1) := by decide +kernel
theorem dX1_goThrough_66 : decode cX1_goThrough 66 = .ok (.invokevirtual 170, 3) := by decide +kernel
theorem dX1_goThrough_69 : decode cX1_goThrough 69 = .ok (.invokevirtual 179, 3) := by decide +kernel
theorem dX1_goThrough_72 : decode cX1_goThrough 72 = .ok (.goto 145, 3) := by decide +kernel
theorem dX1_goThrough_75 : decode cX1_goThrough 75 = .ok (.iload_n 2, 1) := by decide +kernel
theorem dX1_goThrough_76 : decode cX1_goThrough 76 = .ok (.sipush 132, 3) := by decide +kernel
theorem dX1_goThrough_79 : decode cX1_goThrough 79 = .ok (.if_icmp .ne 36, 3) := by decide +kernel
theorem dX1_goThrough_82 : decode cX1_goThrough 82 = .ok (.aload_n 0, 1) := by decide +kernel
theorem dX1_goThrough_83 : decode cX1_goThrough 83 = .ok (.dup, 1) := by decide +kernel
theorem dX1_goThrough_84 : decode cX1_goThrough 84 = .ok (.getfield 161, 3) := by decide +kernel
theorem dX1_goThrough_87 : decode cX1_goThrough 87 = .ok (.aload_n 0, 1) := by decide +kernel
theorem dX1_goThrough_88 : decode cX1_goThrough 88 = .ok (.aload_n 0, 1) := by decide +kernel
theorem dX1_goThrough_89 : decode cX1_goThrough 89 = .ok (.getfield 36, 3) := by decide +kernel
theorem dX1_goThrough_92 : decode cX1_goThrough 92 = .ok (.iload_n 1, 1) := by decide +kernel
theorem dX1_goThrough_93 : decode cX1_goThrough 93 = .ok (.invokevirtual 170, 3) := by decide +kernel
theorem dX1_goThrough_96 : decode cX1_goThrough 96 = .ok (.invokevirtual 182, 3) := by decide +kernel
theorem dX1_goThrough_99 : decode cX1_goThrough 99 = .ok (.iconst 1, 1) := by decide +kernel
theorem dX1_goThrough_100 : decode cX1_goThrough 100 = .ok (.if_icmp .eq 7, 3) := by decide +kernel
theorem dX1_goThrough_103 : decode cX1_goThrough 103 = .ok (.iconst 1, 1) := by decide +kernel
theorem dX1_goThrough_104 : decode cX1_goThrough 104 = .ok (.goto 4, 3) := by decide +kernel
theorem dX1_goThrough_107 : decode cX1_goThrough 107 = .ok (.iconst 0, 1) := by decide +kernel
theorem dX1_goThrough_108 : decode cX1_goThrough 108 = .ok (.ior, 1) := by decide +kernel
theorem dX1_goThrough_109 : decode cX1_goThrough 109 = .ok (.putfield 161, 3) := by decide +kernel
theorem dX1_goThrough_112 : decode cX1_goThrough 112 = .ok (.goto 105, 3) := by decide +kernel
theorem dX1_goThrough_115 : decode cX1_goThrough 115 = .ok (.aload_n 0, 1) := by decide +kernel
theorem dX1_goThrough_116 : decode cX1_goThrough 116 = .ok (.getfield 32, 3) := by decide +kernel
theorem dX1_goThrough_119 : decode cX1_goThrough 119 = .ok (.aload_n 0, 1) := by decide +kernel
theorem dX1_goThrough_120 : decode cX1_goThrough 120 = .ok (.getfield 36, 3) := by decide +kernel
theorem dX1_goThrough_123 : decode cX1_goThrough 123 = .ok (.iload_n 1, 1) := by decide +kernel
theorem dX1_goThrough_124 : decode cX1_goThrough 124 = .ok (.invokevirtual 185, 3) := by decide +kernel
theorem dX1_goThrough_127 : decode cX1_goThrough 127 = .ok (.istore_n 3, 1) := by decide +kernel
theorem dX1_goThrough_128 : decode cX1_goThrough 128 = .ok (.iload_n 3, 1) := by decide +kernel
theorem dX1_goThrough_129 : decode cX1_goThrough 129 = .ok (.istore 4, 2) := by decide +kernel
theorem dX1_goThrough_131 : decode cX1_goThrough 131 = .ok (.iload 4, 2) := by decide +kernel
theorem dX1_goThrough_133 : decode cX1_goThrough 133 = .ok (.ifCond .le 22, 3) := by decide +kernel
theorem dX1_goThrough_136 : decode cX1_goThrough 136 = .ok (.aload_n 0, 1) := by decide +kernel
theorem dX1_goThrough_137 : decode cX1_goThrough 137 = .ok (.iload 4, 2) := by decide +kernel
theorem dX1_goThrough_139 : decode cX1_goThrough 139 = .ok (.bipush 15, 2) := by decide +kernel
theorem dX1_goThrough_141 : decode cX1_goThrough 141 = .ok (.iand, 1) := by decide +kernel
theorem dX1_goThrough_142 : decode cX1_goThrough 142 = .ok (.invokevirtual 189, 3) := by decide +kernel
theorem dX1_goThrough_145 : decode cX1_goThrough 145 = .ok (.pop, 1) := by decide +kernel
theorem dX1_goThrough_146 : decode cX1_goThrough 146 = .ok (.iload 4, 2) := by decide +kernel
theorem dX1_goThrough_148 : decode cX1_goThrough 148 = .ok (.iconst 4, 1) := by decide +kernel
theorem dX1_goThrough_149 : decode cX1_goThrough 149 = .ok (.ishr, 1) := by decide +kernel
theorem dX1_goThrough_150 : decode cX1_goThrough 150 = .ok (.istore 4, 2) := by decide +kernel
theorem dX1_goThrough_152 : decode cX1_goThrough 152 = .ok (.goto (-21), 3) := by decide +kernel
theorem dX1_goThrough_155 : decode cX1_goThrough 155 = .ok (.aload_n 0, 1) := by decide +kernel
theorem dX1_goThrough_156 : decode cX1_goThrough 156 = .ok (.aload_n 0, 1) := by decide +kernel
theorem dX1_goThrough_157 : decode cX1_goThrough 157 = .ok (.getfield 32, 3) := by decide +kernel
theorem dX1_goThrough_160 : decode cX1_goThrough 160 = .ok (.aload_n 0, 1) := by decide +kernel
theorem dX1_goThrough_161 : decode cX1_goThrough 161 = .ok (.getfield 36, 3) := by decide +kernel
theorem dX1_goThrough_164 : decode cX1_goThrough 164 = .ok (.iload_n 1, 1) := by decide +kernel
theorem dX1_goThrough_165 : decode cX1_goThrough 165 = .ok (.invokevirtual 192, 3) := by decide +kernel
theorem dX1_goThrough_168 : decode cX1_goThrough 168 = .ok (.invokevirtual 195, 3) := by decide +kernel
theorem dX1_goThrough_171 : decode cX1_goThrough 171 = .ok (.aload_n 0, 1) := by decide +kernel
theorem dX1_goThrough_172 : decode cX1_goThrough 172 = .ok (.dup, 1) := by decide +kernel
theorem dX1_goThrough_173 : decode cX1_goThrough 173 = .ok (.getfield 161, 3) := by decide +kernel
theorem dX1_goThrough_176 : decode cX1_goThrough 176 = .ok (.iload_n 2, 1) := by decide +kernel
theorem dX1_goThrough_177 : decode cX1_goThrough 177 = .ok (.sipush 172, 3) := by decide +kernel
theorem dX1_goThrough_180 : decode cX1_goThrough 180 = .ok (.if_icmp .lt 32, 3) := by decide +kernel
theorem dX1_goThrough_183 : decode cX1_goThrough 183 = .ok (.iload_n 2, 1) := by decide +kernel
theorem dX1_goThrough_184 : decode cX1_goThrough 184 = .ok (.sipush 177, 3) := by decide +kernel
theorem dX1_goThrough_187 : decode cX1_goThrough 187 = .ok (.if_icmp .gt 25, 3) := by decide +kernel
theorem dX1_goThrough_190 : decode cX1_goThrough 190 = .ok (.iload_n 3, 1) := by decide +kernel
theorem dX1_goThrough_191 : decode cX1_goThrough 191 = .ok (.aload_n 0, 1) := by decide +kernel
theorem dX1_goThrough_192 : decode cX1_goThrough 192 = .ok (.getfield 32, 3) := by decide +kernel
theorem dX1_goThrough_195 : decode cX1_goThrough 195 = .ok (.aload_n 0, 1) := by decide +kernel
theorem dX1_goThrough_196 : decode cX1_goThrough 196 = .ok (.getfield 36, 3) := by decide +kernel
theorem dX1_goThrough_199 : decode cX1_goThrough 199 = .ok (.getfield 78, 3) := by decide +kernel
theorem dX1_goThrough_202 : decode cX1_goThrough 202 = .ok (.invokevirtual 198, 3) := by decide +kernel
theorem dX1_goThrough_205 : decode cX1_goThrough 205 = .ok (.if_icmp .eq 7, 3) := by decide +kernel
theorem dX1_goThrough_208 : decode cX1_goThrough 208 = .ok (.iconst 1, 1) := by decide +kernel
theorem dX1_goThrough_209 : decode cX1_goThrough 209 = .ok (.goto 4, 3) := by decide +kernel
theorem dX1_goThrough_212 : decode cX1_goThrough 212 = .ok (.iconst 0, 1) := by decide +kernel
theorem dX1_goThrough_213 : decode cX1_goThrough 213 = .ok (.ior, 1) := by decide +kernel
theorem dX1_goThrough_214 : decode cX1_goThrough 214 = .ok (.putfield 161, 3) := by decide +kernel
theorem dX1_goThrough_217 : decode cX1_goThrough 217 = .ok (.return_, 1) := by decide +kernel
theorem dX1_hasBadTypes_0 : decode cX1_hasBadTypes 0 = .ok (.aload_n 0, 1) := by decide +kernel
theorem dX1_hasBadTypes_1 : decode cX1_hasBadTypes 1 = .ok (.getfield 22, 3) := by decide +kernel
theorem dX1_hasBadTypes_4 : decode cX1_hasBadTypes 4 = .ok (.iload_n 1, 1) := by decide +kernel
theorem dX1_hasBadTypes_5 : decode cX1_hasBadTypes 5 = .ok (.baload, 1) := by decide +kernel
theorem dX1_hasBadTypes_6 : decode cX1_hasBadTypes 6 = .ok (.ifCond .ne 5, 3) := by decide +kernel
theorem dX1_hasBadTypes_9 : decode cX1_hasBadTypes 9 = .ok (.iconst 0, 1) := by decide +kernel
theorem dX1_hasBadTypes_10 : decode cX1_hasBadTypes 10 = .ok (.ireturn, 1) := by decide +kernel
theorem dX1_hasBadTypes_11 : decode cX1_hasBadTypes 11 = .ok (.aload_n 0, 1) := by decide +kernel
theorem dX1_hasBadTypes_12 : decode cX1_hasBadTypes 12 = .ok (.iload_n 1, 1) := by decide +kernel
theorem dX1_hasBadTypes_13 : decode cX1_hasBadTypes 13 = .ok (.invokevirtual 132, 3) := by decide +kernel
theorem dX1_hasBadTypes_16 : decode cX1_hasBadTypes 16 = .ok (.aload_n 0, 1) := by decide +kernel
theorem dX1_hasBadTypes_17 : decode cX1_hasBadTypes 17 = .ok (.iconst 0, 1) := by decide +kernel
theorem dX1_hasBadTypes_18 : decode cX1_hasBadTypes 18 = .ok (.putfield 161, 3) := by decide +kernel
theorem dX1_hasBadTypes_21 : decode cX1_hasBadTypes 21 = .ok (.aload_n 0, 1) := by decide +kernel
theorem dX1_hasBadTypes_22 : decode cX1_hasBadTypes 22 = .ok (.iload_n 1, 1) := by decide +kernel
theorem dX1_hasBadTypes_23 : decode cX1_hasBadTypes 23 = .ok (.invokevirtual 146, 3) := by decide +kernel
theorem dX1_hasBadTypes_26 : decode cX1_hasBadTypes 26 = .ok (.aload_n 0, 1) := by decide +kernel
theorem dX1_hasBadTypes_27 : decode cX1_hasBadTypes 27 = .ok (.getfield 161, 3) := by decide +kernel
theorem dX1_hasBadTypes_30 : decode cX1_hasBadTypes 30 = .ok (.ireturn, 1) := by decide +kernel
theorem dX1_hasLong_0 : decode cX1_hasLong 0 = .ok (.aload_n 0, 1) := by decide +kernel
theorem dX1_hasLong_1 : decode cX1_hasLong 1 = .ok (.getfield 103, 3) := by decide +kernel
theorem dX1_hasLong_4 : decode cX1_hasLong 4 = .ok (.iconst 2, 1) := by decide +kernel
theorem dX1_hasLong_5 : decode cX1_hasLong 5 = .ok (.if_icmp .lt 41, 3) := by decide +kernel
theorem dX1_hasLong_8 : decode cX1_hasLong 8 = .ok (.aload_n 0, 1) := by decide +kernel
theorem dX1_hasLong_9 : decode cX1_hasLong 9 = .ok (.bipush 24, 2) := by decide +kernel
theorem dX1_hasLong_11 : decode cX1_hasLong 11 = .ok (.aload_n 0, 1) := by decide +kernel
theorem dX1_hasLong_12 : decode cX1_hasLong 12 = .ok (.getfield 103, 3) := by decide +kernel
theorem dX1_hasLong_15 : decode cX1_hasLong 15 = .ok (.iadd, 1) := by decide +kernel
theorem dX1_hasLong_16 : decode cX1_hasLong 16 = .ok (.iconst 1, 1) := by decide +kernel
theorem dX1_hasLong_17 : decode cX1_hasLong 17 = .ok (.isub, 1) := by decide +kernel
theorem dX1_hasLong_18 : decode cX1_hasLong 18 = .ok (.invokevirtual 182, 3) := by decide +kernel
theorem dX1_hasLong_21 : decode cX1_hasLong 21 = .ok (.iconst 3, 1) := by decide +kernel
theorem dX1_hasLong_22 : decode cX1_hasLong 22 = .ok (.if_icmp .ne 24, 3) := by decide +kernel

theorem dX1_goThrough_116 : decode cX1_goThrough 116 = .ok (.getfield 32, 3) := by decide +kernel
theorem dX1_goThrough_119 : decode cX1_goThrough 119 = .ok (.aload_n 0, 1) := by decide +kernel
theorem dX1_goThrough_120 : decode cX1_goThrough 120 = .ok (.getfield 36, 3) := by decide +kernel
theorem dX1_goThrough_123 : decode cX1_goThrough 123 = .ok (.iload_n 1, 1) := by decide +kernel
theorem dX1_goThrough_124 : decode cX1_goThrough 124 = .ok (.invokevirtual 185, 3) := by decide +kernel
theorem dX1_goThrough_127 : decode cX1_goThrough 127 = .ok (.istore_n 3, 1) := by decide +kernel
theorem dX1_goThrough_128 : decode cX1_goThrough 128 = .ok (.iload_n 3, 1) := by decide +kernel
theorem dX1_goThrough_129 : decode cX1_goThrough 129 = .ok (.istore 4, 2) := by decide +kernel
theorem dX1_goThrough_131 : decode cX1_goThrough 131 = .ok (.iload 4, 2) := by decide +kernel
theorem dX1_goThrough_133 : decode cX1_goThrough 133 = .ok (.ifCond .le 22, 3) := by decide +kernel
theorem dX1_goThrough_136 : decode cX1_goThrough 136 = .ok (.aload_n 0, 1) := by decide +kernel
theorem dX1_goThrough_137 : decode cX1_goThrough 137 = .ok (.iload 4, 2) := by decide +kernel
theorem dX1_goThrough_139 : decode cX1_goThrough 139 = .ok (.bipush 15, 2) := by decide +kernel
theorem dX1_goThrough_141 : decode cX1_goThrough 141 = .ok (.iand, 1) := by decide +kernel
theorem dX1_goThrough_142 : decode cX1_goThrough 142 = .ok (.invokevirtual 189, 3) := by decide +kernel
theorem dX1_goThrough_145 : decode cX1_goThrough 145 = .ok (.pop, 1) := by decide +kernel
theorem dX1_goThrough_146 : decode cX1_goThrough 146 = .ok (.iload 4, 2) := by decide +kernel
theorem dX1_goThrough_148 : decode cX1_goThrough 148 = .ok (.iconst 4, 1) := by decide +kernel
theorem dX1_goThrough_149 : decode cX1_goThrough 149 = .ok (.ishr, 1) := by decide +kernel
theorem dX1_goThrough_150 : decode cX1_goThrough 150 = .ok (.istore 4, 2) := by decide +kernel
theorem dX1_goThrough_152 : decode cX1_goThrough 152 = .ok (.goto (-21), 3) := by decide +kernel
theorem dX1_goThrough_155 : decode cX1_goThrough 155 = .ok (.aload_n 0, 1) := by decide +kernel
theorem dX1_goThrough_156 : decode cX1_goThrough 156 = .ok (.aload_n 0, 1) := by decide +kernel
theorem dX1_goThrough_157 : decode cX1_goThrough 157 = .ok (.getfield 32, 3) := by decide +kernel
theorem dX1_goThrough_160 : decode cX1_goThrough 160 = .ok (.aload_n 0, 1) := by decide +kernel
theorem dX1_goThrough_161 : decode cX1_goThrough 161 = .ok (.getfield 36, 3) := by decide +kernel
theorem dX1_goThrough_164 : decode cX1_goThrough 164 = .ok (.iload_n 1, 1) := by decide +kernel
theorem dX1_goThrough_165 : decode cX1_goThrough 165 = .ok (.invokevirtual 192, 3) := by decide +kernel
theorem dX1_goThrough_168 : decode cX1_goThrough 168 = .ok (.invokevirtual 195, 3) := by decide +kernel
theorem dX1_goThrough_171 : decode cX1_goThrough 171 = .ok (.aload_n 0, 1) := by decide +kernel
theorem dX1_goThrough_172 : decode cX1_goThrough 172 = .ok (.dup, 1) := by decide +kernel
theorem dX1_goThrough_173 : decode cX1_goThrough 173 = .ok (.getfield 161, 3) := by decide +kernel
theorem dX1_goThrough_176 : decode cX1_goThrough 176 = .ok (.iload_n 2, 1) := by decide +kernel
theorem dX1_goThrough_177 : decode cX1_goThrough 177 = .ok (.sipush 172, 3) := by decide +kernel
theorem dX1_goThrough_180 : decode cX1_goThrough 180 = .ok (.if_icmp .lt 32, 3) := by decide +kernel
theorem dX1_goThrough_183 : decode cX1_goThrough 183 = .ok (.iload_n 2, 1) := by decide +kernel
theorem dX1_goThrough_184 : decode cX1_goThrough 184 = .ok (.sipush 177, 3) := by decide +kernel
theorem dX1_goThrough_187 : decode cX1_goThrough 187 = .ok (.if_icmp .gt 25, 3) := by decide +kernel
theorem dX1_goThrough_190 : decode cX1_goThrough 190 = .ok (.iload_n 3, 1) := by decide +kernel
theorem dX1_goThrough_191 : decode cX1_goThrough 191 = .ok (.aload_n 0, 1) := by decide +kernel
theorem dX1_goThrough_192 : decode cX1_goThrough 192 = .ok (.getfield 32, 3) := by decide +kernel
theorem dX1_goThrough_195 : decode cX1_goThrough 195 = .ok (.aload_n 0, 1) := by decide +kernel
theorem dX1_goThrough_196 : decode cX1_goThrough 196 = .ok (.getfield 36, 3) := by decide +kernel
theorem dX1_goThrough_199 : decode cX1_goThrough 199 = .ok (.getfield 78, 3) := by decide +kernel
theorem dX1_goThrough_202 : decode cX1_goThrough 202 = .ok (.invokevirtual 198, 3) := by decide +kernel
theorem dX1_goThrough_205 : decode cX1_goThrough 205 = .ok (.if_icmp .eq 7, 3) := by decide +kernel
theorem dX1_goThrough_208 : decode cX1_goThrough 208 = .ok (.iconst 1, 1) := by decide +kernel
theorem dX1_goThrough_209 : decode cX1_goThrough 209 = .ok (.goto 4, 3) := by decide +kernel
theorem dX1_goThrough_212 : decode cX1_goThrough 212 = .ok (.iconst 0, 1) := by decide +kernel
theorem dX1_goThrough_213 : decode cX1_goThrough 213 = .ok (.ior, 1) := by decide +kernel
theorem dX1_goThrough_214 : decode cX1_goThrough 214 = .ok (.putfield 161, 3) := by decide +kernel
theorem dX1_goThrough_217 : decode cX1_goThrough 217 = .ok (.return_, 1) := by decide +kernel
theorem dX1_hasBadTypes_0 : decode cX1_hasBadTypes 0 = .ok (.aload_n 0, 1) := by decide +kernel
theorem dX1_hasBadTypes_1 : decode cX1_hasBadTypes 1 = .ok (.getfield 22, 3) := by decide +kernel
theorem dX1_hasBadTypes_4 : decode cX1_hasBadTypes 4 = .ok (.iload_n 1, 1) := by decide +kernel
theorem dX1_hasBadTypes_5 : decode cX1_hasBadTypes 5 = .ok (.baload, 1) := by decide +kernel
theorem dX1_hasBadTypes_6 : decode cX1_hasBadTypes 6 = .ok (.ifCond .ne 5, 3) := by decide +kernel
theorem dX1_hasBadTypes_9 : decode cX1_hasBadTypes 9 = .ok (.iconst 0, 1) := by decide +kernel
theorem dX1_hasBadTypes_10 : decode cX1_hasBadTypes 10 = .ok (.ireturn, 1) := by decide +kernel
theorem dX1_hasBadTypes_11 : decode cX1_hasBadTypes 11 = .ok (.aload_n 0, 1) := by decide +kernel
theorem dX1_hasBadTypes_12 : decode cX1_hasBadTypes 12 = .ok (.iload_n 1, 1) := by decide +kernel
theorem dX1_hasBadTypes_13 : decode cX1_hasBadTypes 13 = .ok (.invokevirtual 132, 3) := by decide +kernel
theorem dX1_hasBadTypes_16 : decode cX1_hasBadTypes 16 = .ok (.aload_n 0, 1) := by decide +kernel
theorem dX1_hasBadTypes_17 : decode cX1_hasBadTypes 17 = .ok (.iconst 0, 1) := by decide +kernel
theorem dX1_hasBadTypes_18 : decode cX1_hasBadTypes 18 = .ok (.putfield 161, 3) := by decide +kernel
theorem dX1_hasBadTypes_21 : decode cX1_hasBadTypes 21 = .ok (.aload_n 0, 1) := by decide +kernel
theorem dX1_hasBadTypes_22 : decode cX1_hasBadTypes 22 = .ok (.iload_n 1, 1) := by decide +kernel
theorem dX1_hasBadTypes_23 : decode cX1_hasBadTypes 23 = .ok (.invokevirtual 146, 3) := by decide +kernel
theorem dX1_hasBadTypes_26 : decode cX1_hasBadTypes 26 = .ok (.aload_n 0, 1) := by decide +kernel
theorem dX1_hasBadTypes_27 : decode cX1_hasBadTypes 27 = .ok (.getfield 161, 3) := by decide +kernel
theorem dX1_hasBadTypes_30 : decode cX1_hasBadTypes 30 = .ok (.ireturn, 1) := by decide +kernel
theorem dX1_hasLong_0 : decode cX1_hasLong 0 = .ok (.aload_n 0, 1) := by decide +kernel
theorem dX1_hasLong_1 : decode cX1_hasLong 1 = .ok (.getfield 103, 3) := by decide +kernel
theorem dX1_hasLong_4 : decode cX1_hasLong 4 = .ok (.iconst 2, 1) := by decide +kernel
theorem dX1_hasLong_5 : decode cX1_hasLong 5 = .ok (.if_icmp .lt 41, 3) := by decide +kernel
theorem dX1_hasLong_8 : decode cX1_hasLong 8 = .ok (.aload_n 0, 1) := by decide +kernel
theorem dX1_hasLong_9 : decode cX1_hasLong 9 = .ok (.bipush 24, 2) := by decide +kernel
theorem dX1_hasLong_11 : decode cX1_hasLong 11 = .ok (.aload_n 0, 1) := by decide +kernel
theorem dX1_hasLong_12 : decode cX1_hasLong 12 = .ok (.getfield 103, 3) := by decide +kernel
theorem dX1_hasLong_15 : decode cX1_hasLong 15 = .ok (.iadd, 1) := by decide +kernel
theorem dX1_hasLong_16 : decode cX1_hasLong 16 = .ok (.iconst 1, 1) := by decide +kernel
theorem dX1_hasLong_17 : decode cX1_hasLong 17 = .ok (.isub, 1) := by decide +kernel
theorem dX1_hasLong_18 : decode cX1_hasLong 18 = .ok (.invokevirtual 182, 3) := by decide +kernel
theorem dX1_hasLong_21 : decode cX1_hasLong 21 = .ok (.iconst 3, 1) := by decide +kernel
theorem dX1_hasLong_22 : decode cX1_hasLong 22 = .ok (.if_icmp .ne 24, 3) := by decide +kernel
theorem dX1_hasLong_25 : decode cX1_hasLong 25 = .ok (.aload_n 0, 1) := by decide +kernel
theorem dX1_hasLong_26 : decode cX1_hasLong 26 = .ok (.bipush 24, 2) := by decide +kernel
theorem dX1_hasLong_28 : decode cX1_hasLong 28 = .ok (.aload_n 0, 1) := by decide +kernel
theorem dX1_hasLong_29 : decode cX1_hasLong 29 = .ok (.getfield 103, 3) := by decide +kernel
theorem dX1_hasLong_32 : decode cX1_hasLong 32 = .ok (.iadd, 1) := by decide +kernel
theorem dX1_hasLong_33 : decode cX1_hasLong 33 = .ok (.iconst 2, 1) := by decide +kernel
theorem dX1_hasLong_34 : decode cX1_hasLong 34 = .ok (.isub, 1) := by decide +kernel
theorem dX1_hasLong_35 : decode cX1_hasLong 35 = .ok (.invokevirtual 182, 3) := by decide +kernel
theorem dX1_hasLong_38 : decode cX1_hasLong 38 = .ok (.iconst 2, 1) := by decide +kernel
theorem dX1_hasLong_39 : decode cX1_hasLong 39 = .ok (.if_icmp .ne 7, 3) := by decide +kernel
theorem dX1_hasLong_42 : decode cX1_hasLong 42 = .ok (.iconst 1, 1) := by decide +kernel
theorem dX1_hasLong_43 : decode cX1_hasLong 43 = .ok (.goto 4, 3) := by decide +kernel
theorem dX1_hasLong_46 : decode cX1_hasLong 46 = .ok (.iconst 0, 1) := by decide +kernel
theorem dX1_hasLong_47 : decode cX1_hasLong 47 = .ok (.ireturn, 1) := by decide +kernel
theorem dX1_init_0 : decode cX1_init 0 = .ok (.aload_n 0, 1) := by decide +kernel
theorem dX1_init_1 : decode cX1_init 1 = .ok (.invokespecial 3, 3) := by decide +kernel
theorem dX1_init_4 : decode cX1_init 4 = .ok (.aload_n 0, 1) := by decide +kernel
theorem dX1_init_5 : decode cX1_init 5 = .ok (.new 9, 3) := by decide +kernel
theorem dX1_init_8 : decode cX1_init 8 = .ok (.dup, 1) := by decide +kernel
theorem dX1_init_9 : decode cX1_init 9 = .ok (.invokespecial 11, 3) := by decide +kernel
theorem dX1_init_12 : decode cX1_init 12 = .ok (.putfield 12, 3) := by decide +kernel
theorem dX1_init_15 : decode cX1_init 15 = .ok (.aload_n 0, 1) := by decide +kernel
theorem dX1_init_16 : decode cX1_init 16 = .ok (.iconst 0, 1) := by decide +kernel
theorem dX1_init_17 : decode cX1_init 17 = .ok (.newarray .byte, 2) := by decide +kernel
theorem dX1_init_19 : decode cX1_init 19 = .ok (.putfield 18, 3) := by decide +kernel
theorem dX1_init_22 : decode cX1_init 22 = .ok (.aload_n 0, 1) := by decide +kernel
theorem dX1_init_23 : decode cX1_init 23 = .ok (.iconst 0, 1) := by decide +kernel
theorem dX1_init_24 : decode cX1_init 24 = .ok (.newarray .boolean, 2) := by decide +kernel
theorem dX1_init_26 : decode cX1_init 26 = .ok (.putfield 22, 3) := by decide +kernel
theorem dX1_init_29 : decode cX1_init 29 = .ok (.aload_n 0, 1) := by decide +kernel
theorem dX1_init_30 : decode cX1_init 30 = .ok (.iconst 0, 1) := by decide +kernel
theorem dX1_init_31 : decode cX1_init 31 = .ok (.newarray .boolean, 2) := by decide +kernel
theorem dX1_init_33 : decode cX1_init 33 = .ok (.putfield 26, 3) := by decide +kernel
theorem dX1_init_36 : decode cX1_init 36 = .ok (.aload_n 0, 1) := by decide +kernel
theorem dX1_init_37 : decode cX1_init 37 = .ok (.bipush 48, 2) := by decide +kernel
theorem dX1_init_39 : decode cX1_init 39 = .ok (.newarray .byte, 2) := by decide +kernel
theorem dX1_init_41 : decode cX1_init 41 = .ok (.putfield 29, 3) := by decide +kernel
theorem dX1_init_44 : decode cX1_init 44 = .ok (.return_, 1) := by decide +kernel
theorem dX1_isOnePlace_0 : decode cX1_isOnePlace 0 = .ok (.iload_n 0, 1) := by decide +kernel
theorem dX1_isOnePlace_1 : decode cX1_isOnePlace 1 = .ok (.iconst 1, 1) := by decide +kernel
theorem dX1_isOnePlace_2 : decode cX1_isOnePlace 2 = .ok (.if_icmp .eq 19, 3) := by decide +kernel
theorem dX1_isOnePlace_5 : decode cX1_isOnePlace 5 = .ok (.iload_n 0, 1) := by decide +kernel
theorem dX1_isOnePlace_6 : decode cX1_isOnePlace 6 = .ok (.iconst 4, 1) := by decide +kernel
theorem dX1_isOnePlace_7 : decode cX1_isOnePlace 7 = .ok (.if_icmp .eq 14, 3) := by decide +kernel
theorem dX1_isOnePlace_10 : decode cX1_isOnePlace 10 = .ok (.iload_n 0, 1) := by decide +kernel
theorem dX1_isOnePlace_11 : decode cX1_isOnePlace 11 = .ok (.iconst 5, 1) := by decide +kernel
theorem dX1_isOnePlace_12 : decode cX1_isOnePlace 12 = .ok (.if_icmp .eq 9, 3) := by decide +kernel
theorem dX1_isOnePlace_15 : decode cX1_isOnePlace 15 = .ok (.iload_n 0, 1) := by decide +kernel
theorem dX1_isOnePlace_16 : decode cX1_isOnePlace 16 = .ok (.bipush 6, 2) := by decide +kernel
theorem dX1_isOnePlace_18 : decode cX1_isOnePlace 18 = .ok (.if_icmp .ne 7, 3) := by decide +kernel
theorem dX1_isOnePlace_21 : decode cX1_isOnePlace 21 = .ok (.iconst 1, 1) := by decide +kernel
theorem dX1_isOnePlace_22 : decode cX1_isOnePlace 22 = .ok (.goto 4, 3) := by decide +kernel
theorem dX1_isOnePlace_25 : decode cX1_isOnePlace 25 = .ok (.iconst 0, 1) := by decide +kernel
theorem dX1_isOnePlace_26 : decode cX1_isOnePlace 26 = .ok (.ireturn, 1) := by decide +kernel
theorem dX1_isReference_0 : decode cX1_isReference 0 = .ok (.iload_n 0, 1) := by decide +kernel
theorem dX1_isReference_1 : decode cX1_isReference 1 = .ok (.iconst 4, 1) := by decide +kernel
theorem dX1_isReference_2 : decode cX1_isReference 2 = .ok (.if_icmp .eq 14, 3) := by decide +kernel
theorem dX1_isReference_5 : decode cX1_isReference 5 = .ok (.iload_n 0, 1) := by decide +kernel
theorem dX1_isReference_6 : decode cX1_isReference 6 = .ok (.iconst 5, 1) := by decide +kernel
theorem dX1_isReference_7 : decode cX1_isReference 7 = .ok (.if_icmp .eq 9, 3) := by decide +kernel
theorem dX1_isReference_10 : decode cX1_isReference 10 = .ok (.iload_n 0, 1) := by decide +kernel
theorem dX1_isReference_11 : decode cX1_isReference 11 = .ok (.bipush 6, 2) := by decide +kernel
theorem dX1_isReference_13 : decode cX1_isReference 13 = .ok (.if_icmp .ne 7, 3) := by decide +kernel
theorem dX1_isReference_16 : decode cX1_isReference 16 = .ok (.iconst 1, 1) := by decide +kernel
theorem dX1_isReference_17 : decode cX1_isReference 17 = .ok (.goto 4, 3) := by decide +kernel

theorem dX11_putSwitch_147 : decode cX11_putSwitch 147 = .ok (.aload_n 0, 1) := by decide +kernel
theorem dX11_putSwitch_148 : decode cX11_putSwitch 148 = .ok (.getfield 180, 3) := by decide +kernel
theorem dX11_putSwitch_151 : decode cX11_putSwitch 151 = .ok (.iload_n 3, 1) := by decide +kernel
theorem dX11_putSwitch_152 : decode cX11_putSwitch 152 = .ok (.iconst 1, 1) := by decide +kernel
theorem dX11_putSwitch_153 : decode cX11_putSwitch 153 = .ok (.iadd, 1) := by decide +kernel
theorem dX11_putSwitch_154 : decode cX11_putSwitch 154 = .ok (.invokevirtual 331, 3) := by decide +kernel
theorem dX11_putSwitch_157 : decode cX11_putSwitch 157 = .ok (.iload 4, 2) := by decide +kernel
theorem dX11_putSwitch_159 : decode cX11_putSwitch 159 = .ok (.iadd, 1) := by decide +kernel
theorem dX11_putSwitch_160 : decode cX11_putSwitch 160 = .ok (.iconst 1, 1) := by decide +kernel
theorem dX11_putSwitch_161 : decode cX11_putSwitch 161 = .ok (.isub, 1) := by decide +kernel
theorem dX11_putSwitch_162 : decode cX11_putSwitch 162 = .ok (.invokevirtual 167, 3) := by decide +kernel
theorem dX11_putSwitch_165 : decode cX11_putSwitch 165 = .ok (.goto 12, 3) := by decide +kernel
theorem dX11_putSwitch_168 : decode cX11_putSwitch 168 = .ok (.aload_n 0, 1) := by decide +kernel
theorem dX11_putSwitch_169 : decode cX11_putSwitch 169 = .ok (.getfield 18, 3) := by decide +kernel
theorem dX11_putSwitch_172 : decode cX11_putSwitch 172 = .ok (.iload 4, 2) := by decide +kernel
theorem dX11_putSwitch_174 : decode cX11_putSwitch 174 = .ok (.invokevirtual 167, 3) := by decide +kernel
theorem dX11_putSwitch_177 : decode cX11_putSwitch 177 = .ok (.iconst 1, 1) := by decide +kernel
theorem dX11_putSwitch_178 : decode cX11_putSwitch 178 = .ok (.istore 6, 2) := by decide +kernel
theorem dX11_putSwitch_180 : decode cX11_putSwitch 180 = .ok (.iload 6, 2) := by decide +kernel
theorem dX11_putSwitch_182 : decode cX11_putSwitch 182 = .ok (.iload 4, 2) := by decide +kernel
theorem dX11_putSwitch_184 : decode cX11_putSwitch 184 = .ok (.if_icmp .gt 64, 3) := by decide +kernel
theorem dX11_putSwitch_187 : decode cX11_putSwitch 187 = .ok (.iload 5, 2) := by decide +kernel
theorem dX11_putSwitch_189 : decode cX11_putSwitch 189 = .ok (.ifCond .ne 26, 3) := by decide +kernel
theorem dX11_putSwitch_192 : decode cX11_putSwitch 192 = .ok (.aload_n 0, 1) := by decide +kernel
theorem dX11_putSwitch_193 : decode cX11_putSwitch 193 = .ok (.getfield 18, 3) := by decide +kernel
theorem dX11_putSwitch_196 : decode cX11_putSwitch 196 = .ok (.aload_n 0, 1) := by decide +kernel
theorem dX11_putSwitch_197 : decode cX11_putSwitch 197 = .ok (.getfield 180, 3) := by decide +kernel
theorem dX11_putSwitch_200 : decode cX11_putSwitch 200 = .ok (.iload_n 3, 1) := by decide +kernel
theorem dX11_putSwitch_201 : decode cX11_putSwitch 201 = .ok (.iconst 2, 1) := by decide +kernel
theorem dX11_putSwitch_202 : decode cX11_putSwitch 202 = .ok (.iadd, 1) := by decide +kernel
theorem dX11_putSwitch_203 : decode cX11_putSwitch 203 = .ok (.iload 4, 2) := by decide +kernel
theorem dX11_putSwitch_205 : decode cX11_putSwitch 205 = .ok (.iadd, 1) := by decide +kernel
theorem dX11_putSwitch_206 : decode cX11_putSwitch 206 = .ok (.iload 6, 2) := by decide +kernel
theorem dX11_putSwitch_208 : decode cX11_putSwitch 208 = .ok (.iadd, 1) := by decide +kernel
theorem dX11_putSwitch_209 : decode cX11_putSwitch 209 = .ok (.invokevirtual 331, 3) := by decide +kernel
theorem dX11_putSwitch_212 : decode cX11_putSwitch 212 = .ok (.invokevirtual 167, 3) := by decide +kernel
theorem dX11_putSwitch_215 : decode cX11_putSwitch 215 = .ok (.aload_n 0, 1) := by decide +kernel
theorem dX11_putSwitch_216 : decode cX11_putSwitch 216 = .ok (.getfield 18, 3) := by decide +kernel
theorem dX11_putSwitch_219 : decode cX11_putSwitch 219 = .ok (.aload_n 0, 1) := by decide +kernel
theorem dX11_putSwitch_220 : decode cX11_putSwitch 220 = .ok (.aload_n 0, 1) := by decide +kernel
theorem dX11_putSwitch_221 : decode cX11_putSwitch 221 = .ok (.getfield 180, 3) := by decide +kernel
theorem dX11_putSwitch_224 : decode cX11_putSwitch 224 = .ok (.iload_n 1, 1) := by decide +kernel
theorem dX11_putSwitch_225 : decode cX11_putSwitch 225 = .ok (.iload 6, 2) := by decide +kernel
theorem dX11_putSwitch_227 : decode cX11_putSwitch 227 = .ok (.invokevirtual 328, 3) := by decide +kernel
theorem dX11_putSwitch_230 : decode cX11_putSwitch 230 = .ok (.invokevirtual 213, 3) := by decide +kernel
theorem dX11_putSwitch_233 : decode cX11_putSwitch 233 = .ok (.aload_n 0, 1) := by decide +kernel
theorem dX11_putSwitch_234 : decode cX11_putSwitch 234 = .ok (.iload_n 1, 1) := by decide +kernel
theorem dX11_putSwitch_235 : decode cX11_putSwitch 235 = .ok (.invokevirtual 213, 3) := by decide +kernel
theorem dX11_putSwitch_238 : decode cX11_putSwitch 238 = .ok (.isub, 1) := by decide +kernel
theorem dX11_putSwitch_239 : decode cX11_putSwitch 239 = .ok (.invokevirtual 167, 3) := by decide +kernel
theorem dX11_putSwitch_242 : decode cX11_putSwitch 242 = .ok (.iinc 6 1, 3) := by decide +kernel
theorem dX11_putSwitch_245 : decode cX11_putSwitch 245 = .ok (.goto (-65), 3) := by decide +kernel
theorem dX11_putSwitch_248 : decode cX11_putSwitch 248 = .ok (.return_, 1) := by decide +kernel
theorem dX11_textEntry_0 : decode cX11_textEntry 0 = .ok (.aload_n 0, 1) := by decide +kernel
theorem dX11_textEntry_1 : decode cX11_textEntry 1 = .ok (.iconst 1, 1) := by decide +kernel
theorem dX11_textEntry_2 : decode cX11_textEntry 2 = .ok (.invokevirtual 147, 3) := by decide +kernel
theorem dX11_textEntry_5 : decode cX11_textEntry 5 = .ok (.aload_n 0, 1) := by decide +kernel
theorem dX11_textEntry_6 : decode cX11_textEntry 6 = .ok (.getfield 21, 3) := by decide +kernel
theorem dX11_textEntry_9 : decode cX11_textEntry 9 = .ok (.aload_n 1, 1) := by decide +kernel
theorem dX11_textEntry_10 : decode cX11_textEntry 10 = .ok (.invokevirtual 150, 3) := by decide +kernel
theorem dX11_textEntry_13 : decode cX11_textEntry 13 = .ok (.invokevirtual 105, 3) := by decide +kernel
theorem dX11_textEntry_16 : decode cX11_textEntry 16 = .ok (.iconst 0, 1) := by decide +kernel
theorem dX11_textEntry_17 : decode cX11_textEntry 17 = .ok (.istore_n 2, 1) := by decide +kernel
theorem dX11_textEntry_18 : decode cX11_textEntry 18 = .ok (.iload_n 2, 1) := by decide +kernel
theorem dX11_textEntry_19 : decode cX11_textEntry 19 = .ok (.aload_n 1, 1) := by decide +kernel
theorem dX11_textEntry_20 : decode cX11_textEntry 20 = .ok (.invokevirtual 150, 3) := by decide +kernel
theorem dX11_textEntry_23 : decode cX11_textEntry 23 = .ok (.if_icmp .ge 21, 3) := by decide +kernel
theorem dX11_textEntry_26 : decode cX11_textEntry 26 = .ok (.aload_n 0, 1) := by decide +kernel
theorem dX11_textEntry_27 : decode cX11_textEntry 27 = .ok (.getfield 21, 3) := by decide +kernel
theorem dX11_textEntry_30 : decode cX11_textEntry 30 = .ok (.aload_n 1, 1) := by decide +kernel
theorem dX11_textEntry_31 : decode cX11_textEntry 31 = .ok (.iload_n 2, 1) := by decide +kernel
theorem dX11_textEntry_32 : decode cX11_textEntry 32 = .ok (.invokevirtual 156, 3) := by decide +kernel
theorem dX11_textEntry_35 : decode cX11_textEntry 35 = .ok (.invokevirtual 129, 3) := by decide +kernel
theorem dX11_textEntry_38 : decode cX11_textEntry 38 = .ok (.iinc 2 1, 3) := by decide +kernel
theorem dX11_textEntry_41 : decode cX11_textEntry 41 = .ok (.goto (-23), 3) := by decide +kernel
theorem dX11_textEntry_44 : decode cX11_textEntry 44 = .ok (.aload_n 0, 1) := by decide +kernel
theorem dX11_textEntry_45 : decode cX11_textEntry 45 = .ok (.invokevirtual 160, 3) := by decide +kernel
theorem dX11_textEntry_48 : decode cX11_textEntry 48 = .ok (.ireturn, 1) := by decide +kernel
theorem dX11_unitByte_0 : decode cX11_unitByte 0 = .ok (.iload_n 1, 1) := by decide +kernel
theorem dX11_unitByte_1 : decode cX11_unitByte 1 = .ok (.ifCond .lt 15, 3) := by decide +kernel
theorem dX11_unitByte_4 : decode cX11_unitByte 4 = .ok (.iload_n 1, 1) := by decide +kernel
theorem dX11_unitByte_5 : decode cX11_unitByte 5 = .ok (.aload_n 0, 1) := by decide +kernel
theorem dX11_unitByte_6 : decode cX11_unitByte 6 = .ok (.getfield 56, 3) := by decide +kernel
theorem dX11_unitByte_9 : decode cX11_unitByte 9 = .ok (.getfield 166, 3) := by decide +kernel
theorem dX11_unitByte_12 : decode cX11_unitByte 12 = .ok (.arraylength, 1) := by decide +kernel
theorem dX11_unitByte_13 : decode cX11_unitByte 13 = .ok (.if_icmp .lt 7, 3) := by decide +kernel
theorem dX11_unitByte_16 : decode cX11_unitByte 16 = .ok (.iconst 0, 1) := by decide +kernel
theorem dX11_unitByte_17 : decode cX11_unitByte 17 = .ok (.goto 16, 3) := by decide +kernel
theorem dX11_unitByte_20 : decode cX11_unitByte 20 = .ok (.aload_n 0, 1) := by decide +kernel
theorem dX11_unitByte_21 : decode cX11_unitByte 21 = .ok (.getfield 56, 3) := by decide +kernel
theorem dX11_unitByte_24 : decode cX11_unitByte 24 = .ok (.getfield 166, 3) := by decide +kernel
theorem dX11_unitByte_27 : decode cX11_unitByte 27 = .ok (.iload_n 1, 1) := by decide +kernel
theorem dX11_unitByte_28 : decode cX11_unitByte 28 = .ok (.baload, 1) := by decide +kernel
theorem dX11_unitByte_29 : decode cX11_unitByte 29 = .ok (.sipush 255, 3) := by decide +kernel
theorem dX11_unitByte_32 : decode cX11_unitByte 32 = .ok (.iand, 1) := by decide +kernel
theorem dX11_unitByte_33 : decode cX11_unitByte 33 = .ok (.ireturn, 1) := by decide +kernel
theorem dX11_want_0 : decode cX11_want 0 = .ok (.aload_n 0, 1) := by decide +kernel
theorem dX11_want_1 : decode cX11_want 1 = .ok (.getfield 21, 3) := by decide +kernel
theorem dX11_want_4 : decode cX11_want 4 = .ok (.iconst 0, 1) := by decide +kernel
theorem dX11_want_5 : decode cX11_want 5 = .ok (.putfield 60, 3) := by decide +kernel
theorem dX11_want_8 : decode cX11_want 8 = .ok (.aload_n 0, 1) := by decide +kernel
theorem dX11_want_9 : decode cX11_want 9 = .ok (.getfield 21, 3) := by decide +kernel
theorem dX11_want_12 : decode cX11_want 12 = .ok (.iload_n 1, 1) := by decide +kernel
theorem dX11_want_13 : decode cX11_want 13 = .ok (.invokevirtual 129, 3) := by decide +kernel
theorem dX11_want_16 : decode cX11_want 16 = .ok (.return_, 1) := by decide +kernel
theorem dX12_applied_0 : decode cX12_applied 0 = .ok (.aload_n 0, 1) := by decide +kernel
theorem dX12_applied_1 : decode cX12_applied 1 = .ok (.getfield 66, 3) := by decide +kernel
theorem dX12_applied_4 : decode cX12_applied 4 = .ok (.iload_n 1, 1) := by decide +kernel
theorem dX12_applied_5 : decode cX12_applied 5 = .ok (.invokevirtual 244, 3) := by decide +kernel
theorem dX12_applied_8 : decode cX12_applied 8 = .ok (.ireturn, 1) := by decide +kernel
theorem dX12_argument_0 : decode cX12_argument 0 = .ok (.aload_n 0, 1) := by decide +kernel
theorem dX12_argument_1 : decode cX12_argument 1 = .ok (.getfield 52, 3) := by decide +kernel
theorem dX12_argument_4 : decode cX12_argument 4 = .ok (.lload_n 1, 1) := by decide +kernel
theorem dX12_argument_5 : decode cX12_argument 5 = .ok (.invokevirtual 182, 3) := by decide +kernel
theorem dX12_argument_8 : decode cX12_argument 8 = .ok (.ireturn, 1) := by decide +kernel
theorem dX12_arrayLength_0 : decode cX12_arrayLength 0 = .ok (.aload_n 0, 1) := by decide +kernel
theorem dX12_arrayLength_1 : decode cX12_arrayLength 1 = .ok (.getfield 52, 3) := by decide +kernel
theorem dX12_arrayLength_4 : decode cX12_arrayLength 4 = .ok (.iload_n 1, 1) := by decide +kernel
theorem dX12_arrayLength_5 : decode cX12_arrayLength 5 = .ok (.invokevirtual 212, 3) := by decide +kernel
theorem dX12_arrayLength_8 : decode cX12_arrayLength 8 = .ok (.ireturn, 1) := by decide +kernel
theorem dX12_at_0 : decode cX12_at 0 = .ok (.aload_n 0, 1) := by decide +kernel
theorem dX12_at_1 : decode cX12_at 1 = .ok (.getfield 77, 3) := by decide +kernel
theorem dX12_at_4 : decode cX12_at 4 = .ok (.ireturn, 1) := by decide +kernel
theorem dX12_block_0 : decode cX12_block 0 = .ok (.aload_n 0, 1) := by decide +kernel
theorem dX12_block_1 : decode cX12_block 1 = .ok (.iload_n 1, 1) := by decide +kernel
theorem dX12_block_2 : decode cX12_block 2 = .ok (.iload_n 2, 1) := by decide +kernel
theorem dX12_block_3 : decode cX12_block 3 = .ok (.invokevirtual 132, 3) := by decide +kernel
theorem dX12_block_6 : decode cX12_block 6 = .ok (.astore 5, 2) := by decide +kernel
theorem dX12_block_8 : decode cX12_block 8 = .ok (.aload 5, 2) := by decide +kernel
theorem dX12_block_10 : decode cX12_block 10 = .ok (.ifnonnull 5, 3) := by decide +kernel
theorem dX12_block_13 : decode cX12_block 13 = .ok (.iconst (-1), 1) := by decide +kernel
theorem dX12_block_14 : decode cX12_block 14 = .ok (.ireturn, 1) := by decide +kernel
theorem dX12_block_15 : decode cX12_block 15 = .ok (.aload_n 0, 1) := by decide +kernel
theorem dX12_block_16 : decode cX12_block 16 = .ok (.getfield 59, 3) := by decide +kernel
theorem dX12_block_19 : decode cX12_block 19 = .ok (.aload 5, 2) := by decide +kernel
theorem dX12_block_21 : decode cX12_block 21 = .ok (.invokevirtual 215, 3) := by decide +kernel
theorem dX12_block_24 : decode cX12_block 24 = .ok (.aload_n 0, 1) := by decide +kernel
theorem dX12_block_25 : decode cX12_block 25 = .ok (.getfield 59, 3) := by decide +kernel
theorem dX12_block_28 : decode cX12_block 28 = .ok (.iload_n 3, 1) := by decide +kernel
theorem dX12_block_29 : decode cX12_block 29 = .ok (.iload 4, 2) := by decide +kernel
theorem dX12_block_31 : decode cX12_block 31 = .ok (.invokevirtual 219, 3) := by decide +kernel
theorem dX12_block_34 : decode cX12_block 34 = .ok (.ireturn, 1) := by decide +kernel
theorem dX12_blocks_0 : decode cX12_blocks 0 = .ok (.aload_n 0, 1) := by decide +kernel
theorem dX12_blocks_1 : decode cX12_blocks 1 = .ok (.iload_n 1, 1) := by decide +kernel
theorem dX12_blocks_2 : decode cX12_blocks 2 = .ok (.iload_n 2, 1) := by decide +kernel
theorem dX12_blocks_3 : decode cX12_blocks 3 = .ok (.invokevirtual 132, 3) := by decide +kernel
theorem dX12_blocks_6 : decode cX12_blocks 6 = .ok (.astore_n 3, 1) := by decide +kernel
theorem dX12_blocks_7 : decode cX12_blocks 7 = .ok (.aload_n 3, 1) := by decide +kernel
theorem dX12_blocks_8 : decode cX12_blocks 8 = .ok (.ifnonnull 5, 3) := by decide +kernel
theorem dX12_blocks_11 : decode cX12_blocks 11 = .ok (.iconst (-1), 1) := by decide +kernel

theorem dX11_textEntry_20 : decode cX11_textEntry 20 = .ok (.invokevirtual 150, 3) := by decide +kernel
theorem dX11_textEntry_23 : decode cX11_textEntry 23 = .ok (.if_icmp .ge 21, 3) := by decide +kernel
theorem dX11_textEntry_26 : decode cX11_textEntry 26 = .ok (.aload_n 0, 1) := by decide +kernel
theorem dX11_textEntry_27 : decode cX11_textEntry 27 = .ok (.getfield 21, 3) := by decide +kernel
theorem dX11_textEntry_30 : decode cX11_textEntry 30 = .ok (.aload_n 1, 1) := by decide +kernel
theorem dX11_textEntry_31 : decode cX11_textEntry 31 = .ok (.iload_n 2, 1) := by decide +kernel
theorem dX11_textEntry_32 : decode cX11_textEntry 32 = .ok (.invokevirtual 156, 3) := by decide +kernel
theorem dX11_textEntry_35 : decode cX11_textEntry 35 = .ok (.invokevirtual 129, 3) := by decide +kernel
theorem dX11_textEntry_38 : decode cX11_textEntry 38 = .ok (.iinc 2 1, 3) := by decide +kernel
theorem dX11_textEntry_41 : decode cX11_textEntry 41 = .ok (.goto (-23), 3) := by decide +kernel
theorem dX11_textEntry_44 : decode cX11_textEntry 44 = .ok (.aload_n 0, 1) := by decide +kernel
theorem dX11_textEntry_45 : decode cX11_textEntry 45 = .ok (.invokevirtual 160, 3) := by decide +kernel
theorem dX11_textEntry_48 : decode cX11_textEntry 48 = .ok (.ireturn, 1) := by decide +kernel
theorem dX11_unitByte_0 : decode cX11_unitByte 0 = .ok (.iload_n 1, 1) := by decide +kernel
theorem dX11_unitByte_1 : decode cX11_unitByte 1 = .ok (.ifCond .lt 15, 3) := by decide +kernel
theorem dX11_unitByte_4 : decode cX11_unitByte 4 = .ok (.iload_n 1, 1) := by decide +kernel
theorem dX11_unitByte_5 : decode cX11_unitByte 5 = .ok (.aload_n 0, 1) := by decide +kernel
theorem dX11_unitByte_6 : decode cX11_unitByte 6 = .ok (.getfield 56, 3) := by decide +kernel
theorem dX11_unitByte_9 : decode cX11_unitByte 9 = .ok (.getfield 166, 3) := by decide +kernel
theorem dX11_unitByte_12 : decode cX11_unitByte 12 = .ok (.arraylength, 1) := by decide +kernel
theorem dX11_unitByte_13 : decode cX11_unitByte 13 = .ok (.if_icmp .lt 7, 3) := by decide +kernel
theorem dX11_unitByte_16 : decode cX11_unitByte 16 = .ok (.iconst 0, 1) := by decide +kernel
theorem dX11_unitByte_17 : decode cX11_unitByte 17 = .ok (.goto 16, 3) := by decide +kernel
theorem dX11_unitByte_20 : decode cX11_unitByte 20 = .ok (.aload_n 0, 1) := by decide +kernel
theorem dX11_unitByte_21 : decode cX11_unitByte 21 = .ok (.getfield 56, 3) := by decide +kernel
theorem dX11_unitByte_24 : decode cX11_unitByte 24 = .ok (.getfield 166, 3) := by decide +kernel
theorem dX11_unitByte_27 : decode cX11_unitByte 27 = .ok (.iload_n 1, 1) := by decide +kernel
theorem dX11_unitByte_28 : decode cX11_unitByte 28 = .ok (.baload, 1) := by decide +kernel
theorem dX11_unitByte_29 : decode cX11_unitByte 29 = .ok (.sipush 255, 3) := by decide +kernel
theorem dX11_unitByte_32 : decode cX11_unitByte 32 = .ok (.iand, 1) := by decide +kernel
theorem dX11_unitByte_33 : decode cX11_unitByte 33 = .ok (.ireturn, 1) := by decide +kernel
theorem dX11_want_0 : decode cX11_want 0 = .ok (.aload_n 0, 1) := by decide +kernel
theorem dX11_want_1 : decode cX11_want 1 = .ok (.getfield 21, 3) := by decide +kernel
theorem dX11_want_4 : decode cX11_want 4 = .ok (.iconst 0, 1) := by decide +kernel
theorem dX11_want_5 : decode cX11_want 5 = .ok (.putfield 60, 3) := by decide +kernel
theorem dX11_want_8 : decode cX11_want 8 = .ok (.aload_n 0, 1) := by decide +kernel
theorem dX11_want_9 : decode cX11_want 9 = .ok (.getfield 21, 3) := by decide +kernel
theorem dX11_want_12 : decode cX11_want 12 = .ok (.iload_n 1, 1) := by decide +kernel
theorem dX11_want_13 : decode cX11_want 13 = .ok (.invokevirtual 129, 3) := by decide +kernel
theorem dX11_want_16 : decode cX11_want 16 = .ok (.return_, 1) := by decide +kernel
theorem dX12_applied_0 : decode cX12_applied 0 = .ok (.aload_n 0, 1) := by decide +kernel
theorem dX12_applied_1 : decode cX12_applied 1 = .ok (.getfield 66, 3) := by decide +kernel
theorem dX12_applied_4 : decode cX12_applied 4 = .ok (.iload_n 1, 1) := by decide +kernel
theorem dX12_applied_5 : decode cX12_applied 5 = .ok (.invokevirtual 244, 3) := by decide +kernel
theorem dX12_applied_8 : decode cX12_applied 8 = .ok (.ireturn, 1) := by decide +kernel
theorem dX12_argument_0 : decode cX12_argument 0 = .ok (.aload_n 0, 1) := by decide +kernel
theorem dX12_argument_1 : decode cX12_argument 1 = .ok (.getfield 52, 3) := by decide +kernel
theorem dX12_argument_4 : decode cX12_argument 4 = .ok (.lload_n 1, 1) := by decide +kernel
theorem dX12_argument_5 : decode cX12_argument 5 = .ok (.invokevirtual 182, 3) := by decide +kernel
theorem dX12_argument_8 : decode cX12_argument 8 = .ok (.ireturn, 1) := by decide +kernel
theorem dX12_arrayLength_0 : decode cX12_arrayLength 0 = .ok (.aload_n 0, 1) := by decide +kernel
theorem dX12_arrayLength_1 : decode cX12_arrayLength 1 = .ok (.getfield 52, 3) := by decide +kernel
theorem dX12_arrayLength_4 : decode cX12_arrayLength 4 = .ok (.iload_n 1, 1) := by decide +kernel
theorem dX12_arrayLength_5 : decode cX12_arrayLength 5 = .ok (.invokevirtual 212, 3) := by decide +kernel
theorem dX12_arrayLength_8 : decode cX12_arrayLength 8 = .ok (.ireturn, 1) := by decide +kernel
theorem dX12_at_0 : decode cX12_at 0 = .ok (.aload_n 0, 1) := by decide +kernel
theorem dX12_at_1 : decode cX12_at 1 = .ok (.getfield 77, 3) := by decide +kernel
theorem dX12_at_4 : decode cX12_at 4 = .ok (.ireturn, 1) := by decide +kernel
theorem dX12_block_0 : decode cX12_block 0 = .ok (.aload_n 0, 1) := by decide +kernel
theorem dX12_block_1 : decode cX12_block 1 = .ok (.iload_n 1, 1) := by decide +kernel
theorem dX12_block_2 : decode cX12_block 2 = .ok (.iload_n 2, 1) := by decide +kernel
theorem dX12_block_3 : decode cX12_block 3 = .ok (.invokevirtual 132, 3) := by decide +kernel
theorem dX12_block_6 : decode cX12_block 6 = .ok (.astore 5, 2) := by decide +kernel
theorem dX12_block_8 : decode cX12_block 8 = .ok (.aload 5, 2) := by decide +kernel
theorem dX12_block_10 : decode cX12_block 10 = .ok (.ifnonnull 5, 3) := by decide +kernel
theorem dX12_block_13 : decode cX12_block 13 = .ok (.iconst (-1), 1) := by decide +kernel
theorem dX12_block_14 : decode cX12_block 14 = .ok (.ireturn, 1) := by decide +kernel
theorem dX12_block_15 : decode cX12_block 15 = .ok (.aload_n 0, 1) := by decide +kernel
theorem dX12_block_16 : decode cX12_block 16 = .ok (.getfield 59, 3) := by decide +kernel
theorem dX12_block_19 : decode cX12_block 19 = .ok (.aload 5, 2) := by decide +kernel
theorem dX12_block_21 : decode cX12_block 21 = .ok (.invokevirtual 215, 3) := by decide +kernel
theorem dX12_block_24 : decode cX12_block 24 = .ok (.aload_n 0, 1) := by decide +kernel
theorem dX12_block_25 : decode cX12_block 25 = .ok (.getfield 59, 3) := by decide +kernel
theorem dX12_block_28 : decode cX12_block 28 = .ok (.iload_n 3, 1) := by decide +kernel
theorem dX12_block_29 : decode cX12_block 29 = .ok (.iload 4, 2) := by decide +kernel
theorem dX12_block_31 : decode cX12_block 31 = .ok (.invokevirtual 219, 3) := by decide +kernel
theorem dX12_block_34 : decode cX12_block 34 = .ok (.ireturn, 1) := by decide +kernel
theorem dX12_blocks_0 : decode cX12_blocks 0 = .ok (.aload_n 0, 1) := by decide +kernel
theorem dX12_blocks_1 : decode cX12_blocks 1 = .ok (.iload_n 1, 1) := by decide +kernel
theorem dX12_blocks_2 : decode cX12_blocks 2 = .ok (.iload_n 2, 1) := by decide +kernel
theorem dX12_blocks_3 : decode cX12_blocks 3 = .ok (.invokevirtual 132, 3) := by decide +kernel
theorem dX12_blocks_6 : decode cX12_blocks 6 = .ok (.astore_n 3, 1) := by decide +kernel
theorem dX12_blocks_7 : decode cX12_blocks 7 = .ok (.aload_n 3, 1) := by decide +kernel
theorem dX12_blocks_8 : decode cX12_blocks 8 = .ok (.ifnonnull 5, 3) := by decide +kernel
theorem dX12_blocks_11 : decode cX12_blocks 11 = .ok (.iconst (-1), 1) := by decide +kernel
theorem dX12_blocks_12 : decode cX12_blocks 12 = .ok (.ireturn, 1) := by decide +kernel
theorem dX12_blocks_13 : decode cX12_blocks 13 = .ok (.aload_n 0, 1) := by decide +kernel
theorem dX12_blocks_14 : decode cX12_blocks 14 = .ok (.getfield 59, 3) := by decide +kernel
theorem dX12_blocks_17 : decode cX12_blocks 17 = .ok (.aload_n 3, 1) := by decide +kernel
theorem dX12_blocks_18 : decode cX12_blocks 18 = .ok (.invokevirtual 215, 3) := by decide +kernel
theorem dX12_blocks_21 : decode cX12_blocks 21 = .ok (.aload_n 0, 1) := by decide +kernel
theorem dX12_blocks_22 : decode cX12_blocks 22 = .ok (.getfield 59, 3) := by decide +kernel
theorem dX12_blocks_25 : decode cX12_blocks 25 = .ok (.getfield 218, 3) := by decide +kernel
theorem dX12_blocks_28 : decode cX12_blocks 28 = .ok (.ireturn, 1) := by decide +kernel
theorem dX12_byteAt_0 : decode cX12_byteAt 0 = .ok (.iload_n 1, 1) := by decide +kernel
theorem dX12_byteAt_1 : decode cX12_byteAt 1 = .ok (.ifCond .lt 14, 3) := by decide +kernel
theorem dX12_byteAt_4 : decode cX12_byteAt 4 = .ok (.iload_n 1, 1) := by decide +kernel
theorem dX12_byteAt_5 : decode cX12_byteAt 5 = .ok (.aload_n 0, 1) := by decide +kernel
theorem dX12_byteAt_6 : decode cX12_byteAt 6 = .ok (.getfield 16, 3) := by decide +kernel
theorem dX12_byteAt_9 : decode cX12_byteAt 9 = .ok (.getfield 83, 3) := by decide +kernel
theorem dX12_byteAt_12 : decode cX12_byteAt 12 = .ok (.if_icmp .lt 7, 3) := by decide +kernel
theorem dX12_byteAt_15 : decode cX12_byteAt 15 = .ok (.iconst (-1), 1) := by decide +kernel
theorem dX12_byteAt_16 : decode cX12_byteAt 16 = .ok (.goto 11, 3) := by decide +kernel
theorem dX12_byteAt_19 : decode cX12_byteAt 19 = .ok (.aload_n 0, 1) := by decide +kernel
theorem dX12_byteAt_20 : decode cX12_byteAt 20 = .ok (.getfield 16, 3) := by decide +kernel
theorem dX12_byteAt_23 : decode cX12_byteAt 23 = .ok (.iload_n 1, 1) := by decide +kernel
theorem dX12_byteAt_24 : decode cX12_byteAt 24 = .ok (.invokevirtual 175, 3) := by decide +kernel
theorem dX12_byteAt_27 : decode cX12_byteAt 27 = .ok (.ireturn, 1) := by decide +kernel
theorem dX12_count_0 : decode cX12_count 0 = .ok (.aload_n 0, 1) := by decide +kernel
theorem dX12_count_1 : decode cX12_count 1 = .ok (.iload_n 1, 1) := by decide +kernel
theorem dX12_count_2 : decode cX12_count 2 = .ok (.invokevirtual 152, 3) := by decide +kernel
theorem dX12_count_5 : decode cX12_count 5 = .ok (.astore_n 2, 1) := by decide +kernel
theorem dX12_count_6 : decode cX12_count 6 = .ok (.aload_n 2, 1) := by decide +kernel
theorem dX12_count_7 : decode cX12_count 7 = .ok (.ifnonnull 5, 3) := by decide +kernel
theorem dX12_count_10 : decode cX12_count 10 = .ok (.iconst (-1), 1) := by decide +kernel
theorem dX12_count_11 : decode cX12_count 11 = .ok (.ireturn, 1) := by decide +kernel
theorem dX12_count_12 : decode cX12_count 12 = .ok (.aload_n 0, 1) := by decide +kernel
theorem dX12_count_13 : decode cX12_count 13 = .ok (.getfield 94, 3) := by decide +kernel
theorem dX12_count_16 : decode cX12_count 16 = .ok (.bipush 12, 2) := by decide +kernel
theorem dX12_count_18 : decode cX12_count 18 = .ok (.if_icmp .ge 12, 3) := by decide +kernel
theorem dX12_count_21 : decode cX12_count 21 = .ok (.aload_n 0, 1) := by decide +kernel
theorem dX12_count_22 : decode cX12_count 22 = .ok (.getfield 229, 3) := by decide +kernel
theorem dX12_count_25 : decode cX12_count 25 = .ok (.bipush 16, 2) := by decide +kernel
theorem dX12_count_27 : decode cX12_count 27 = .ok (.if_icmp .lt 6, 3) := by decide +kernel
theorem dX12_count_30 : decode cX12_count 30 = .ok (.bipush (-2), 2) := by decide +kernel
theorem dX12_count_32 : decode cX12_count 32 = .ok (.ireturn, 1) := by decide +kernel
theorem dX12_count_33 : decode cX12_count 33 = .ok (.aload_n 0, 1) := by decide +kernel
theorem dX12_count_34 : decode cX12_count 34 = .ok (.dup, 1) := by decide +kernel
theorem dX12_count_35 : decode cX12_count 35 = .ok (.getfield 229, 3) := by decide +kernel
theorem dX12_count_38 : decode cX12_count 38 = .ok (.iconst 1, 1) := by decide +kernel
theorem dX12_count_39 : decode cX12_count 39 = .ok (.iadd, 1) := by decide +kernel
theorem dX12_count_40 : decode cX12_count 40 = .ok (.putfield 229, 3) := by decide +kernel
theorem dX12_count_43 : decode cX12_count 43 = .ok (.aload_n 0, 1) := by decide +kernel
theorem dX12_count_44 : decode cX12_count 44 = .ok (.aload_n 2, 1) := by decide +kernel
theorem dX12_count_45 : decode cX12_count 45 = .ok (.invokevirtual 247, 3) := by decide +kernel
theorem dX12_count_48 : decode cX12_count 48 = .ok (.istore_n 3, 1) := by decide +kernel
theorem dX12_count_49 : decode cX12_count 49 = .ok (.aload_n 2, 1) := by decide +kernel
theorem dX12_count_50 : decode cX12_count 50 = .ok (.getfield 120, 3) := by decide +kernel
theorem dX12_count_53 : decode cX12_count 53 = .ok (.iload_n 3, 1) := by decide +kernel
theorem dX12_count_54 : decode cX12_count 54 = .ok (.iadd, 1) := by decide +kernel
theorem dX12_count_55 : decode cX12_count 55 = .ok (.bipush 24, 2) := by decide +kernel
theorem dX12_count_57 : decode cX12_count 57 = .ok (.if_icmp .le 6, 3) := by decide +kernel
theorem dX12_count_60 : decode cX12_count 60 = .ok (.bipush (-3), 2) := by decide +kernel
theorem dX12_count_62 : decode cX12_count 62 = .ok (.ireturn, 1) := by decide +kernel
theorem dX12_count_63 : decode cX12_count 63 = .ok (.aload_n 0, 1) := by decide +kernel
theorem dX12_count_64 : decode cX12_count 64 = .ok (.getfield 45, 3) := by decide +kernel
theorem dX12_count_67 : decode cX12_count 67 = .ok (.aload_n 2, 1) := by decide +kernel
theorem dX12_count_68 : decode cX12_count 68 = .ok (.iload_n 3, 1) := by decide +kernel
theorem dX12_count_69 : decode cX12_count 69 = .ok (.invokevirtual 163, 3) := by decide +kernel
theorem dX12_count_72 : decode cX12_count 72 = .ok (.aload_n 2, 1) := by decide +kernel

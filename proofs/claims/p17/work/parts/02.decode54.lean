theorem dX5_frameAt_20 : decode cX5_frameAt 20 = .ok (.iconst 3, 1) := by decide +kernel
theorem dX5_frameAt_21 : decode cX5_frameAt 21 = .ok (.aload_n 0, 1) := by decide +kernel
theorem dX5_frameAt_22 : decode cX5_frameAt 22 = .ok (.getfield 106, 3) := by decide +kernel
theorem dX5_frameAt_25 : decode cX5_frameAt 25 = .ok (.imul, 1) := by decide +kernel
theorem dX5_frameAt_26 : decode cX5_frameAt 26 = .ok (.iload_n 1, 1) := by decide +kernel
theorem dX5_frameAt_27 : decode cX5_frameAt 27 = .ok (.iadd, 1) := by decide +kernel
theorem dX5_frameAt_28 : decode cX5_frameAt 28 = .ok (.iaload, 1) := by decide +kernel
theorem dX5_frameAt_29 : decode cX5_frameAt 29 = .ok (.goto 4, 3) := by decide +kernel
theorem dX5_frameAt_32 : decode cX5_frameAt 32 = .ok (.iconst 0, 1) := by decide +kernel
theorem dX5_frameAt_33 : decode cX5_frameAt 33 = .ok (.ireturn, 1) := by decide +kernel
theorem dX5_handlerOf_0 : decode cX5_handlerOf 0 = .ok (.iconst 0, 1) := by decide +kernel
theorem dX5_handlerOf_1 : decode cX5_handlerOf 1 = .ok (.istore_n 2, 1) := by decide +kernel
theorem dX5_handlerOf_2 : decode cX5_handlerOf 2 = .ok (.iload_n 2, 1) := by decide +kernel
theorem dX5_handlerOf_3 : decode cX5_handlerOf 3 = .ok (.aload_n 0, 1) := by decide +kernel
theorem dX5_handlerOf_4 : decode cX5_handlerOf 4 = .ok (.getfield 119, 3) := by decide +kernel
theorem dX5_handlerOf_7 : decode cX5_handlerOf 7 = .ok (.getfield 294, 3) := by decide +kernel
theorem dX5_handlerOf_10 : decode cX5_handlerOf 10 = .ok (.if_icmp .ge 60, 3) := by decide +kernel
theorem dX5_handlerOf_13 : decode cX5_handlerOf 13 = .ok (.aload_n 0, 1) := by decide +kernel
theorem dX5_handlerOf_14 : decode cX5_handlerOf 14 = .ok (.getfield 119, 3) := by decide +kernel
theorem dX5_handlerOf_17 : decode cX5_handlerOf 17 = .ok (.iload_n 2, 1) := by decide +kernel
theorem dX5_handlerOf_18 : decode cX5_handlerOf 18 = .ok (.aload_n 0, 1) := by decide +kernel
theorem dX5_handlerOf_19 : decode cX5_handlerOf 19 = .ok (.getfield 123, 3) := by decide +kernel
theorem dX5_handlerOf_22 : decode cX5_handlerOf 22 = .ok (.invokevirtual 297, 3) := by decide +kernel
theorem dX5_handlerOf_25 : decode cX5_handlerOf 25 = .ok (.ifCond .eq 39, 3) := by decide +kernel
theorem dX5_handlerOf_28 : decode cX5_handlerOf 28 = .ok (.aload_n 0, 1) := by decide +kernel
theorem dX5_handlerOf_29 : decode cX5_handlerOf 29 = .ok (.getfield 119, 3) := by decide +kernel
theorem dX5_handlerOf_32 : decode cX5_handlerOf 32 = .ok (.getfield 301, 3) := by decide +kernel
theorem dX5_handlerOf_35 : decode cX5_handlerOf 35 = .ok (.iload_n 2, 1) := by decide +kernel
theorem dX5_handlerOf_36 : decode cX5_handlerOf 36 = .ok (.iaload, 1) := by decide +kernel
theorem dX5_handlerOf_37 : decode cX5_handlerOf 37 = .ok (.iload_n 1, 1) := by decide +kernel
theorem dX5_handlerOf_38 : decode cX5_handlerOf 38 = .ok (.if_icmp .eq 16, 3) := by decide +kernel
theorem dX5_handlerOf_41 : decode cX5_handlerOf 41 = .ok (.aload_n 0, 1) := by decide +kernel
theorem dX5_handlerOf_42 : decode cX5_handlerOf 42 = .ok (.getfield 119, 3) := by decide +kernel
theorem dX5_handlerOf_45 : decode cX5_handlerOf 45 = .ok (.getfield 301, 3) := by decide +kernel
theorem dX5_handlerOf_48 : decode cX5_handlerOf 48 = .ok (.iload_n 2, 1) := by decide +kernel
theorem dX5_handlerOf_49 : decode cX5_handlerOf 49 = .ok (.iaload, 1) := by decide +kernel
theorem dX5_handlerOf_50 : decode cX5_handlerOf 50 = .ok (.iconst (-1), 1) := by decide +kernel
theorem dX5_handlerOf_51 : decode cX5_handlerOf 51 = .ok (.if_icmp .ne 13, 3) := by decide +kernel
theorem dX5_handlerOf_54 : decode cX5_handlerOf 54 = .ok (.aload_n 0, 1) := by decide +kernel
theorem dX5_handlerOf_55 : decode cX5_handlerOf 55 = .ok (.getfield 119, 3) := by decide +kernel
theorem dX5_handlerOf_58 : decode cX5_handlerOf 58 = .ok (.getfield 304, 3) := by decide +kernel
theorem dX5_handlerOf_61 : decode cX5_handlerOf 61 = .ok (.iload_n 2, 1) := by decide +kernel
theorem dX5_handlerOf_62 : decode cX5_handlerOf 62 = .ok (.iaload, 1) := by decide +kernel
theorem dX5_handlerOf_63 : decode cX5_handlerOf 63 = .ok (.ireturn, 1) := by decide +kernel
theorem dX5_handlerOf_64 : decode cX5_handlerOf 64 = .ok (.iinc 2 1, 3) := by decide +kernel
theorem dX5_handlerOf_67 : decode cX5_handlerOf 67 = .ok (.goto (-65), 3) := by decide +kernel
theorem dX5_handlerOf_70 : decode cX5_handlerOf 70 = .ok (.iconst (-1), 1) := by decide +kernel
theorem dX5_handlerOf_71 : decode cX5_handlerOf 71 = .ok (.ireturn, 1) := by decide +kernel
theorem dX5_heapAt_0 : decode cX5_heapAt 0 = .ok (.iload_n 1, 1) := by decide +kernel
theorem dX5_heapAt_1 : decode cX5_heapAt 1 = .ok (.ifCond .lt 20, 3) := by decide +kernel
theorem dX5_heapAt_4 : decode cX5_heapAt 4 = .ok (.iload_n 1, 1) := by decide +kernel
theorem dX5_heapAt_5 : decode cX5_heapAt 5 = .ok (.aload_n 0, 1) := by decide +kernel
theorem dX5_heapAt_6 : decode cX5_heapAt 6 = .ok (.getfield 48, 3) := by decide +kernel
theorem dX5_heapAt_9 : decode cX5_heapAt 9 = .ok (.if_icmp .ge 12, 3) := by decide +kernel
theorem dX5_heapAt_12 : decode cX5_heapAt 12 = .ok (.iload_n 1, 1) := by decide +kernel
theorem dX5_heapAt_13 : decode cX5_heapAt 13 = .ok (.aload_n 0, 1) := by decide +kernel
theorem dX5_heapAt_14 : decode cX5_heapAt 14 = .ok (.getfield 15, 3) := by decide +kernel
theorem dX5_heapAt_17 : decode cX5_heapAt 17 = .ok (.arraylength, 1) := by decide +kernel
theorem dX5_heapAt_18 : decode cX5_heapAt 18 = .ok (.if_icmp .lt 15, 3) := by decide +kernel
theorem dX5_heapAt_21 : decode cX5_heapAt 21 = .ok (.aload_n 0, 1) := by decide +kernel
theorem dX5_heapAt_22 : decode cX5_heapAt 22 = .ok (.dup, 1) := by decide +kernel
theorem dX5_heapAt_23 : decode cX5_heapAt 23 = .ok (.getfield 76, 3) := by decide +kernel
theorem dX5_heapAt_26 : decode cX5_heapAt 26 = .ok (.iconst 1, 1) := by decide +kernel
theorem dX5_heapAt_27 : decode cX5_heapAt 27 = .ok (.iadd, 1) := by decide +kernel
theorem dX5_heapAt_28 : decode cX5_heapAt 28 = .ok (.putfield 76, 3) := by decide +kernel
theorem dX5_heapAt_31 : decode cX5_heapAt 31 = .ok (.iconst 0, 1) := by decide +kernel
theorem dX5_heapAt_32 : decode cX5_heapAt 32 = .ok (.ireturn, 1) := by decide +kernel
theorem dX5_heapAt_33 : decode cX5_heapAt 33 = .ok (.aload_n 0, 1) := by decide +kernel
theorem dX5_heapAt_34 : decode cX5_heapAt 34 = .ok (.getfield 15, 3) := by decide +kernel
theorem dX5_heapAt_37 : decode cX5_heapAt 37 = .ok (.iload_n 1, 1) := by decide +kernel
theorem dX5_heapAt_38 : decode cX5_heapAt 38 = .ok (.iaload, 1) := by decide +kernel
theorem dX5_heapAt_39 : decode cX5_heapAt 39 = .ok (.ireturn, 1) := by decide +kernel
theorem dX5_init_0 : decode cX5_init 0 = .ok (.aload_n 0, 1) := by decide +kernel
theorem dX5_init_1 : decode cX5_init 1 = .ok (.invokespecial 3, 3) := by decide +kernel
theorem dX5_init_4 : decode cX5_init 4 = .ok (.aload_n 0, 1) := by decide +kernel
theorem dX5_init_5 : decode cX5_init 5 = .ok (.bipush 24, 2) := by decide +kernel
theorem dX5_init_7 : decode cX5_init 7 = .ok (.newarray .long, 2) := by decide +kernel
theorem dX5_init_9 : decode cX5_init 9 = .ok (.putfield 9, 3) := by decide +kernel
theorem dX5_init_12 : decode cX5_init 12 = .ok (.aload_n 0, 1) := by decide +kernel
theorem dX5_init_13 : decode cX5_init 13 = .ok (.iconst 0, 1) := by decide +kernel
theorem dX5_init_14 : decode cX5_init 14 = .ok (.newarray .int, 2) := by decide +kernel
theorem dX5_init_16 : decode cX5_init 16 = .ok (.putfield 15, 3) := by decide +kernel
theorem dX5_init_19 : decode cX5_init 19 = .ok (.aload_n 0, 1) := by decide +kernel
theorem dX5_init_20 : decode cX5_init 20 = .ok (.bipush 8, 2) := by decide +kernel
theorem dX5_init_22 : decode cX5_init 22 = .ok (.newarray .int, 2) := by decide +kernel
theorem dX5_init_24 : decode cX5_init 24 = .ok (.putfield 19, 3) := by decide +kernel
theorem dX5_init_27 : decode cX5_init 27 = .ok (.aload_n 0, 1) := by decide +kernel
theorem dX5_init_28 : decode cX5_init 28 = .ok (.bipush 8, 2) := by decide +kernel
theorem dX5_init_30 : decode cX5_init 30 = .ok (.newarray .long, 2) := by decide +kernel
theorem dX5_init_32 : decode cX5_init 32 = .ok (.putfield 22, 3) := by decide +kernel
theorem dX5_init_35 : decode cX5_init 35 = .ok (.aload_n 0, 1) := by decide +kernel
theorem dX5_init_36 : decode cX5_init 36 = .ok (.iconst 0, 1) := by decide +kernel
theorem dX5_init_37 : decode cX5_init 37 = .ok (.newarray .long, 2) := by decide +kernel
theorem dX5_init_39 : decode cX5_init 39 = .ok (.putfield 25, 3) := by decide +kernel
theorem dX5_init_42 : decode cX5_init 42 = .ok (.aload_n 0, 1) := by decide +kernel
theorem dX5_init_43 : decode cX5_init 43 = .ok (.iconst 0, 1) := by decide +kernel
theorem dX5_init_44 : decode cX5_init 44 = .ok (.newarray .long, 2) := by decide +kernel
theorem dX5_init_46 : decode cX5_init 46 = .ok (.putfield 28, 3) := by decide +kernel
theorem dX5_init_49 : decode cX5_init 49 = .ok (.aload_n 0, 1) := by decide +kernel
theorem dX5_init_50 : decode cX5_init 50 = .ok (.sipush 180, 3) := by decide +kernel
theorem dX5_init_53 : decode cX5_init 53 = .ok (.newarray .int, 2) := by decide +kernel
theorem dX5_init_55 : decode cX5_init 55 = .ok (.putfield 31, 3) := by decide +kernel
theorem dX5_init_58 : decode cX5_init 58 = .ok (.aload_n 0, 1) := by decide +kernel
theorem dX5_init_59 : decode cX5_init 59 = .ok (.iconst (-1), 1) := by decide +kernel
theorem dX5_init_60 : decode cX5_init 60 = .ok (.putfield 34, 3) := by decide +kernel
theorem dX5_init_63 : decode cX5_init 63 = .ok (.return_, 1) := by decide +kernel
theorem dX5_isArray_0 : decode cX5_isArray 0 = .ok (.lload_n 1, 1) := by decide +kernel
theorem dX5_isArray_1 : decode cX5_isArray 1 = .ok (.lconst 1, 1) := by decide +kernel
theorem dX5_isArray_2 : decode cX5_isArray 2 = .ok (.lcmp, 1) := by decide +kernel
theorem dX5_isArray_3 : decode cX5_isArray 3 = .ok (.ifCond .lt 17, 3) := by decide +kernel
theorem dX5_isArray_6 : decode cX5_isArray 6 = .ok (.lload_n 1, 1) := by decide +kernel
theorem dX5_isArray_7 : decode cX5_isArray 7 = .ok (.aload_n 0, 1) := by decide +kernel
theorem dX5_isArray_8 : decode cX5_isArray 8 = .ok (.getfield 51, 3) := by decide +kernel
theorem dX5_isArray_11 : decode cX5_isArray 11 = .ok (.i2l, 1) := by decide +kernel
theorem dX5_isArray_12 : decode cX5_isArray 12 = .ok (.lcmp, 1) := by decide +kernel
theorem dX5_isArray_13 : decode cX5_isArray 13 = .ok (.ifCond .gt 7, 3) := by decide +kernel
theorem dX5_isArray_16 : decode cX5_isArray 16 = .ok (.iconst 1, 1) := by decide +kernel
theorem dX5_isArray_17 : decode cX5_isArray 17 = .ok (.goto 4, 3) := by decide +kernel
theorem dX5_isArray_20 : decode cX5_isArray 20 = .ok (.iconst 0, 1) := by decide +kernel
theorem dX5_isArray_21 : decode cX5_isArray 21 = .ok (.ireturn, 1) := by decide +kernel
theorem dX5_isJumpTaken_0 : decode cX5_isJumpTaken 0 = .ok (.iload_n 1, 1) := by decide +kernel
theorem dX5_isJumpTaken_1 : decode cX5_isJumpTaken 1 = .ok (.sipush 167, 3) := by decide +kernel
theorem dX5_isJumpTaken_4 : decode cX5_isJumpTaken 4 = .ok (.if_icmp .ne 5, 3) := by decide +kernel
theorem dX5_isJumpTaken_7 : decode cX5_isJumpTaken 7 = .ok (.iconst 1, 1) := by decide +kernel
theorem dX5_isJumpTaken_8 : decode cX5_isJumpTaken 8 = .ok (.ireturn, 1) := by decide +kernel
theorem dX5_isJumpTaken_9 : decode cX5_isJumpTaken 9 = .ok (.aload_n 0, 1) := by decide +kernel
theorem dX5_isJumpTaken_10 : decode cX5_isJumpTaken 10 = .ok (.invokevirtual 141, 3) := by decide +kernel
theorem dX5_isJumpTaken_13 : decode cX5_isJumpTaken 13 = .ok (.lstore_n 2, 1) := by decide +kernel
theorem dX5_isJumpTaken_14 : decode cX5_isJumpTaken 14 = .ok (.iload_n 1, 1) := by decide +kernel
theorem dX5_isJumpTaken_15 : decode cX5_isJumpTaken 15 = .ok (.lookupswitch 95 #[(165, 65), (166, 80), (198, 41), (199, 53)], 41) := by decide +kernel
theorem dX5_isJumpTaken_56 : decode cX5_isJumpTaken 56 = .ok (.lload_n 2, 1) := by decide +kernel
theorem dX5_isJumpTaken_57 : decode cX5_isJumpTaken 57 = .ok (.lconst 0, 1) := by decide +kernel
theorem dX5_isJumpTaken_58 : decode cX5_isJumpTaken 58 = .ok (.lcmp, 1) := by decide +kernel
theorem dX5_isJumpTaken_59 : decode cX5_isJumpTaken 59 = .ok (.ifCond .ne 7, 3) := by decide +kernel
theorem dX5_isJumpTaken_62 : decode cX5_isJumpTaken 62 = .ok (.iconst 1, 1) := by decide +kernel
theorem dX5_isJumpTaken_63 : decode cX5_isJumpTaken 63 = .ok (.goto 4, 3) := by decide +kernel
theorem dX5_isJumpTaken_66 : decode cX5_isJumpTaken 66 = .ok (.iconst 0, 1) := by decide +kernel
theorem dX5_isJumpTaken_67 : decode cX5_isJumpTaken 67 = .ok (.ireturn, 1) := by decide +kernel
theorem dX5_isJumpTaken_68 : decode cX5_isJumpTaken 68 = .ok (.lload_n 2, 1) := by decide +kernel
theorem dX5_isJumpTaken_69 : decode cX5_isJumpTaken 69 = .ok (.lconst 0, 1) := by decide +kernel
theorem dX5_isJumpTaken_70 : decode cX5_isJumpTaken 70 = .ok (.lcmp, 1) := by decide +kernel
theorem dX5_isJumpTaken_71 : decode cX5_isJumpTaken 71 = .ok (.ifCond .eq 7, 3) := by decide +kernel
theorem dX5_isJumpTaken_74 : decode cX5_isJumpTaken 74 = .ok (.iconst 1, 1) := by decide +kernel
theorem dX5_isJumpTaken_75 : decode cX5_isJumpTaken 75 = .ok (.goto 4, 3) := by decide +kernel
theorem dX5_isJumpTaken_78 : decode cX5_isJumpTaken 78 = .ok (.iconst 0, 1) := by decide +kernel
theorem dX5_isJumpTaken_79 : decode cX5_isJumpTaken 79 = .ok (.ireturn, 1) := by decide +kernel
theorem dX5_isJumpTaken_80 : decode cX5_isJumpTaken 80 = .ok (.aload_n 0, 1) := by decide +kernel
theorem dX5_isJumpTaken_81 : decode cX5_isJumpTaken 81 = .ok (.invokevirtual 141, 3) := by decide +kernel
theorem dX5_isJumpTaken_84 : decode cX5_isJumpTaken 84 = .ok (.lload_n 2, 1) := by decide +kernel
theorem dX5_isJumpTaken_85 : decode cX5_isJumpTaken 85 = .ok (.lcmp, 1) := by decide +kernel

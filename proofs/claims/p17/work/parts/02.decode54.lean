theorem dX5_heapAt_31 : decode cX5_heapAt 31 = .ok (.iconst 0, 1) := by decide +kernel
theorem dX5_heapAt_32 : decode cX5_heapAt 32 = .ok (.ireturn, 1) := by decide +kernel
theorem dX5_heapAt_33 : decode cX5_heapAt 33 = .ok (.aload_n 0, 1) := by decide +kernel
theorem dX5_heapAt_34 : decode cX5_heapAt 34 = .ok (.getfield 15, 3) := by decide +kernel
theorem dX5_heapAt_37 : decode cX5_heapAt 37 = .ok (.iload_n 1, 1) := by decide +kernel
theorem dX5_heapAt_38 : decode cX5_heapAt 38 = .ok (.iaload, 1) := by decide +kernel
theorem dX5_heapAt_39 : decode cX5_heapAt 39 = .ok (.ireturn, 1) := by decide +kernel
theorem dX5_init_0 : decode cX5_init 0 = .ok (.aload_n 0, 1) := by decide +kernel
theorem dX5_init_1 : decode cX5_init 1 = .ok (.invokespecial 3, 3) := by decide +kernel
theorem dX5_init_4 : decode cX5_init 4 = .ok (.aload_n 0, 1) := by decide +kernel
theorem dX5_init_5 : decode cX5_init 5 = .ok (.bipush 24, 2) := by decide +kernel
theorem dX5_init_7 : decode cX5_init 7 = .ok (.newarray .long, 2) := by decide +kernel
theorem dX5_init_9 : decode cX5_init 9 = .ok (.putfield 9, 3) := by decide +kernel
theorem dX5_init_12 : decode cX5_init 12 = .ok (.aload_n 0, 1) := by decide +kernel
theorem dX5_init_13 : decode cX5_init 13 = .ok (.iconst 0, 1) := by decide +kernel
theorem dX5_init_14 : decode cX5_init 14 = .ok (.newarray .int, 2) := by decide +kernel
theorem dX5_init_16 : decode cX5_init 16 = .ok (.putfield 15, 3) := by decide +kernel
theorem dX5_init_19 : decode cX5_init 19 = .ok (.aload_n 0, 1) := by decide +kernel
theorem dX5_init_20 : decode cX5_init 20 = .ok (.bipush 8, 2) := by decide +kernel
theorem dX5_init_22 : decode cX5_init 22 = .ok (.newarray .int, 2) := by decide +kernel
theorem dX5_init_24 : decode cX5_init 24 = .ok (.putfield 19, 3) := by decide +kernel
theorem dX5_init_27 : decode cX5_init 27 = .ok (.aload_n 0, 1) := by decide +kernel
theorem dX5_init_28 : decode cX5_init 28 = .ok (.bipush 8, 2) := by decide +kernel
theorem dX5_init_30 : decode cX5_init 30 = .ok (.newarray .long, 2) := by decide +kernel
theorem dX5_init_32 : decode cX5_init 32 = .ok (.putfield 22, 3) := by decide +kernel
theorem dX5_init_35 : decode cX5_init 35 = .ok (.aload_n 0, 1) := by decide +kernel
theorem dX5_init_36 : decode cX5_init 36 = .ok (.iconst 0, 1) := by decide +kernel
theorem dX5_init_37 : decode cX5_init 37 = .ok (.newarray .long, 2) := by decide +kernel
theorem dX5_init_39 : decode cX5_init 39 = .ok (.putfield 25, 3) := by decide +kernel
theorem dX5_init_42 : decode cX5_init 42 = .ok (.aload_n 0, 1) := by decide +kernel
theorem dX5_init_43 : decode cX5_init 43 = .ok (.iconst 0, 1) := by decide +kernel
theorem dX5_init_44 : decode cX5_init 44 = .ok (.newarray .long, 2) := by decide +kernel
theorem dX5_init_46 : decode cX5_init 46 = .ok (.putfield 28, 3) := by decide +kernel
theorem dX5_init_49 : decode cX5_init 49 = .ok (.aload_n 0, 1) := by decide +kernel
theorem dX5_init_50 : decode cX5_init 50 = .ok (.sipush 180, 3) := by decide +kernel
theorem dX5_init_53 : decode cX5_init 53 = .ok (.newarray .int, 2) := by decide +kernel
theorem dX5_init_55 : decode cX5_init 55 = .ok (.putfield 31, 3) := by decide +kernel
theorem dX5_init_58 : decode cX5_init 58 = .ok (.aload_n 0, 1) := by decide +kernel
theorem dX5_init_59 : decode cX5_init 59 = .ok (.iconst (-1), 1) := by decide +kernel
theorem dX5_init_60 : decode cX5_init 60 = .ok (.putfield 34, 3) := by decide +kernel
theorem dX5_init_63 : decode cX5_init 63 = .ok (.return_, 1) := by decide +kernel
theorem dX5_isArray_0 : decode cX5_isArray 0 = .ok (.lload_n 1, 1) := by decide +kernel
theorem dX5_isArray_1 : decode cX5_isArray 1 = .ok (.lconst 1, 1) := by decide +kernel
theorem dX5_isArray_2 : decode cX5_isArray 2 = .ok (.lcmp, 1) := by decide +kernel
theorem dX5_isArray_3 : decode cX5_isArray 3 = .ok (.ifCond .lt 17, 3) := by decide +kernel
theorem dX5_isArray_6 : decode cX5_isArray 6 = .ok (.lload_n 1, 1) := by decide +kernel
theorem dX5_isArray_7 : decode cX5_isArray 7 = .ok (.aload_n 0, 1) := by decide +kernel
theorem dX5_isArray_8 : decode cX5_isArray 8 = .ok (.getfield 51, 3) := by decide +kernel
theorem dX5_isArray_11 : decode cX5_isArray 11 = .ok (.i2l, 1) := by decide +kernel
theorem dX5_isArray_12 : decode cX5_isArray 12 = .ok (.lcmp, 1) := by decide +kernel
theorem dX5_isArray_13 : decode cX5_isArray 13 = .ok (.ifCond .gt 7, 3) := by decide +kernel
theorem dX5_isArray_16 : decode cX5_isArray 16 = .ok (.iconst 1, 1) := by decide +kernel
theorem dX5_isArray_17 : decode cX5_isArray 17 = .ok (.goto 4, 3) := by decide +kernel
theorem dX5_isArray_20 : decode cX5_isArray 20 = .ok (.iconst 0, 1) := by decide +kernel
theorem dX5_isArray_21 : decode cX5_isArray 21 = .ok (.ireturn, 1) := by decide +kernel
theorem dX5_isJumpTaken_0 : decode cX5_isJumpTaken 0 = .ok (.iload_n 1, 1) := by decide +kernel
theorem dX5_isJumpTaken_1 : decode cX5_isJumpTaken 1 = .ok (.sipush 167, 3) := by decide +kernel
theorem dX5_isJumpTaken_4 : decode cX5_isJumpTaken 4 = .ok (.if_icmp .ne 5, 3) := by decide +kernel
theorem dX5_isJumpTaken_7 : decode cX5_isJumpTaken 7 = .ok (.iconst 1, 1) := by decide +kernel
theorem dX5_isJumpTaken_8 : decode cX5_isJumpTaken 8 = .ok (.ireturn, 1) := by decide +kernel
theorem dX5_isJumpTaken_9 : decode cX5_isJumpTaken 9 = .ok (.aload_n 0, 1) := by decide +kernel
theorem dX5_isJumpTaken_10 : decode cX5_isJumpTaken 10 = .ok (.invokevirtual 141, 3) := by decide +kernel
theorem dX5_isJumpTaken_13 : decode cX5_isJumpTaken 13 = .ok (.lstore_n 2, 1) := by decide +kernel
theorem dX5_isJumpTaken_14 : decode cX5_isJumpTaken 14 = .ok (.iload_n 1, 1) := by decide +kernel
theorem dX5_isJumpTaken_15 : decode cX5_isJumpTaken 15 = .ok (.lookupswitch 95 #[(165, 65), (166, 80), (198, 41), (199, 53)], 41) := by decide +kernel
theorem dX5_isJumpTaken_56 : decode cX5_isJumpTaken 56 = .ok (.lload_n 2, 1) := by decide +kernel
theorem dX5_isJumpTaken_57 : decode cX5_isJumpTaken 57 = .ok (.lconst 0, 1) := by decide +kernel
theorem dX5_isJumpTaken_58 : decode cX5_isJumpTaken 58 = .ok (.lcmp, 1) := by decide +kernel
theorem dX5_isJumpTaken_59 : decode cX5_isJumpTaken 59 = .ok (.ifCond .ne 7, 3) := by decide +kernel
theorem dX5_isJumpTaken_62 : decode cX5_isJumpTaken 62 = .ok (.iconst 1, 1) := by decide +kernel
theorem dX5_isJumpTaken_63 : decode cX5_isJumpTaken 63 = .ok (.goto 4, 3) := by decide +kernel
theorem dX5_isJumpTaken_66 : decode cX5_isJumpTaken 66 = .ok (.iconst 0, 1) := by decide +kernel
theorem dX5_isJumpTaken_67 : decode cX5_isJumpTaken 67 = .ok (.ireturn, 1) := by decide +kernel
theorem dX5_isJumpTaken_68 : decode cX5_isJumpTaken 68 = .ok (.lload_n 2, 1) := by decide +kernel
theorem dX5_isJumpTaken_69 : decode cX5_isJumpTaken 69 = .ok (.lconst 0, 1) := by decide +kernel
theorem dX5_isJumpTaken_70 : decode cX5_isJumpTaken 70 = .ok (.lcmp, 1) := by decide +kernel
theorem dX5_isJumpTaken_71 : decode cX5_isJumpTaken 71 = .ok (.ifCond .eq 7, 3) := by decide +kernel
theorem dX5_isJumpTaken_74 : decode cX5_isJumpTaken 74 = .ok (.iconst 1, 1) := by decide +kernel
theorem dX5_isJumpTaken_75 : decode cX5_isJumpTaken 75 = .ok (.goto 4, 3) := by decide +kernel
theorem dX5_isJumpTaken_78 : decode cX5_isJumpTaken 78 = .ok (.iconst 0, 1) := by decide +kernel
theorem dX5_isJumpTaken_79 : decode cX5_isJumpTaken 79 = .ok (.ireturn, 1) := by decide +kernel
theorem dX5_isJumpTaken_80 : decode cX5_isJumpTaken 80 = .ok (.aload_n 0, 1) := by decide +kernel
theorem dX5_isJumpTaken_81 : decode cX5_isJumpTaken 81 = .ok (.invokevirtual 141, 3) := by decide +kernel
theorem dX5_isJumpTaken_84 : decode cX5_isJumpTaken 84 = .ok (.lload_n 2, 1) := by decide +kernel
theorem dX5_isJumpTaken_85 : decode cX5_isJumpTaken 85 = .ok (.lcmp, 1) := by decide +kernel
theorem dX5_isJumpTaken_86 : decode cX5_isJumpTaken 86 = .ok (.ifCond .ne 7, 3) := by decide +kernel
theorem dX5_isJumpTaken_89 : decode cX5_isJumpTaken 89 = .ok (.iconst 1, 1) := by decide +kernel
theorem dX5_isJumpTaken_90 : decode cX5_isJumpTaken 90 = .ok (.goto 4, 3) := by decide +kernel
theorem dX5_isJumpTaken_93 : decode cX5_isJumpTaken 93 = .ok (.iconst 0, 1) := by decide +kernel
theorem dX5_isJumpTaken_94 : decode cX5_isJumpTaken 94 = .ok (.ireturn, 1) := by decide +kernel
theorem dX5_isJumpTaken_95 : decode cX5_isJumpTaken 95 = .ok (.aload_n 0, 1) := by decide +kernel
theorem dX5_isJumpTaken_96 : decode cX5_isJumpTaken 96 = .ok (.invokevirtual 141, 3) := by decide +kernel
theorem dX5_isJumpTaken_99 : decode cX5_isJumpTaken 99 = .ok (.lload_n 2, 1) := by decide +kernel
theorem dX5_isJumpTaken_100 : decode cX5_isJumpTaken 100 = .ok (.lcmp, 1) := by decide +kernel
theorem dX5_isJumpTaken_101 : decode cX5_isJumpTaken 101 = .ok (.ifCond .eq 7, 3) := by decide +kernel
theorem dX5_isJumpTaken_104 : decode cX5_isJumpTaken 104 = .ok (.iconst 1, 1) := by decide +kernel
theorem dX5_isJumpTaken_105 : decode cX5_isJumpTaken 105 = .ok (.goto 4, 3) := by decide +kernel
theorem dX5_isJumpTaken_108 : decode cX5_isJumpTaken 108 = .ok (.iconst 0, 1) := by decide +kernel
theorem dX5_isJumpTaken_109 : decode cX5_isJumpTaken 109 = .ok (.ireturn, 1) := by decide +kernel
theorem dX5_isJumpTaken_110 : decode cX5_isJumpTaken 110 = .ok (.iload_n 1, 1) := by decide +kernel
theorem dX5_isJumpTaken_111 : decode cX5_isJumpTaken 111 = .ok (.sipush 159, 3) := by decide +kernel
theorem dX5_isJumpTaken_114 : decode cX5_isJumpTaken 114 = .ok (.if_icmp .ge 13, 3) := by decide +kernel
theorem dX5_isJumpTaken_117 : decode cX5_isJumpTaken 117 = .ok (.iload_n 1, 1) := by decide +kernel
theorem dX5_isJumpTaken_118 : decode cX5_isJumpTaken 118 = .ok (.lload_n 2, 1) := by decide +kernel
theorem dX5_isJumpTaken_119 : decode cX5_isJumpTaken 119 = .ok (.l2i, 1) := by decide +kernel
theorem dX5_isJumpTaken_120 : decode cX5_isJumpTaken 120 = .ok (.iconst 0, 1) := by decide +kernel
theorem dX5_isJumpTaken_121 : decode cX5_isJumpTaken 121 = .ok (.invokestatic 218, 3) := by decide +kernel
theorem dX5_isJumpTaken_124 : decode cX5_isJumpTaken 124 = .ok (.goto 14, 3) := by decide +kernel
theorem dX5_isJumpTaken_127 : decode cX5_isJumpTaken 127 = .ok (.iload_n 1, 1) := by decide +kernel
theorem dX5_isJumpTaken_128 : decode cX5_isJumpTaken 128 = .ok (.aload_n 0, 1) := by decide +kernel
theorem dX5_isJumpTaken_129 : decode cX5_isJumpTaken 129 = .ok (.invokevirtual 141, 3) := by decide +kernel
theorem dX5_isJumpTaken_132 : decode cX5_isJumpTaken 132 = .ok (.l2i, 1) := by decide +kernel
theorem dX5_isJumpTaken_133 : decode cX5_isJumpTaken 133 = .ok (.lload_n 2, 1) := by decide +kernel
theorem dX5_isJumpTaken_134 : decode cX5_isJumpTaken 134 = .ok (.l2i, 1) := by decide +kernel
theorem dX5_isJumpTaken_135 : decode cX5_isJumpTaken 135 = .ok (.invokestatic 218, 3) := by decide +kernel
theorem dX5_isJumpTaken_138 : decode cX5_isJumpTaken 138 = .ok (.ireturn, 1) := by decide +kernel
theorem dX5_leave_0 : decode cX5_leave 0 = .ok (.iload_n 1, 1) := by decide +kernel
theorem dX5_leave_1 : decode cX5_leave 1 = .ok (.invokestatic 166, 3) := by decide +kernel
theorem dX5_leave_4 : decode cX5_leave 4 = .ok (.istore_n 2, 1) := by decide +kernel
theorem dX5_leave_5 : decode cX5_leave 5 = .ok (.aload_n 0, 1) := by decide +kernel
theorem dX5_leave_6 : decode cX5_leave 6 = .ok (.iload_n 2, 1) := by decide +kernel
theorem dX5_leave_7 : decode cX5_leave 7 = .ok (.invokevirtual 169, 3) := by decide +kernel
theorem dX5_leave_10 : decode cX5_leave 10 = .ok (.lstore_n 3, 1) := by decide +kernel
theorem dX5_leave_11 : decode cX5_leave 11 = .ok (.aload_n 0, 1) := by decide +kernel
theorem dX5_leave_12 : decode cX5_leave 12 = .ok (.getfield 106, 3) := by decide +kernel
theorem dX5_leave_15 : decode cX5_leave 15 = .ok (.ifCond .ne 14, 3) := by decide +kernel
theorem dX5_leave_18 : decode cX5_leave 18 = .ok (.aload_n 0, 1) := by decide +kernel
theorem dX5_leave_19 : decode cX5_leave 19 = .ok (.iconst 0, 1) := by decide +kernel
theorem dX5_leave_20 : decode cX5_leave 20 = .ok (.putfield 103, 3) := by decide +kernel
theorem dX5_leave_23 : decode cX5_leave 23 = .ok (.aload_n 0, 1) := by decide +kernel
theorem dX5_leave_24 : decode cX5_leave 24 = .ok (.lload_n 3, 1) := by decide +kernel
theorem dX5_leave_25 : decode cX5_leave 25 = .ok (.putfield 96, 3) := by decide +kernel
theorem dX5_leave_28 : decode cX5_leave 28 = .ok (.return_, 1) := by decide +kernel
theorem dX5_leave_29 : decode cX5_leave 29 = .ok (.aload_n 0, 1) := by decide +kernel
theorem dX5_leave_30 : decode cX5_leave 30 = .ok (.invokevirtual 276, 3) := by decide +kernel
theorem dX5_leave_33 : decode cX5_leave 33 = .ok (.aload_n 0, 1) := by decide +kernel
theorem dX5_leave_34 : decode cX5_leave 34 = .ok (.iload_n 2, 1) := by decide +kernel
theorem dX5_leave_35 : decode cX5_leave 35 = .ok (.lload_n 3, 1) := by decide +kernel
theorem dX5_leave_36 : decode cX5_leave 36 = .ok (.invokevirtual 176, 3) := by decide +kernel
theorem dX5_leave_39 : decode cX5_leave 39 = .ok (.aload_n 0, 1) := by decide +kernel
theorem dX5_leave_40 : decode cX5_leave 40 = .ok (.dup, 1) := by decide +kernel
theorem dX5_leave_41 : decode cX5_leave 41 = .ok (.getfield 123, 3) := by decide +kernel
theorem dX5_leave_44 : decode cX5_leave 44 = .ok (.iconst 1, 1) := by decide +kernel
theorem dX5_leave_45 : decode cX5_leave 45 = .ok (.iadd, 1) := by decide +kernel
theorem dX5_leave_46 : decode cX5_leave 46 = .ok (.putfield 123, 3) := by decide +kernel
theorem dX5_leave_49 : decode cX5_leave 49 = .ok (.return_, 1) := by decide +kernel
theorem dX5_lengthOf_0 : decode cX5_lengthOf 0 = .ok (.aload_n 0, 1) := by decide +kernel
theorem dX5_lengthOf_1 : decode cX5_lengthOf 1 = .ok (.iload_n 1, 1) := by decide +kernel
theorem dX5_lengthOf_2 : decode cX5_lengthOf 2 = .ok (.i2l, 1) := by decide +kernel
theorem dX5_lengthOf_3 : decode cX5_lengthOf 3 = .ok (.invokevirtual 62, 3) := by decide +kernel

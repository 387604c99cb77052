theorem dX5_isJumpTaken_86 : decode cX5_isJumpTaken 86 = .ok (.ifCond .ne 7, 3) := by decide +kernel
theorem dX5_isJumpTaken_89 : decode cX5_isJumpTaken 89 = .ok (.iconst 1, 1) := by decide +kernel
theorem dX5_isJumpTaken_90 : decode cX5_isJumpTaken 90 = .ok (.goto 4, 3) := by decide +kernel
theorem dX5_isJumpTaken_93 : decode cX5_isJumpTaken 93 = .ok (.iconst 0, 1) := by decide +kernel
theorem dX5_isJumpTaken_94 : decode cX5_isJumpTaken 94 = .ok (.ireturn, 1) := by decide +kernel
theorem dX5_isJumpTaken_95 : decode cX5_isJumpTaken 95 = .ok (.aload_n 0, 1) := by decide +kernel
theorem dX5_isJumpTaken_96 : decode cX5_isJumpTaken 96 = .ok (.invokevirtual 141, 3) := by decide +kernel
theorem dX5_isJumpTaken_99 : decode cX5_isJumpTaken 99 = .ok (.lload_n 2, 1) := by decide +kernel
theorem dX5_isJumpTaken_100 : decode cX5_isJumpTaken 100 = .ok (.lcmp, 1) := by decide +kernel
theorem dX5_isJumpTaken_101 : decode cX5_isJumpTaken 101 = .ok (.ifCond .eq 7, 3) := by decide +kernel
theorem dX5_isJumpTaken_104 : decode cX5_isJumpTaken 104 = .ok (.iconst 1, 1) := by decide +kernel
theorem dX5_isJumpTaken_105 : decode cX5_isJumpTaken 105 = .ok (.goto 4, 3) := by decide +kernel
theorem dX5_isJumpTaken_108 : decode cX5_isJumpTaken 108 = .ok (.iconst 0, 1) := by decide +kernel
theorem dX5_isJumpTaken_109 : decode cX5_isJumpTaken 109 = .ok (.ireturn, 1) := by decide +kernel
theorem dX5_isJumpTaken_110 : decode cX5_isJumpTaken 110 = .ok (.iload_n 1, 1) := by decide +kernel
theorem dX5_isJumpTaken_111 : decode cX5_isJumpTaken 111 = .ok (.sipush 159, 3) := by decide +kernel
theorem dX5_isJumpTaken_114 : decode cX5_isJumpTaken 114 = .ok (.if_icmp .ge 13, 3) := by decide +kernel
theorem dX5_isJumpTaken_117 : decode cX5_isJumpTaken 117 = .ok (.iload_n 1, 1) := by decide +kernel
theorem dX5_isJumpTaken_118 : decode cX5_isJumpTaken 118 = .ok (.lload_n 2, 1) := by decide +kernel
theorem dX5_isJumpTaken_119 : decode cX5_isJumpTaken 119 = .ok (.l2i, 1) := by decide +kernel
theorem dX5_isJumpTaken_120 : decode cX5_isJumpTaken 120 = .ok (.iconst 0, 1) := by decide +kernel
theorem dX5_isJumpTaken_121 : decode cX5_isJumpTaken 121 = .ok (.invokestatic 218, 3) := by decide +kernel
theorem dX5_isJumpTaken_124 : decode cX5_isJumpTaken 124 = .ok (.goto 14, 3) := by decide +kernel
theorem dX5_isJumpTaken_127 : decode cX5_isJumpTaken 127 = .ok (.iload_n 1, 1) := by decide +kernel
theorem dX5_isJumpTaken_128 : decode cX5_isJumpTaken 128 = .ok (.aload_n 0, 1) := by decide +kernel
theorem dX5_isJumpTaken_129 : decode cX5_isJumpTaken 129 = .ok (.invokevirtual 141, 3) := by decide +kernel
theorem dX5_isJumpTaken_132 : decode cX5_isJumpTaken 132 = .ok (.l2i, 1) := by decide +kernel
theorem dX5_isJumpTaken_133 : decode cX5_isJumpTaken 133 = .ok (.lload_n 2, 1) := by decide +kernel
theorem dX5_isJumpTaken_134 : decode cX5_isJumpTaken 134 = .ok (.l2i, 1) := by decide +kernel
theorem dX5_isJumpTaken_135 : decode cX5_isJumpTaken 135 = .ok (.invokestatic 218, 3) := by decide +kernel
theorem dX5_isJumpTaken_138 : decode cX5_isJumpTaken 138 = .ok (.ireturn, 1) := by decide +kernel
theorem dX5_leave_0 : decode cX5_leave 0 = .ok (.iload_n 1, 1) := by decide +kernel
theorem dX5_leave_1 : decode cX5_leave 1 = .ok (.invokestatic 166, 3) := by decide +kernel
theorem dX5_leave_4 : decode cX5_leave 4 = .ok (.istore_n 2, 1) := by decide +kernel
theorem dX5_leave_5 : decode cX5_leave 5 = .ok (.aload_n 0, 1) := by decide +kernel
theorem dX5_leave_6 : decode cX5_leave 6 = .ok (.iload_n 2, 1) := by decide +kernel
theorem dX5_leave_7 : decode cX5_leave 7 = .ok (.invokevirtual 169, 3) := by decide +kernel
theorem dX5_leave_10 : decode cX5_leave 10 = .ok (.lstore_n 3, 1) := by decide +kernel
theorem dX5_leave_11 : decode cX5_leave 11 = .ok (.aload_n 0, 1) := by decide +kernel
theorem dX5_leave_12 : decode cX5_leave 12 = .ok (.getfield 106, 3) := by decide +kernel
theorem dX5_leave_15 : decode cX5_leave 15 = .ok (.ifCond .ne 14, 3) := by decide +kernel
theorem dX5_leave_18 : decode cX5_leave 18 = .ok (.aload_n 0, 1) := by decide +kernel
theorem dX5_leave_19 : decode cX5_leave 19 = .ok (.iconst 0, 1) := by decide +kernel
theorem dX5_leave_20 : decode cX5_leave 20 = .ok (.putfield 103, 3) := by decide +kernel
theorem dX5_leave_23 : decode cX5_leave 23 = .ok (.aload_n 0, 1) := by decide +kernel
theorem dX5_leave_24 : decode cX5_leave 24 = .ok (.lload_n 3, 1) := by decide +kernel
theorem dX5_leave_25 : decode cX5_leave 25 = .ok (.putfield 96, 3) := by decide +kernel
theorem dX5_leave_28 : decode cX5_leave 28 = .ok (.return_, 1) := by decide +kernel
theorem dX5_leave_29 : decode cX5_leave 29 = .ok (.aload_n 0, 1) := by decide +kernel
theorem dX5_leave_30 : decode cX5_leave 30 = .ok (.invokevirtual 276, 3) := by decide +kernel
theorem dX5_leave_33 : decode cX5_leave 33 = .ok (.aload_n 0, 1) := by decide +kernel
theorem dX5_leave_34 : decode cX5_leave 34 = .ok (.iload_n 2, 1) := by decide +kernel
theorem dX5_leave_35 : decode cX5_leave 35 = .ok (.lload_n 3, 1) := by decide +kernel
theorem dX5_leave_36 : decode cX5_leave 36 = .ok (.invokevirtual 176, 3) := by decide +kernel
theorem dX5_leave_39 : decode cX5_leave 39 = .ok (.aload_n 0, 1) := by decide +kernel
theorem dX5_leave_40 : decode cX5_leave 40 = .ok (.dup, 1) := by decide +kernel
theorem dX5_leave_41 : decode cX5_leave 41 = .ok (.getfield 123, 3) := by decide +kernel
theorem dX5_leave_44 : decode cX5_leave 44 = .ok (.iconst 1, 1) := by decide +kernel
theorem dX5_leave_45 : decode cX5_leave 45 = .ok (.iadd, 1) := by decide +kernel
theorem dX5_leave_46 : decode cX5_leave 46 = .ok (.putfield 123, 3) := by decide +kernel
theorem dX5_leave_49 : decode cX5_leave 49 = .ok (.return_, 1) := by decide +kernel
theorem dX5_lengthOf_0 : decode cX5_lengthOf 0 = .ok (.aload_n 0, 1) := by decide +kernel
theorem dX5_lengthOf_1 : decode cX5_lengthOf 1 = .ok (.iload_n 1, 1) := by decide +kernel
theorem dX5_lengthOf_2 : decode cX5_lengthOf 2 = .ok (.i2l, 1) := by decide +kernel
theorem dX5_lengthOf_3 : decode cX5_lengthOf 3 = .ok (.invokevirtual 62, 3) := by decide +kernel
theorem dX5_lengthOf_6 : decode cX5_lengthOf 6 = .ok (.ifCond .eq 19, 3) := by decide +kernel
theorem dX5_lengthOf_9 : decode cX5_lengthOf 9 = .ok (.aload_n 0, 1) := by decide +kernel
theorem dX5_lengthOf_10 : decode cX5_lengthOf 10 = .ok (.iload_n 1, 1) := by decide +kernel
theorem dX5_lengthOf_11 : decode cX5_lengthOf 11 = .ok (.iconst 1, 1) := by decide +kernel
theorem dX5_lengthOf_12 : decode cX5_lengthOf 12 = .ok (.iadd, 1) := by decide +kernel
theorem dX5_lengthOf_13 : decode cX5_lengthOf 13 = .ok (.invokevirtual 66, 3) := by decide +kernel
theorem dX5_lengthOf_16 : decode cX5_lengthOf 16 = .ok (.aload_n 0, 1) := by decide +kernel
theorem dX5_lengthOf_17 : decode cX5_lengthOf 17 = .ok (.iload_n 1, 1) := by decide +kernel
theorem dX5_lengthOf_18 : decode cX5_lengthOf 18 = .ok (.invokevirtual 66, 3) := by decide +kernel
theorem dX5_lengthOf_21 : decode cX5_lengthOf 21 = .ok (.isub, 1) := by decide +kernel
theorem dX5_lengthOf_22 : decode cX5_lengthOf 22 = .ok (.goto 4, 3) := by decide +kernel
theorem dX5_lengthOf_25 : decode cX5_lengthOf 25 = .ok (.iconst (-1), 1) := by decide +kernel
theorem dX5_lengthOf_26 : decode cX5_lengthOf 26 = .ok (.ireturn, 1) := by decide +kernel
theorem dX5_localAt_0 : decode cX5_localAt 0 = .ok (.aload_n 0, 1) := by decide +kernel
theorem dX5_localAt_1 : decode cX5_localAt 1 = .ok (.getfield 106, 3) := by decide +kernel
theorem dX5_localAt_4 : decode cX5_localAt 4 = .ok (.bipush 24, 2) := by decide +kernel
theorem dX5_localAt_6 : decode cX5_localAt 6 = .ok (.imul, 1) := by decide +kernel
theorem dX5_localAt_7 : decode cX5_localAt 7 = .ok (.iload_n 1, 1) := by decide +kernel
theorem dX5_localAt_8 : decode cX5_localAt 8 = .ok (.iadd, 1) := by decide +kernel
theorem dX5_localAt_9 : decode cX5_localAt 9 = .ok (.istore_n 2, 1) := by decide +kernel
theorem dX5_localAt_10 : decode cX5_localAt 10 = .ok (.iload_n 1, 1) := by decide +kernel
theorem dX5_localAt_11 : decode cX5_localAt 11 = .ok (.ifCond .lt 22, 3) := by decide +kernel
theorem dX5_localAt_14 : decode cX5_localAt 14 = .ok (.iload_n 1, 1) := by decide +kernel
theorem dX5_localAt_15 : decode cX5_localAt 15 = .ok (.bipush 24, 2) := by decide +kernel
theorem dX5_localAt_17 : decode cX5_localAt 17 = .ok (.if_icmp .ge 16, 3) := by decide +kernel
theorem dX5_localAt_20 : decode cX5_localAt 20 = .ok (.iload_n 2, 1) := by decide +kernel
theorem dX5_localAt_21 : decode cX5_localAt 21 = .ok (.ifCond .lt 12, 3) := by decide +kernel
theorem dX5_localAt_24 : decode cX5_localAt 24 = .ok (.iload_n 2, 1) := by decide +kernel
theorem dX5_localAt_25 : decode cX5_localAt 25 = .ok (.aload_n 0, 1) := by decide +kernel
theorem dX5_localAt_26 : decode cX5_localAt 26 = .ok (.getfield 25, 3) := by decide +kernel
theorem dX5_localAt_29 : decode cX5_localAt 29 = .ok (.arraylength, 1) := by decide +kernel
theorem dX5_localAt_30 : decode cX5_localAt 30 = .ok (.if_icmp .lt 15, 3) := by decide +kernel
theorem dX5_localAt_33 : decode cX5_localAt 33 = .ok (.aload_n 0, 1) := by decide +kernel
theorem dX5_localAt_34 : decode cX5_localAt 34 = .ok (.dup, 1) := by decide +kernel
theorem dX5_localAt_35 : decode cX5_localAt 35 = .ok (.getfield 76, 3) := by decide +kernel
theorem dX5_localAt_38 : decode cX5_localAt 38 = .ok (.iconst 1, 1) := by decide +kernel
theorem dX5_localAt_39 : decode cX5_localAt 39 = .ok (.iadd, 1) := by decide +kernel
theorem dX5_localAt_40 : decode cX5_localAt 40 = .ok (.putfield 76, 3) := by decide +kernel
theorem dX5_localAt_43 : decode cX5_localAt 43 = .ok (.lconst 0, 1) := by decide +kernel
theorem dX5_localAt_44 : decode cX5_localAt 44 = .ok (.lreturn, 1) := by decide +kernel
theorem dX5_localAt_45 : decode cX5_localAt 45 = .ok (.aload_n 0, 1) := by decide +kernel
theorem dX5_localAt_46 : decode cX5_localAt 46 = .ok (.getfield 25, 3) := by decide +kernel
theorem dX5_localAt_49 : decode cX5_localAt 49 = .ok (.iload_n 2, 1) := by decide +kernel
theorem dX5_localAt_50 : decode cX5_localAt 50 = .ok (.laload, 1) := by decide +kernel
theorem dX5_localAt_51 : decode cX5_localAt 51 = .ok (.lreturn, 1) := by decide +kernel
theorem dX5_makeArray_0 : decode cX5_makeArray 0 = .ok (.iload_n 1, 1) := by decide +kernel
theorem dX5_makeArray_1 : decode cX5_makeArray 1 = .ok (.ifCond .ge 9, 3) := by decide +kernel
theorem dX5_makeArray_4 : decode cX5_makeArray 4 = .ok (.aload_n 0, 1) := by decide +kernel
theorem dX5_makeArray_5 : decode cX5_makeArray 5 = .ok (.iconst 3, 1) := by decide +kernel
theorem dX5_makeArray_6 : decode cX5_makeArray 6 = .ok (.invokevirtual 211, 3) := by decide +kernel
theorem dX5_makeArray_9 : decode cX5_makeArray 9 = .ok (.return_, 1) := by decide +kernel
theorem dX5_makeArray_10 : decode cX5_makeArray 10 = .ok (.aload_n 0, 1) := by decide +kernel
theorem dX5_makeArray_11 : decode cX5_makeArray 11 = .ok (.getfield 51, 3) := by decide +kernel
theorem dX5_makeArray_14 : decode cX5_makeArray 14 = .ok (.sipush 400, 3) := by decide +kernel
theorem dX5_makeArray_17 : decode cX5_makeArray 17 = .ok (.if_icmp .ge 15, 3) := by decide +kernel
theorem dX5_makeArray_20 : decode cX5_makeArray 20 = .ok (.iload_n 1, 1) := by decide +kernel
theorem dX5_makeArray_21 : decode cX5_makeArray 21 = .ok (.sipush 20000, 3) := by decide +kernel
theorem dX5_makeArray_24 : decode cX5_makeArray 24 = .ok (.aload_n 0, 1) := by decide +kernel
theorem dX5_makeArray_25 : decode cX5_makeArray 25 = .ok (.getfield 48, 3) := by decide +kernel
theorem dX5_makeArray_28 : decode cX5_makeArray 28 = .ok (.isub, 1) := by decide +kernel
theorem dX5_makeArray_29 : decode cX5_makeArray 29 = .ok (.if_icmp .le 9, 3) := by decide +kernel
theorem dX5_makeArray_32 : decode cX5_makeArray 32 = .ok (.aload_n 0, 1) := by decide +kernel
theorem dX5_makeArray_33 : decode cX5_makeArray 33 = .ok (.iconst 4, 1) := by decide +kernel
theorem dX5_makeArray_34 : decode cX5_makeArray 34 = .ok (.putfield 103, 3) := by decide +kernel
theorem dX5_makeArray_37 : decode cX5_makeArray 37 = .ok (.return_, 1) := by decide +kernel
theorem dX5_makeArray_38 : decode cX5_makeArray 38 = .ok (.aload_n 0, 1) := by decide +kernel
theorem dX5_makeArray_39 : decode cX5_makeArray 39 = .ok (.dup, 1) := by decide +kernel
theorem dX5_makeArray_40 : decode cX5_makeArray 40 = .ok (.getfield 51, 3) := by decide +kernel
theorem dX5_makeArray_43 : decode cX5_makeArray 43 = .ok (.iconst 1, 1) := by decide +kernel
theorem dX5_makeArray_44 : decode cX5_makeArray 44 = .ok (.iadd, 1) := by decide +kernel
theorem dX5_makeArray_45 : decode cX5_makeArray 45 = .ok (.putfield 51, 3) := by decide +kernel
theorem dX5_makeArray_48 : decode cX5_makeArray 48 = .ok (.aload_n 0, 1) := by decide +kernel
theorem dX5_makeArray_49 : decode cX5_makeArray 49 = .ok (.getfield 51, 3) := by decide +kernel
theorem dX5_makeArray_52 : decode cX5_makeArray 52 = .ok (.aload_n 0, 1) := by decide +kernel
theorem dX5_makeArray_53 : decode cX5_makeArray 53 = .ok (.getfield 19, 3) := by decide +kernel
theorem dX5_makeArray_56 : decode cX5_makeArray 56 = .ok (.arraylength, 1) := by decide +kernel
theorem dX5_makeArray_57 : decode cX5_makeArray 57 = .ok (.if_icmp .lt 21, 3) := by decide +kernel
theorem dX5_makeArray_60 : decode cX5_makeArray 60 = .ok (.aload_n 0, 1) := by decide +kernel
theorem dX5_makeArray_61 : decode cX5_makeArray 61 = .ok (.aload_n 0, 1) := by decide +kernel
theorem dX5_makeArray_62 : decode cX5_makeArray 62 = .ok (.getfield 19, 3) := by decide +kernel
theorem dX5_makeArray_65 : decode cX5_makeArray 65 = .ok (.iconst 2, 1) := by decide +kernel
theorem dX5_makeArray_66 : decode cX5_makeArray 66 = .ok (.aload_n 0, 1) := by decide +kernel
theorem dX5_makeArray_67 : decode cX5_makeArray 67 = .ok (.getfield 19, 3) := by decide +kernel
theorem dX5_makeArray_70 : decode cX5_makeArray 70 = .ok (.arraylength, 1) := by decide +kernel
theorem dX5_makeArray_71 : decode cX5_makeArray 71 = .ok (.imul, 1) := by decide +kernel

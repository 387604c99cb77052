theorem dX3_init_58 : decode cX3_init 58 = .ok (.putfield 34, 3) := by decide +kernel
theorem dX3_init_61 : decode cX3_init 61 = .ok (.aload_n 0, 1) := by decide +kernel
theorem dX3_init_62 : decode cX3_init 62 = .ok (.iconst 0, 1) := by decide +kernel
theorem dX3_init_63 : decode cX3_init 63 = .ok (.newarray .int, 2) := by decide +kernel
theorem dX3_init_65 : decode cX3_init 65 = .ok (.putfield 38, 3) := by decide +kernel
theorem dX3_init_68 : decode cX3_init 68 = .ok (.aload_n 0, 1) := by decide +kernel
theorem dX3_init_69 : decode cX3_init 69 = .ok (.iconst 0, 1) := by decide +kernel
theorem dX3_init_70 : decode cX3_init 70 = .ok (.newarray .int, 2) := by decide +kernel
theorem dX3_init_72 : decode cX3_init 72 = .ok (.putfield 41, 3) := by decide +kernel
theorem dX3_init_75 : decode cX3_init 75 = .ok (.aload_n 0, 1) := by decide +kernel
theorem dX3_init_76 : decode cX3_init 76 = .ok (.iconst 0, 1) := by decide +kernel
theorem dX3_init_77 : decode cX3_init 77 = .ok (.newarray .int, 2) := by decide +kernel
theorem dX3_init_79 : decode cX3_init 79 = .ok (.putfield 44, 3) := by decide +kernel
theorem dX3_init_82 : decode cX3_init 82 = .ok (.aload_n 0, 1) := by decide +kernel
theorem dX3_init_83 : decode cX3_init 83 = .ok (.iconst 0, 1) := by decide +kernel
theorem dX3_init_84 : decode cX3_init 84 = .ok (.newarray .int, 2) := by decide +kernel
theorem dX3_init_86 : decode cX3_init 86 = .ok (.putfield 47, 3) := by decide +kernel
theorem dX3_init_89 : decode cX3_init 89 = .ok (.aload_n 0, 1) := by decide +kernel
theorem dX3_init_90 : decode cX3_init 90 = .ok (.iconst 0, 1) := by decide +kernel
theorem dX3_init_91 : decode cX3_init 91 = .ok (.newarray .int, 2) := by decide +kernel
theorem dX3_init_93 : decode cX3_init 93 = .ok (.putfield 50, 3) := by decide +kernel
theorem dX3_init_96 : decode cX3_init 96 = .ok (.return_, 1) := by decide +kernel
theorem dX4_init_0 : decode cX4_init 0 = .ok (.aload_n 0, 1) := by decide +kernel
theorem dX4_init_1 : decode cX4_init 1 = .ok (.invokespecial 3, 3) := by decide +kernel
theorem dX4_init_4 : decode cX4_init 4 = .ok (.aload_n 0, 1) := by decide +kernel
theorem dX4_init_5 : decode cX4_init 5 = .ok (.iconst 0, 1) := by decide +kernel
theorem dX4_init_6 : decode cX4_init 6 = .ok (.newarray .int, 2) := by decide +kernel
theorem dX4_init_8 : decode cX4_init 8 = .ok (.putfield 9, 3) := by decide +kernel
theorem dX4_init_11 : decode cX4_init 11 = .ok (.aload_n 0, 1) := by decide +kernel
theorem dX4_init_12 : decode cX4_init 12 = .ok (.iconst 0, 1) := by decide +kernel
theorem dX4_init_13 : decode cX4_init 13 = .ok (.newarray .int, 2) := by decide +kernel
theorem dX4_init_15 : decode cX4_init 15 = .ok (.putfield 15, 3) := by decide +kernel
theorem dX4_init_18 : decode cX4_init 18 = .ok (.aload_n 0, 1) := by decide +kernel
theorem dX4_init_19 : decode cX4_init 19 = .ok (.iconst 0, 1) := by decide +kernel
theorem dX4_init_20 : decode cX4_init 20 = .ok (.newarray .boolean, 2) := by decide +kernel
theorem dX4_init_22 : decode cX4_init 22 = .ok (.putfield 18, 3) := by decide +kernel
theorem dX4_init_25 : decode cX4_init 25 = .ok (.return_, 1) := by decide +kernel
theorem dX5_addArgument_0 : decode cX5_addArgument 0 = .ok (.aload_n 0, 1) := by decide +kernel
theorem dX5_addArgument_1 : decode cX5_addArgument 1 = .ok (.getfield 54, 3) := by decide +kernel
theorem dX5_addArgument_4 : decode cX5_addArgument 4 = .ok (.bipush 8, 2) := by decide +kernel
theorem dX5_addArgument_6 : decode cX5_addArgument 6 = .ok (.if_icmp .lt 5, 3) := by decide +kernel
theorem dX5_addArgument_11 : decode cX5_addArgument 11 = .ok (.aload_n 0, 1) := by decide +kernel
theorem dX5_addArgument_12 : decode cX5_addArgument 12 = .ok (.getfield 22, 3) := by decide +kernel
theorem dX5_addArgument_15 : decode cX5_addArgument 15 = .ok (.aload_n 0, 1) := by decide +kernel
theorem dX5_addArgument_16 : decode cX5_addArgument 16 = .ok (.getfield 54, 3) := by decide +kernel
theorem dX5_addArgument_19 : decode cX5_addArgument 19 = .ok (.lload_n 1, 1) := by decide +kernel
theorem dX5_addArgument_20 : decode cX5_addArgument 20 = .ok (.lastore, 1) := by decide +kernel
theorem dX5_addArgument_21 : decode cX5_addArgument 21 = .ok (.aload_n 0, 1) := by decide +kernel
theorem dX5_addArgument_22 : decode cX5_addArgument 22 = .ok (.dup, 1) := by decide +kernel
theorem dX5_addArgument_23 : decode cX5_addArgument 23 = .ok (.getfield 54, 3) := by decide +kernel
theorem dX5_addArgument_26 : decode cX5_addArgument 26 = .ok (.iconst 1, 1) := by decide +kernel
theorem dX5_addArgument_27 : decode cX5_addArgument 27 = .ok (.iadd, 1) := by decide +kernel
theorem dX5_addArgument_28 : decode cX5_addArgument 28 = .ok (.putfield 54, 3) := by decide +kernel
theorem dX5_addArgument_31 : decode cX5_addArgument 31 = .ok (.aload_n 0, 1) := by decide +kernel
theorem dX5_addArgument_32 : decode cX5_addArgument 32 = .ok (.getfield 54, 3) := by decide +kernel
theorem dX5_addArgument_35 : decode cX5_addArgument 35 = .ok (.ireturn, 1) := by decide +kernel
theorem dX5_elementAt_0 : decode cX5_elementAt 0 = .ok (.iload_n 2, 1) := by decide +kernel
theorem dX5_elementAt_1 : decode cX5_elementAt 1 = .ok (.ifCond .lt 12, 3) := by decide +kernel
theorem dX5_elementAt_4 : decode cX5_elementAt 4 = .ok (.iload_n 2, 1) := by decide +kernel
theorem dX5_elementAt_5 : decode cX5_elementAt 5 = .ok (.aload_n 0, 1) := by decide +kernel
theorem dX5_elementAt_6 : decode cX5_elementAt 6 = .ok (.iload_n 1, 1) := by decide +kernel
theorem dX5_elementAt_7 : decode cX5_elementAt 7 = .ok (.invokevirtual 70, 3) := by decide +kernel
theorem dX5_elementAt_10 : decode cX5_elementAt 10 = .ok (.if_icmp .lt 7, 3) := by decide +kernel
theorem dX5_elementAt_13 : decode cX5_elementAt 13 = .ok (.iconst 0, 1) := by decide +kernel
theorem dX5_elementAt_14 : decode cX5_elementAt 14 = .ok (.goto 14, 3) := by decide +kernel
theorem dX5_elementAt_28 : decode cX5_elementAt 28 = .ok (.ireturn, 1) := by decide +kernel
theorem dX5_fieldAt_0 : decode cX5_fieldAt 0 = .ok (.aload_n 0, 1) := by decide +kernel
theorem dX5_fieldAt_1 : decode cX5_fieldAt 1 = .ok (.getfield 38, 3) := by decide +kernel
theorem dX5_fieldAt_4 : decode cX5_fieldAt 4 = .ok (.ifnull 24, 3) := by decide +kernel
theorem dX5_fieldAt_28 : decode cX5_fieldAt 28 = .ok (.lconst 0, 1) := by decide +kernel
theorem dX5_fieldAt_29 : decode cX5_fieldAt 29 = .ok (.goto 9, 3) := by decide +kernel
theorem dX5_fieldAt_38 : decode cX5_fieldAt 38 = .ok (.lreturn, 1) := by decide +kernel
theorem dX5_init_0 : decode cX5_init 0 = .ok (.aload_n 0, 1) := by decide +kernel
theorem dX5_init_1 : decode cX5_init 1 = .ok (.invokespecial 3, 3) := by decide +kernel
theorem dX5_init_4 : decode cX5_init 4 = .ok (.aload_n 0, 1) := by decide +kernel
theorem dX5_init_5 : decode cX5_init 5 = .ok (.bipush 24, 2) := by decide +kernel
theorem dX5_init_7 : decode cX5_init 7 = .ok (.newarray .long, 2) := by decide +kernel
theorem dX5_init_9 : decode cX5_init 9 = .ok (.putfield 9, 3) := by decide +kernel
theorem dX5_init_12 : decode cX5_init 12 = .ok (.aload_n 0, 1) := by decide +kernel
theorem dX5_init_13 : decode cX5_init 13 = .ok (.iconst 0, 1) := by decide +kernel
theorem dX5_init_14 : decode cX5_init 14 = .ok (.newarray .int, 2) := by decide +kernel
theorem dX5_init_16 : decode cX5_init 16 = .ok (.putfield 15, 3) := by decide +kernel
theorem dX5_init_19 : decode cX5_init 19 = .ok (.aload_n 0, 1) := by decide +kernel
theorem dX5_init_20 : decode cX5_init 20 = .ok (.bipush 8, 2) := by decide +kernel
theorem dX5_init_22 : decode cX5_init 22 = .ok (.newarray .int, 2) := by decide +kernel
theorem dX5_init_24 : decode cX5_init 24 = .ok (.putfield 19, 3) := by decide +kernel
theorem dX5_init_27 : decode cX5_init 27 = .ok (.aload_n 0, 1) := by decide +kernel
theorem dX5_init_28 : decode cX5_init 28 = .ok (.bipush 8, 2) := by decide +kernel
theorem dX5_init_30 : decode cX5_init 30 = .ok (.newarray .long, 2) := by decide +kernel
theorem dX5_init_32 : decode cX5_init 32 = .ok (.putfield 22, 3) := by decide +kernel
theorem dX5_init_35 : decode cX5_init 35 = .ok (.aload_n 0, 1) := by decide +kernel
theorem dX5_init_36 : decode cX5_init 36 = .ok (.iconst 0, 1) := by decide +kernel
theorem dX5_init_37 : decode cX5_init 37 = .ok (.newarray .long, 2) := by decide +kernel
theorem dX5_init_39 : decode cX5_init 39 = .ok (.putfield 25, 3) := by decide +kernel
theorem dX5_init_42 : decode cX5_init 42 = .ok (.aload_n 0, 1) := by decide +kernel
theorem dX5_init_43 : decode cX5_init 43 = .ok (.iconst 0, 1) := by decide +kernel
theorem dX5_init_44 : decode cX5_init 44 = .ok (.newarray .long, 2) := by decide +kernel
theorem dX5_init_46 : decode cX5_init 46 = .ok (.putfield 28, 3) := by decide +kernel
theorem dX5_init_49 : decode cX5_init 49 = .ok (.aload_n 0, 1) := by decide +kernel
theorem dX5_init_50 : decode cX5_init 50 = .ok (.sipush 180, 3) := by decide +kernel
theorem dX5_init_53 : decode cX5_init 53 = .ok (.newarray .int, 2) := by decide +kernel
theorem dX5_init_55 : decode cX5_init 55 = .ok (.putfield 31, 3) := by decide +kernel
theorem dX5_init_58 : decode cX5_init 58 = .ok (.aload_n 0, 1) := by decide +kernel
theorem dX5_init_59 : decode cX5_init 59 = .ok (.iconst (-1), 1) := by decide +kernel
theorem dX5_init_60 : decode cX5_init 60 = .ok (.putfield 34, 3) := by decide +kernel
theorem dX5_init_63 : decode cX5_init 63 = .ok (.return_, 1) := by decide +kernel
theorem dX5_isArray_0 : decode cX5_isArray 0 = .ok (.lload_n 1, 1) := by decide +kernel
theorem dX5_isArray_1 : decode cX5_isArray 1 = .ok (.lconst 1, 1) := by decide +kernel
theorem dX5_isArray_2 : decode cX5_isArray 2 = .ok (.lcmp, 1) := by decide +kernel
theorem dX5_isArray_3 : decode cX5_isArray 3 = .ok (.ifCond .lt 17, 3) := by decide +kernel
theorem dX5_isArray_6 : decode cX5_isArray 6 = .ok (.lload_n 1, 1) := by decide +kernel
theorem dX5_isArray_7 : decode cX5_isArray 7 = .ok (.aload_n 0, 1) := by decide +kernel
theorem dX5_isArray_8 : decode cX5_isArray 8 = .ok (.getfield 51, 3) := by decide +kernel
theorem dX5_isArray_11 : decode cX5_isArray 11 = .ok (.i2l, 1) := by decide +kernel
theorem dX5_isArray_12 : decode cX5_isArray 12 = .ok (.lcmp, 1) := by decide +kernel
theorem dX5_isArray_13 : decode cX5_isArray 13 = .ok (.ifCond .gt 7, 3) := by decide +kernel
theorem dX5_isArray_20 : decode cX5_isArray 20 = .ok (.iconst 0, 1) := by decide +kernel
theorem dX5_isArray_21 : decode cX5_isArray 21 = .ok (.ireturn, 1) := by decide +kernel
theorem dX5_lengthOf_0 : decode cX5_lengthOf 0 = .ok (.aload_n 0, 1) := by decide +kernel
theorem dX5_lengthOf_1 : decode cX5_lengthOf 1 = .ok (.iload_n 1, 1) := by decide +kernel
theorem dX5_lengthOf_2 : decode cX5_lengthOf 2 = .ok (.i2l, 1) := by decide +kernel
theorem dX5_lengthOf_3 : decode cX5_lengthOf 3 = .ok (.invokevirtual 62, 3) := by decide +kernel
theorem dX5_lengthOf_6 : decode cX5_lengthOf 6 = .ok (.ifCond .eq 19, 3) := by decide +kernel
theorem dX5_lengthOf_25 : decode cX5_lengthOf 25 = .ok (.iconst (-1), 1) := by decide +kernel
theorem dX5_lengthOf_26 : decode cX5_lengthOf 26 = .ok (.ireturn, 1) := by decide +kernel
theorem dX5_refusal_0 : decode cX5_refusal 0 = .ok (.aload_n 0, 1) := by decide +kernel
theorem dX5_refusal_1 : decode cX5_refusal 1 = .ok (.getfield 38, 3) := by decide +kernel
theorem dX5_refusal_4 : decode cX5_refusal 4 = .ok (.ifnull 14, 3) := by decide +kernel
theorem dX5_refusal_18 : decode cX5_refusal 18 = .ok (.iconst (-1), 1) := by decide +kernel
theorem dX5_refusal_19 : decode cX5_refusal 19 = .ok (.ireturn, 1) := by decide +kernel
theorem dX7_breaks_0 : decode cX7_breaks 0 = .ok (.aload_n 0, 1) := by decide +kernel
theorem dX7_breaks_1 : decode cX7_breaks 1 = .ok (.iload_n 1, 1) := by decide +kernel
theorem dX7_breaks_2 : decode cX7_breaks 2 = .ok (.putfield 41, 3) := by decide +kernel
theorem dX7_breaks_5 : decode cX7_breaks 5 = .ok (.aload_n 0, 1) := by decide +kernel
theorem dX7_breaks_6 : decode cX7_breaks 6 = .ok (.iload_n 2, 1) := by decide +kernel
theorem dX7_breaks_7 : decode cX7_breaks 7 = .ok (.putfield 15, 3) := by decide +kernel
theorem dX7_breaks_10 : decode cX7_breaks 10 = .ok (.iconst 0, 1) := by decide +kernel
theorem dX7_breaks_11 : decode cX7_breaks 11 = .ok (.ireturn, 1) := by decide +kernel
theorem dX7_init_0 : decode cX7_init 0 = .ok (.aload_n 0, 1) := by decide +kernel
theorem dX7_init_1 : decode cX7_init 1 = .ok (.invokespecial 3, 3) := by decide +kernel
theorem dX7_init_4 : decode cX7_init 4 = .ok (.aload_n 0, 1) := by decide +kernel
theorem dX7_init_5 : decode cX7_init 5 = .ok (.iconst 0, 1) := by decide +kernel
theorem dX7_init_6 : decode cX7_init 6 = .ok (.newarray .byte, 2) := by decide +kernel
theorem dX7_init_8 : decode cX7_init 8 = .ok (.putfield 9, 3) := by decide +kernel
theorem dX7_init_11 : decode cX7_init 11 = .ok (.aload_n 0, 1) := by decide +kernel
theorem dX7_init_12 : decode cX7_init 12 = .ok (.iconst (-1), 1) := by decide +kernel
theorem dX7_init_13 : decode cX7_init 13 = .ok (.putfield 15, 3) := by decide +kernel
theorem dX7_init_16 : decode cX7_init 16 = .ok (.aload_n 0, 1) := by decide +kernel
theorem dX7_init_17 : decode cX7_init 17 = .ok (.sipush 500, 3) := by decide +kernel
theorem dX7_init_20 : decode cX7_init 20 = .ok (.newarray .int, 2) := by decide +kernel

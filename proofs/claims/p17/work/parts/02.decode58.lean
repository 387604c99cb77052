theorem dX5_push__10 : decode cX5_push_ 10 = .ok (.iconst 2, 1) := by decide +kernel
theorem dX5_push__11 : decode cX5_push_ 11 = .ok (.if_icmp .ne 8, 3) := by decide +kernel
theorem dX5_push__14 : decode cX5_push_ 14 = .ok (.aload_n 0, 1) := by decide +kernel
theorem dX5_push__15 : decode cX5_push_ 15 = .ok (.lconst 0, 1) := by decide +kernel
theorem dX5_push__16 : decode cX5_push_ 16 = .ok (.invokevirtual 137, 3) := by decide +kernel
theorem dX5_push__19 : decode cX5_push_ 19 = .ok (.return_, 1) := by decide +kernel
theorem dX5_raise_0 : decode cX5_raise 0 = .ok (.aload_n 0, 1) := by decide +kernel
theorem dX5_raise_1 : decode cX5_raise 1 = .ok (.getfield 106, 3) := by decide +kernel
theorem dX5_raise_4 : decode cX5_raise 4 = .ok (.istore_n 2, 1) := by decide +kernel
theorem dX5_raise_5 : decode cX5_raise 5 = .ok (.iload_n 2, 1) := by decide +kernel
theorem dX5_raise_6 : decode cX5_raise 6 = .ok (.ifCond .lt 46, 3) := by decide +kernel
theorem dX5_raise_9 : decode cX5_raise 9 = .ok (.aload_n 0, 1) := by decide +kernel
theorem dX5_raise_10 : decode cX5_raise 10 = .ok (.iload_n 1, 1) := by decide +kernel
theorem dX5_raise_11 : decode cX5_raise 11 = .ok (.invokevirtual 291, 3) := by decide +kernel
theorem dX5_raise_14 : decode cX5_raise 14 = .ok (.istore_n 3, 1) := by decide +kernel
theorem dX5_raise_15 : decode cX5_raise 15 = .ok (.iload_n 3, 1) := by decide +kernel
theorem dX5_raise_16 : decode cX5_raise 16 = .ok (.ifCond .lt 22, 3) := by decide +kernel
theorem dX5_raise_19 : decode cX5_raise 19 = .ok (.aload_n 0, 1) := by decide +kernel
theorem dX5_raise_20 : decode cX5_raise 20 = .ok (.iload_n 3, 1) := by decide +kernel
theorem dX5_raise_21 : decode cX5_raise 21 = .ok (.putfield 123, 3) := by decide +kernel
theorem dX5_raise_24 : decode cX5_raise 24 = .ok (.aload_n 0, 1) := by decide +kernel
theorem dX5_raise_25 : decode cX5_raise 25 = .ok (.iconst 0, 1) := by decide +kernel
theorem dX5_raise_26 : decode cX5_raise 26 = .ok (.putfield 126, 3) := by decide +kernel
theorem dX5_raise_29 : decode cX5_raise 29 = .ok (.aload_n 0, 1) := by decide +kernel
theorem dX5_raise_30 : decode cX5_raise 30 = .ok (.iconst (-1), 1) := by decide +kernel
theorem dX5_raise_31 : decode cX5_raise 31 = .ok (.iload_n 1, 1) := by decide +kernel
theorem dX5_raise_32 : decode cX5_raise 32 = .ok (.isub, 1) := by decide +kernel
theorem dX5_raise_33 : decode cX5_raise 33 = .ok (.i2l, 1) := by decide +kernel
theorem dX5_raise_34 : decode cX5_raise 34 = .ok (.invokevirtual 137, 3) := by decide +kernel
theorem dX5_raise_37 : decode cX5_raise 37 = .ok (.return_, 1) := by decide +kernel
theorem dX5_raise_38 : decode cX5_raise 38 = .ok (.iload_n 2, 1) := by decide +kernel
theorem dX5_raise_39 : decode cX5_raise 39 = .ok (.ifCond .le 7, 3) := by decide +kernel
theorem dX5_raise_42 : decode cX5_raise 42 = .ok (.aload_n 0, 1) := by decide +kernel
theorem dX5_raise_43 : decode cX5_raise 43 = .ok (.invokevirtual 276, 3) := by decide +kernel
theorem dX5_raise_46 : decode cX5_raise 46 = .ok (.iinc 2 (-1), 3) := by decide +kernel
theorem dX5_raise_49 : decode cX5_raise 49 = .ok (.goto (-44), 3) := by decide +kernel
theorem dX5_raise_52 : decode cX5_raise 52 = .ok (.aload_n 0, 1) := by decide +kernel
theorem dX5_raise_53 : decode cX5_raise 53 = .ok (.iconst 1, 1) := by decide +kernel
theorem dX5_raise_54 : decode cX5_raise 54 = .ok (.putfield 103, 3) := by decide +kernel
theorem dX5_raise_57 : decode cX5_raise 57 = .ok (.aload_n 0, 1) := by decide +kernel
theorem dX5_raise_58 : decode cX5_raise 58 = .ok (.iload_n 1, 1) := by decide +kernel
theorem dX5_raise_59 : decode cX5_raise 59 = .ok (.putfield 34, 3) := by decide +kernel
theorem dX5_raise_62 : decode cX5_raise 62 = .ok (.return_, 1) := by decide +kernel
theorem dX5_refusal_0 : decode cX5_refusal 0 = .ok (.aload_n 0, 1) := by decide +kernel
theorem dX5_refusal_1 : decode cX5_refusal 1 = .ok (.getfield 38, 3) := by decide +kernel
theorem dX5_refusal_4 : decode cX5_refusal 4 = .ok (.ifnull 14, 3) := by decide +kernel
theorem dX5_refusal_7 : decode cX5_refusal 7 = .ok (.aload_n 0, 1) := by decide +kernel
theorem dX5_refusal_8 : decode cX5_refusal 8 = .ok (.getfield 38, 3) := by decide +kernel
theorem dX5_refusal_11 : decode cX5_refusal 11 = .ok (.iload_n 1, 1) := by decide +kernel
theorem dX5_refusal_12 : decode cX5_refusal 12 = .ok (.invokevirtual 79, 3) := by decide +kernel
theorem dX5_refusal_15 : decode cX5_refusal 15 = .ok (.ifnonnull 5, 3) := by decide +kernel
theorem dX5_refusal_18 : decode cX5_refusal 18 = .ok (.iconst (-1), 1) := by decide +kernel
theorem dX5_refusal_19 : decode cX5_refusal 19 = .ok (.ireturn, 1) := by decide +kernel
theorem dX5_refusal_20 : decode cX5_refusal 20 = .ok (.aload_n 0, 1) := by decide +kernel
theorem dX5_refusal_21 : decode cX5_refusal 21 = .ok (.getfield 38, 3) := by decide +kernel
theorem dX5_refusal_24 : decode cX5_refusal 24 = .ok (.iload_n 1, 1) := by decide +kernel
theorem dX5_refusal_25 : decode cX5_refusal 25 = .ok (.invokevirtual 83, 3) := by decide +kernel
theorem dX5_refusal_28 : decode cX5_refusal 28 = .ok (.istore_n 3, 1) := by decide +kernel
theorem dX5_refusal_29 : decode cX5_refusal 29 = .ok (.iload_n 3, 1) := by decide +kernel
theorem dX5_refusal_30 : decode cX5_refusal 30 = .ok (.invokestatic 86, 3) := by decide +kernel
theorem dX5_refusal_33 : decode cX5_refusal 33 = .ok (.aload_n 0, 1) := by decide +kernel
theorem dX5_refusal_34 : decode cX5_refusal 34 = .ok (.getfield 54, 3) := by decide +kernel
theorem dX5_refusal_37 : decode cX5_refusal 37 = .ok (.if_icmp .eq 6, 3) := by decide +kernel
theorem dX5_refusal_40 : decode cX5_refusal 40 = .ok (.bipush (-2), 2) := by decide +kernel
theorem dX5_refusal_42 : decode cX5_refusal 42 = .ok (.ireturn, 1) := by decide +kernel
theorem dX5_refusal_43 : decode cX5_refusal 43 = .ok (.iconst 0, 1) := by decide +kernel
theorem dX5_refusal_44 : decode cX5_refusal 44 = .ok (.istore 4, 2) := by decide +kernel
theorem dX5_refusal_46 : decode cX5_refusal 46 = .ok (.iload 4, 2) := by decide +kernel
theorem dX5_refusal_48 : decode cX5_refusal 48 = .ok (.aload_n 0, 1) := by decide +kernel
theorem dX5_refusal_49 : decode cX5_refusal 49 = .ok (.getfield 54, 3) := by decide +kernel
theorem dX5_refusal_52 : decode cX5_refusal 52 = .ok (.if_icmp .ge 48, 3) := by decide +kernel
theorem dX5_refusal_55 : decode cX5_refusal 55 = .ok (.iload_n 3, 1) := by decide +kernel
theorem dX5_refusal_56 : decode cX5_refusal 56 = .ok (.iload 4, 2) := by decide +kernel
theorem dX5_refusal_58 : decode cX5_refusal 58 = .ok (.invokestatic 91, 3) := by decide +kernel
theorem dX5_refusal_61 : decode cX5_refusal 61 = .ok (.iconst 3, 1) := by decide +kernel
theorem dX5_refusal_62 : decode cX5_refusal 62 = .ok (.if_icmp .ne 32, 3) := by decide +kernel
theorem dX5_refusal_65 : decode cX5_refusal 65 = .ok (.aload_n 0, 1) := by decide +kernel
theorem dX5_refusal_66 : decode cX5_refusal 66 = .ok (.getfield 22, 3) := by decide +kernel
theorem dX5_refusal_69 : decode cX5_refusal 69 = .ok (.iload 4, 2) := by decide +kernel
theorem dX5_refusal_71 : decode cX5_refusal 71 = .ok (.laload, 1) := by decide +kernel
theorem dX5_refusal_72 : decode cX5_refusal 72 = .ok (.lconst 0, 1) := by decide +kernel
theorem dX5_refusal_73 : decode cX5_refusal 73 = .ok (.lcmp, 1) := by decide +kernel
theorem dX5_refusal_74 : decode cX5_refusal 74 = .ok (.ifCond .eq 20, 3) := by decide +kernel
theorem dX5_refusal_77 : decode cX5_refusal 77 = .ok (.aload_n 0, 1) := by decide +kernel
theorem dX5_refusal_78 : decode cX5_refusal 78 = .ok (.aload_n 0, 1) := by decide +kernel
theorem dX5_refusal_79 : decode cX5_refusal 79 = .ok (.getfield 22, 3) := by decide +kernel
theorem dX5_refusal_82 : decode cX5_refusal 82 = .ok (.iload 4, 2) := by decide +kernel
theorem dX5_refusal_84 : decode cX5_refusal 84 = .ok (.laload, 1) := by decide +kernel
theorem dX5_refusal_85 : decode cX5_refusal 85 = .ok (.invokevirtual 62, 3) := by decide +kernel
theorem dX5_refusal_88 : decode cX5_refusal 88 = .ok (.ifCond .ne 6, 3) := by decide +kernel
theorem dX5_refusal_91 : decode cX5_refusal 91 = .ok (.bipush (-2), 2) := by decide +kernel
theorem dX5_refusal_93 : decode cX5_refusal 93 = .ok (.ireturn, 1) := by decide +kernel
theorem dX5_refusal_94 : decode cX5_refusal 94 = .ok (.iinc 4 1, 3) := by decide +kernel
theorem dX5_refusal_97 : decode cX5_refusal 97 = .ok (.goto (-51), 3) := by decide +kernel
theorem dX5_refusal_100 : decode cX5_refusal 100 = .ok (.iload_n 2, 1) := by decide +kernel
theorem dX5_refusal_101 : decode cX5_refusal 101 = .ok (.ifCond .lt 9, 3) := by decide +kernel
theorem dX5_refusal_104 : decode cX5_refusal 104 = .ok (.iload_n 2, 1) := by decide +kernel
theorem dX5_refusal_105 : decode cX5_refusal 105 = .ok (.ldc 95, 2) := by decide +kernel
theorem dX5_refusal_107 : decode cX5_refusal 107 = .ok (.if_icmp .le 8, 3) := by decide +kernel
theorem dX5_refusal_110 : decode cX5_refusal 110 = .ok (.bipush (-3), 2) := by decide +kernel
theorem dX5_refusal_112 : decode cX5_refusal 112 = .ok (.goto 4, 3) := by decide +kernel
theorem dX5_refusal_115 : decode cX5_refusal 115 = .ok (.iconst 0, 1) := by decide +kernel
theorem dX5_refusal_116 : decode cX5_refusal 116 = .ok (.ireturn, 1) := by decide +kernel
theorem dX5_setField_0 : decode cX5_setField 0 = .ok (.iload_n 1, 1) := by decide +kernel
theorem dX5_setField_1 : decode cX5_setField 1 = .ok (.ifCond .lt 9, 3) := by decide +kernel
theorem dX5_setField_4 : decode cX5_setField 4 = .ok (.iload_n 1, 1) := by decide +kernel
theorem dX5_setField_5 : decode cX5_setField 5 = .ok (.bipush 24, 2) := by decide +kernel
theorem dX5_setField_7 : decode cX5_setField 7 = .ok (.if_icmp .lt 14, 3) := by decide +kernel
theorem dX5_setField_10 : decode cX5_setField 10 = .ok (.aload_n 0, 1) := by decide +kernel
theorem dX5_setField_11 : decode cX5_setField 11 = .ok (.dup, 1) := by decide +kernel
theorem dX5_setField_12 : decode cX5_setField 12 = .ok (.getfield 76, 3) := by decide +kernel
theorem dX5_setField_15 : decode cX5_setField 15 = .ok (.iconst 1, 1) := by decide +kernel
theorem dX5_setField_16 : decode cX5_setField 16 = .ok (.iadd, 1) := by decide +kernel
theorem dX5_setField_17 : decode cX5_setField 17 = .ok (.putfield 76, 3) := by decide +kernel
theorem dX5_setField_20 : decode cX5_setField 20 = .ok (.return_, 1) := by decide +kernel
theorem dX5_setField_21 : decode cX5_setField 21 = .ok (.aload_n 0, 1) := by decide +kernel
theorem dX5_setField_22 : decode cX5_setField 22 = .ok (.getfield 9, 3) := by decide +kernel
theorem dX5_setField_25 : decode cX5_setField 25 = .ok (.iload_n 1, 1) := by decide +kernel
theorem dX5_setField_26 : decode cX5_setField 26 = .ok (.lload_n 2, 1) := by decide +kernel
theorem dX5_setField_27 : decode cX5_setField 27 = .ok (.lastore, 1) := by decide +kernel
theorem dX5_setField_28 : decode cX5_setField 28 = .ok (.return_, 1) := by decide +kernel
theorem dX5_setFrame_0 : decode cX5_setFrame 0 = .ok (.aload_n 0, 1) := by decide +kernel
theorem dX5_setFrame_1 : decode cX5_setFrame 1 = .ok (.getfield 106, 3) := by decide +kernel
theorem dX5_setFrame_4 : decode cX5_setFrame 4 = .ok (.ifCond .lt 26, 3) := by decide +kernel
theorem dX5_setFrame_7 : decode cX5_setFrame 7 = .ok (.aload_n 0, 1) := by decide +kernel
theorem dX5_setFrame_8 : decode cX5_setFrame 8 = .ok (.getfield 106, 3) := by decide +kernel
theorem dX5_setFrame_11 : decode cX5_setFrame 11 = .ok (.bipush 60, 2) := by decide +kernel
theorem dX5_setFrame_13 : decode cX5_setFrame 13 = .ok (.if_icmp .ge 17, 3) := by decide +kernel
theorem dX5_setFrame_16 : decode cX5_setFrame 16 = .ok (.aload_n 0, 1) := by decide +kernel
theorem dX5_setFrame_17 : decode cX5_setFrame 17 = .ok (.getfield 31, 3) := by decide +kernel
theorem dX5_setFrame_20 : decode cX5_setFrame 20 = .ok (.iconst 3, 1) := by decide +kernel
theorem dX5_setFrame_21 : decode cX5_setFrame 21 = .ok (.aload_n 0, 1) := by decide +kernel
theorem dX5_setFrame_22 : decode cX5_setFrame 22 = .ok (.getfield 106, 3) := by decide +kernel
theorem dX5_setFrame_25 : decode cX5_setFrame 25 = .ok (.imul, 1) := by decide +kernel
theorem dX5_setFrame_26 : decode cX5_setFrame 26 = .ok (.iload_n 1, 1) := by decide +kernel
theorem dX5_setFrame_27 : decode cX5_setFrame 27 = .ok (.iadd, 1) := by decide +kernel
theorem dX5_setFrame_28 : decode cX5_setFrame 28 = .ok (.iload_n 2, 1) := by decide +kernel
theorem dX5_setFrame_29 : decode cX5_setFrame 29 = .ok (.iastore, 1) := by decide +kernel
theorem dX5_setFrame_30 : decode cX5_setFrame 30 = .ok (.return_, 1) := by decide +kernel
theorem dX5_setLocal_0 : decode cX5_setLocal 0 = .ok (.aload_n 0, 1) := by decide +kernel
theorem dX5_setLocal_1 : decode cX5_setLocal 1 = .ok (.getfield 106, 3) := by decide +kernel
theorem dX5_setLocal_4 : decode cX5_setLocal 4 = .ok (.bipush 24, 2) := by decide +kernel
theorem dX5_setLocal_6 : decode cX5_setLocal 6 = .ok (.imul, 1) := by decide +kernel
theorem dX5_setLocal_7 : decode cX5_setLocal 7 = .ok (.iload_n 1, 1) := by decide +kernel
theorem dX5_setLocal_8 : decode cX5_setLocal 8 = .ok (.iadd, 1) := by decide +kernel
theorem dX5_setLocal_9 : decode cX5_setLocal 9 = .ok (.istore 4, 2) := by decide +kernel
theorem dX5_setLocal_11 : decode cX5_setLocal 11 = .ok (.iload_n 1, 1) := by decide +kernel
theorem dX5_setLocal_12 : decode cX5_setLocal 12 = .ok (.ifCond .lt 24, 3) := by decide +kernel
theorem dX5_setLocal_15 : decode cX5_setLocal 15 = .ok (.iload_n 1, 1) := by decide +kernel
theorem dX5_setLocal_16 : decode cX5_setLocal 16 = .ok (.bipush 24, 2) := by decide +kernel

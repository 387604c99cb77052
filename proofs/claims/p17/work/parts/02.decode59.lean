theorem dX5_refusal_79 : decode cX5_refusal 79 = .ok (.getfield 22, 3) := by decide +kernel
theorem dX5_refusal_82 : decode cX5_refusal 82 = .ok (.iload 4, 2) := by decide +kernel
theorem dX5_refusal_84 : decode cX5_refusal 84 = .ok (.laload, 1) := by decide +kernel
theorem dX5_refusal_85 : decode cX5_refusal 85 = .ok (.invokevirtual 62, 3) := by decide +kernel
theorem dX5_refusal_88 : decode cX5_refusal 88 = .ok (.ifCond .ne 6, 3) := by decide +kernel
theorem dX5_refusal_91 : decode cX5_refusal 91 = .ok (.bipush (-2), 2) := by decide +kernel
theorem dX5_refusal_93 : decode cX5_refusal 93 = .ok (.ireturn, 1) := by decide +kernel
theorem dX5_refusal_94 : decode cX5_refusal 94 = .ok (.iinc 4 1, 3) := by decide +kernel
theorem dX5_refusal_97 : decode cX5_refusal 97 = .ok (.goto (-51), 3) := by decide +kernel
theorem dX5_refusal_100 : decode cX5_refusal 100 = .ok (.iload_n 2, 1) := by decide +kernel
theorem dX5_refusal_101 : decode cX5_refusal 101 = .ok (.ifCond .lt 9, 3) := by decide +kernel
theorem dX5_refusal_104 : decode cX5_refusal 104 = .ok (.iload_n 2, 1) := by decide +kernel
theorem dX5_refusal_105 : decode cX5_refusal 105 = .ok (.ldc 95, 2) := by decide +kernel
theorem dX5_refusal_107 : decode cX5_refusal 107 = .ok (.if_icmp .le 8, 3) := by decide +kernel
theorem dX5_refusal_110 : decode cX5_refusal 110 = .ok (.bipush (-3), 2) := by decide +kernel
theorem dX5_refusal_112 : decode cX5_refusal 112 = .ok (.goto 4, 3) := by decide +kernel
theorem dX5_refusal_115 : decode cX5_refusal 115 = .ok (.iconst 0, 1) := by decide +kernel
theorem dX5_refusal_116 : decode cX5_refusal 116 = .ok (.ireturn, 1) := by decide +kernel
theorem dX5_setField_0 : decode cX5_setField 0 = .ok (.iload_n 1, 1) := by decide +kernel
theorem dX5_setField_1 : decode cX5_setField 1 = .ok (.ifCond .lt 9, 3) := by decide +kernel
theorem dX5_setField_4 : decode cX5_setField 4 = .ok (.iload_n 1, 1) := by decide +kernel
theorem dX5_setField_5 : decode cX5_setField 5 = .ok (.bipush 24, 2) := by decide +kernel
theorem dX5_setField_7 : decode cX5_setField 7 = .ok (.if_icmp .lt 14, 3) := by decide +kernel
theorem dX5_setField_10 : decode cX5_setField 10 = .ok (.aload_n 0, 1) := by decide +kernel
theorem dX5_setField_11 : decode cX5_setField 11 = .ok (.dup, 1) := by decide +kernel
theorem dX5_setField_12 : decode cX5_setField 12 = .ok (.getfield 76, 3) := by decide +kernel
theorem dX5_setField_15 : decode cX5_setField 15 = .ok (.iconst 1, 1) := by decide +kernel
theorem dX5_setField_16 : decode cX5_setField 16 = .ok (.iadd, 1) := by decide +kernel
theorem dX5_setField_17 : decode cX5_setField 17 = .ok (.putfield 76, 3) := by decide +kernel
theorem dX5_setField_20 : decode cX5_setField 20 = .ok (.return_, 1) := by decide +kernel
theorem dX5_setField_21 : decode cX5_setField 21 = .ok (.aload_n 0, 1) := by decide +kernel
theorem dX5_setField_22 : decode cX5_setField 22 = .ok (.getfield 9, 3) := by decide +kernel
theorem dX5_setField_25 : decode cX5_setField 25 = .ok (.iload_n 1, 1) := by decide +kernel
theorem dX5_setField_26 : decode cX5_setField 26 = .ok (.lload_n 2, 1) := by decide +kernel
theorem dX5_setField_27 : decode cX5_setField 27 = .ok (.lastore, 1) := by decide +kernel
theorem dX5_setField_28 : decode cX5_setField 28 = .ok (.return_, 1) := by decide +kernel
theorem dX5_setFrame_0 : decode cX5_setFrame 0 = .ok (.aload_n 0, 1) := by decide +kernel
theorem dX5_setFrame_1 : decode cX5_setFrame 1 = .ok (.getfield 106, 3) := by decide +kernel
theorem dX5_setFrame_4 : decode cX5_setFrame 4 = .ok (.ifCond .lt 26, 3) := by decide +kernel
theorem dX5_setFrame_7 : decode cX5_setFrame 7 = .ok (.aload_n 0, 1) := by decide +kernel
theorem dX5_setFrame_8 : decode cX5_setFrame 8 = .ok (.getfield 106, 3) := by decide +kernel
theorem dX5_setFrame_11 : decode cX5_setFrame 11 = .ok (.bipush 60, 2) := by decide +kernel
theorem dX5_setFrame_13 : decode cX5_setFrame 13 = .ok (.if_icmp .ge 17, 3) := by decide +kernel
theorem dX5_setFrame_16 : decode cX5_setFrame 16 = .ok (.aload_n 0, 1) := by decide +kernel
theorem dX5_setFrame_17 : decode cX5_setFrame 17 = .ok (.getfield 31, 3) := by decide +kernel
theorem dX5_setFrame_20 : decode cX5_setFrame 20 = .ok (.iconst 3, 1) := by decide +kernel
theorem dX5_setFrame_21 : decode cX5_setFrame 21 = .ok (.aload_n 0, 1) := by decide +kernel
theorem dX5_setFrame_22 : decode cX5_setFrame 22 = .ok (.getfield 106, 3) := by decide +kernel
theorem dX5_setFrame_25 : decode cX5_setFrame 25 = .ok (.imul, 1) := by decide +kernel
theorem dX5_setFrame_26 : decode cX5_setFrame 26 = .ok (.iload_n 1, 1) := by decide +kernel
theorem dX5_setFrame_27 : decode cX5_setFrame 27 = .ok (.iadd, 1) := by decide +kernel
theorem dX5_setFrame_28 : decode cX5_setFrame 28 = .ok (.iload_n 2, 1) := by decide +kernel
theorem dX5_setFrame_29 : decode cX5_setFrame 29 = .ok (.iastore, 1) := by decide +kernel
theorem dX5_setFrame_30 : decode cX5_setFrame 30 = .ok (.return_, 1) := by decide +kernel
theorem dX5_setLocal_0 : decode cX5_setLocal 0 = .ok (.aload_n 0, 1) := by decide +kernel
theorem dX5_setLocal_1 : decode cX5_setLocal 1 = .ok (.getfield 106, 3) := by decide +kernel
theorem dX5_setLocal_4 : decode cX5_setLocal 4 = .ok (.bipush 24, 2) := by decide +kernel
theorem dX5_setLocal_6 : decode cX5_setLocal 6 = .ok (.imul, 1) := by decide +kernel
theorem dX5_setLocal_7 : decode cX5_setLocal 7 = .ok (.iload_n 1, 1) := by decide +kernel
theorem dX5_setLocal_8 : decode cX5_setLocal 8 = .ok (.iadd, 1) := by decide +kernel
theorem dX5_setLocal_9 : decode cX5_setLocal 9 = .ok (.istore 4, 2) := by decide +kernel
theorem dX5_setLocal_11 : decode cX5_setLocal 11 = .ok (.iload_n 1, 1) := by decide +kernel
theorem dX5_setLocal_12 : decode cX5_setLocal 12 = .ok (.ifCond .lt 24, 3) := by decide +kernel
theorem dX5_setLocal_15 : decode cX5_setLocal 15 = .ok (.iload_n 1, 1) := by decide +kernel
theorem dX5_setLocal_16 : decode cX5_setLocal 16 = .ok (.bipush 24, 2) := by decide +kernel
theorem dX5_setLocal_18 : decode cX5_setLocal 18 = .ok (.if_icmp .ge 18, 3) := by decide +kernel
theorem dX5_setLocal_21 : decode cX5_setLocal 21 = .ok (.iload 4, 2) := by decide +kernel
theorem dX5_setLocal_23 : decode cX5_setLocal 23 = .ok (.ifCond .lt 13, 3) := by decide +kernel
theorem dX5_setLocal_26 : decode cX5_setLocal 26 = .ok (.iload 4, 2) := by decide +kernel
theorem dX5_setLocal_28 : decode cX5_setLocal 28 = .ok (.aload_n 0, 1) := by decide +kernel
theorem dX5_setLocal_29 : decode cX5_setLocal 29 = .ok (.getfield 25, 3) := by decide +kernel
theorem dX5_setLocal_32 : decode cX5_setLocal 32 = .ok (.arraylength, 1) := by decide +kernel
theorem dX5_setLocal_33 : decode cX5_setLocal 33 = .ok (.if_icmp .lt 14, 3) := by decide +kernel
theorem dX5_setLocal_36 : decode cX5_setLocal 36 = .ok (.aload_n 0, 1) := by decide +kernel
theorem dX5_setLocal_37 : decode cX5_setLocal 37 = .ok (.dup, 1) := by decide +kernel
theorem dX5_setLocal_38 : decode cX5_setLocal 38 = .ok (.getfield 76, 3) := by decide +kernel
theorem dX5_setLocal_41 : decode cX5_setLocal 41 = .ok (.iconst 1, 1) := by decide +kernel
theorem dX5_setLocal_42 : decode cX5_setLocal 42 = .ok (.iadd, 1) := by decide +kernel
theorem dX5_setLocal_43 : decode cX5_setLocal 43 = .ok (.putfield 76, 3) := by decide +kernel
theorem dX5_setLocal_46 : decode cX5_setLocal 46 = .ok (.return_, 1) := by decide +kernel
theorem dX5_setLocal_47 : decode cX5_setLocal 47 = .ok (.aload_n 0, 1) := by decide +kernel
theorem dX5_setLocal_48 : decode cX5_setLocal 48 = .ok (.getfield 25, 3) := by decide +kernel
theorem dX5_setLocal_51 : decode cX5_setLocal 51 = .ok (.iload 4, 2) := by decide +kernel
theorem dX5_setLocal_53 : decode cX5_setLocal 53 = .ok (.lload_n 2, 1) := by decide +kernel
theorem dX5_setLocal_54 : decode cX5_setLocal 54 = .ok (.lastore, 1) := by decide +kernel
theorem dX5_setLocal_55 : decode cX5_setLocal 55 = .ok (.return_, 1) := by decide +kernel
theorem dX5_setStage_0 : decode cX5_setStage 0 = .ok (.aload_n 0, 1) := by decide +kernel
theorem dX5_setStage_1 : decode cX5_setStage 1 = .ok (.aload_n 1, 1) := by decide +kernel
theorem dX5_setStage_2 : decode cX5_setStage 2 = .ok (.putfield 38, 3) := by decide +kernel
theorem dX5_setStage_5 : decode cX5_setStage 5 = .ok (.aload_n 0, 1) := by decide +kernel
theorem dX5_setStage_6 : decode cX5_setStage 6 = .ok (.getfield 9, 3) := by decide +kernel
theorem dX5_setStage_9 : decode cX5_setStage 9 = .ok (.lconst 0, 1) := by decide +kernel
theorem dX5_setStage_10 : decode cX5_setStage 10 = .ok (.invokestatic 42, 3) := by decide +kernel
theorem dX5_setStage_13 : decode cX5_setStage 13 = .ok (.aload_n 0, 1) := by decide +kernel
theorem dX5_setStage_14 : decode cX5_setStage 14 = .ok (.iconst 0, 1) := by decide +kernel
theorem dX5_setStage_15 : decode cX5_setStage 15 = .ok (.putfield 48, 3) := by decide +kernel
theorem dX5_setStage_18 : decode cX5_setStage 18 = .ok (.aload_n 0, 1) := by decide +kernel
theorem dX5_setStage_19 : decode cX5_setStage 19 = .ok (.iconst 0, 1) := by decide +kernel
theorem dX5_setStage_20 : decode cX5_setStage 20 = .ok (.putfield 51, 3) := by decide +kernel
theorem dX5_setStage_23 : decode cX5_setStage 23 = .ok (.return_, 1) := by decide +kernel
theorem dX5_shuffle_0 : decode cX5_shuffle 0 = .ok (.aload_n 0, 1) := by decide +kernel
theorem dX5_shuffle_1 : decode cX5_shuffle 1 = .ok (.invokevirtual 141, 3) := by decide +kernel
theorem dX5_shuffle_4 : decode cX5_shuffle 4 = .ok (.lstore_n 2, 1) := by decide +kernel
theorem dX5_shuffle_5 : decode cX5_shuffle 5 = .ok (.iload_n 1, 1) := by decide +kernel
theorem dX5_shuffle_6 : decode cX5_shuffle 6 = .ok (.bipush 87, 2) := by decide +kernel
theorem dX5_shuffle_8 : decode cX5_shuffle 8 = .ok (.if_icmp .eq 9, 3) := by decide +kernel
theorem dX5_shuffle_11 : decode cX5_shuffle 11 = .ok (.iload_n 1, 1) := by decide +kernel
theorem dX5_shuffle_12 : decode cX5_shuffle 12 = .ok (.bipush 89, 2) := by decide +kernel
theorem dX5_shuffle_14 : decode cX5_shuffle 14 = .ok (.if_icmp .ne 7, 3) := by decide +kernel
theorem dX5_shuffle_17 : decode cX5_shuffle 17 = .ok (.lconst 0, 1) := by decide +kernel
theorem dX5_shuffle_18 : decode cX5_shuffle 18 = .ok (.goto 7, 3) := by decide +kernel
theorem dX5_shuffle_21 : decode cX5_shuffle 21 = .ok (.aload_n 0, 1) := by decide +kernel
theorem dX5_shuffle_22 : decode cX5_shuffle 22 = .ok (.invokevirtual 141, 3) := by decide +kernel
theorem dX5_shuffle_25 : decode cX5_shuffle 25 = .ok (.lstore 4, 2) := by decide +kernel
theorem dX5_shuffle_27 : decode cX5_shuffle 27 = .ok (.iload_n 1, 1) := by decide +kernel
theorem dX5_shuffle_28 : decode cX5_shuffle 28 = .ok (.tableswitch 115 89 95 #[44, 57, 115, 76, 115, 115, 101], 44) := by decide +kernel
theorem dX5_shuffle_72 : decode cX5_shuffle 72 = .ok (.aload_n 0, 1) := by decide +kernel
theorem dX5_shuffle_73 : decode cX5_shuffle 73 = .ok (.lload_n 2, 1) := by decide +kernel
theorem dX5_shuffle_74 : decode cX5_shuffle 74 = .ok (.invokevirtual 137, 3) := by decide +kernel
theorem dX5_shuffle_77 : decode cX5_shuffle 77 = .ok (.aload_n 0, 1) := by decide +kernel
theorem dX5_shuffle_78 : decode cX5_shuffle 78 = .ok (.lload_n 2, 1) := by decide +kernel
theorem dX5_shuffle_79 : decode cX5_shuffle 79 = .ok (.invokevirtual 137, 3) := by decide +kernel
theorem dX5_shuffle_82 : decode cX5_shuffle 82 = .ok (.goto 61, 3) := by decide +kernel
theorem dX5_shuffle_85 : decode cX5_shuffle 85 = .ok (.aload_n 0, 1) := by decide +kernel
theorem dX5_shuffle_86 : decode cX5_shuffle 86 = .ok (.lload_n 2, 1) := by decide +kernel
theorem dX5_shuffle_87 : decode cX5_shuffle 87 = .ok (.invokevirtual 137, 3) := by decide +kernel
theorem dX5_shuffle_90 : decode cX5_shuffle 90 = .ok (.aload_n 0, 1) := by decide +kernel
theorem dX5_shuffle_91 : decode cX5_shuffle 91 = .ok (.lload 4, 2) := by decide +kernel
theorem dX5_shuffle_93 : decode cX5_shuffle 93 = .ok (.invokevirtual 137, 3) := by decide +kernel
theorem dX5_shuffle_96 : decode cX5_shuffle 96 = .ok (.aload_n 0, 1) := by decide +kernel
theorem dX5_shuffle_97 : decode cX5_shuffle 97 = .ok (.lload_n 2, 1) := by decide +kernel
theorem dX5_shuffle_98 : decode cX5_shuffle 98 = .ok (.invokevirtual 137, 3) := by decide +kernel
theorem dX5_shuffle_101 : decode cX5_shuffle 101 = .ok (.goto 42, 3) := by decide +kernel
theorem dX5_shuffle_104 : decode cX5_shuffle 104 = .ok (.aload_n 0, 1) := by decide +kernel
theorem dX5_shuffle_105 : decode cX5_shuffle 105 = .ok (.lload 4, 2) := by decide +kernel
theorem dX5_shuffle_107 : decode cX5_shuffle 107 = .ok (.invokevirtual 137, 3) := by decide +kernel
theorem dX5_shuffle_110 : decode cX5_shuffle 110 = .ok (.aload_n 0, 1) := by decide +kernel
theorem dX5_shuffle_111 : decode cX5_shuffle 111 = .ok (.lload_n 2, 1) := by decide +kernel
theorem dX5_shuffle_112 : decode cX5_shuffle 112 = .ok (.invokevirtual 137, 3) := by decide +kernel
theorem dX5_shuffle_115 : decode cX5_shuffle 115 = .ok (.aload_n 0, 1) := by decide +kernel
theorem dX5_shuffle_116 : decode cX5_shuffle 116 = .ok (.lload 4, 2) := by decide +kernel
theorem dX5_shuffle_118 : decode cX5_shuffle 118 = .ok (.invokevirtual 137, 3) := by decide +kernel
theorem dX5_shuffle_121 : decode cX5_shuffle 121 = .ok (.aload_n 0, 1) := by decide +kernel
theorem dX5_shuffle_122 : decode cX5_shuffle 122 = .ok (.lload_n 2, 1) := by decide +kernel
theorem dX5_shuffle_123 : decode cX5_shuffle 123 = .ok (.invokevirtual 137, 3) := by decide +kernel
theorem dX5_shuffle_126 : decode cX5_shuffle 126 = .ok (.goto 17, 3) := by decide +kernel
theorem dX5_shuffle_129 : decode cX5_shuffle 129 = .ok (.aload_n 0, 1) := by decide +kernel
theorem dX5_shuffle_130 : decode cX5_shuffle 130 = .ok (.lload_n 2, 1) := by decide +kernel
theorem dX5_shuffle_131 : decode cX5_shuffle 131 = .ok (.invokevirtual 137, 3) := by decide +kernel
theorem dX5_shuffle_134 : decode cX5_shuffle 134 = .ok (.aload_n 0, 1) := by decide +kernel

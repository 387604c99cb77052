theorem dX2_instructionsHold_7 : decode cX2_instructionsHold 7 = .ok (.getfield 59, 3) := by decide +kernel
theorem dX2_instructionsHold_10 : decode cX2_instructionsHold 10 = .ok (.if_icmp .ge 59, 3) := by decide +kernel
theorem dX2_instructionsHold_13 : decode cX2_instructionsHold 13 = .ok (.aload_n 0, 1) := by decide +kernel
theorem dX2_instructionsHold_14 : decode cX2_instructionsHold 14 = .ok (.iload_n 1, 1) := by decide +kernel
theorem dX2_instructionsHold_15 : decode cX2_instructionsHold 15 = .ok (.invokevirtual 129, 3) := by decide +kernel
theorem dX2_instructionsHold_18 : decode cX2_instructionsHold 18 = .ok (.iconst 0, 1) := by decide +kernel
theorem dX2_instructionsHold_19 : decode cX2_instructionsHold 19 = .ok (.istore_n 2, 1) := by decide +kernel
theorem dX2_instructionsHold_20 : decode cX2_instructionsHold 20 = .ok (.iload_n 2, 1) := by decide +kernel
theorem dX2_instructionsHold_21 : decode cX2_instructionsHold 21 = .ok (.aload_n 0, 1) := by decide +kernel
theorem dX2_instructionsHold_22 : decode cX2_instructionsHold 22 = .ok (.getfield 117, 3) := by decide +kernel
theorem dX2_instructionsHold_25 : decode cX2_instructionsHold 25 = .ok (.if_icmp .ge 38, 3) := by decide +kernel
theorem dX2_instructionsHold_28 : decode cX2_instructionsHold 28 = .ok (.aload_n 0, 1) := by decide +kernel
theorem dX2_instructionsHold_29 : decode cX2_instructionsHold 29 = .ok (.iload_n 2, 1) := by decide +kernel
theorem dX2_instructionsHold_30 : decode cX2_instructionsHold 30 = .ok (.invokevirtual 133, 3) := by decide +kernel
theorem dX2_instructionsHold_33 : decode cX2_instructionsHold 33 = .ok (.ifCond .gt 19, 3) := by decide +kernel
theorem dX2_instructionsHold_36 : decode cX2_instructionsHold 36 = .ok (.aload_n 0, 1) := by decide +kernel
theorem dX2_instructionsHold_37 : decode cX2_instructionsHold 37 = .ok (.getfield 12, 3) := by decide +kernel
theorem dX2_instructionsHold_40 : decode cX2_instructionsHold 40 = .ok (.bipush 15, 2) := by decide +kernel
theorem dX2_instructionsHold_42 : decode cX2_instructionsHold 42 = .ok (.aload_n 0, 1) := by decide +kernel
theorem dX2_instructionsHold_43 : decode cX2_instructionsHold 43 = .ok (.getfield 120, 3) := by decide +kernel
theorem dX2_instructionsHold_46 : decode cX2_instructionsHold 46 = .ok (.iload_n 2, 1) := by decide +kernel
theorem dX2_instructionsHold_47 : decode cX2_instructionsHold 47 = .ok (.iadd, 1) := by decide +kernel
theorem dX2_instructionsHold_48 : decode cX2_instructionsHold 48 = .ok (.invokevirtual 86, 3) := by decide +kernel
theorem dX2_instructionsHold_51 : decode cX2_instructionsHold 51 = .ok (.ireturn, 1) := by decide +kernel
theorem dX2_instructionsHold_52 : decode cX2_instructionsHold 52 = .ok (.iload_n 2, 1) := by decide +kernel
theorem dX2_instructionsHold_53 : decode cX2_instructionsHold 53 = .ok (.aload_n 0, 1) := by decide +kernel
theorem dX2_instructionsHold_54 : decode cX2_instructionsHold 54 = .ok (.iload_n 2, 1) := by decide +kernel
theorem dX2_instructionsHold_55 : decode cX2_instructionsHold 55 = .ok (.invokevirtual 133, 3) := by decide +kernel
theorem dX2_instructionsHold_58 : decode cX2_instructionsHold 58 = .ok (.iadd, 1) := by decide +kernel
theorem dX2_instructionsHold_59 : decode cX2_instructionsHold 59 = .ok (.istore_n 2, 1) := by decide +kernel
theorem dX2_instructionsHold_60 : decode cX2_instructionsHold 60 = .ok (.goto (-40), 3) := by decide +kernel
theorem dX2_instructionsHold_63 : decode cX2_instructionsHold 63 = .ok (.iinc 1 1, 3) := by decide +kernel
theorem dX2_instructionsHold_66 : decode cX2_instructionsHold 66 = .ok (.goto (-64), 3) := by decide +kernel
theorem dX2_instructionsHold_69 : decode cX2_instructionsHold 69 = .ok (.iconst 1, 1) := by decide +kernel
theorem dX2_instructionsHold_70 : decode cX2_instructionsHold 70 = .ok (.ireturn, 1) := by decide +kernel
theorem dX2_isInstruction_0 : decode cX2_isInstruction 0 = .ok (.lload_n 1, 1) := by decide +kernel
theorem dX2_isInstruction_1 : decode cX2_isInstruction 1 = .ok (.aload_n 0, 1) := by decide +kernel
theorem dX2_isInstruction_2 : decode cX2_isInstruction 2 = .ok (.getfield 117, 3) := by decide +kernel
theorem dX2_isInstruction_5 : decode cX2_isInstruction 5 = .ok (.i2l, 1) := by decide +kernel
theorem dX2_isInstruction_6 : decode cX2_isInstruction 6 = .ok (.lcmp, 1) := by decide +kernel
theorem dX2_isInstruction_7 : decode cX2_isInstruction 7 = .ok (.ifCond .ge 15, 3) := by decide +kernel
theorem dX2_isInstruction_10 : decode cX2_isInstruction 10 = .ok (.aload_n 0, 1) := by decide +kernel
theorem dX2_isInstruction_11 : decode cX2_isInstruction 11 = .ok (.lload_n 1, 1) := by decide +kernel
theorem dX2_isInstruction_12 : decode cX2_isInstruction 12 = .ok (.invokevirtual 217, 3) := by decide +kernel
theorem dX2_isInstruction_15 : decode cX2_isInstruction 15 = .ok (.ifCond .lt 7, 3) := by decide +kernel
theorem dX2_isInstruction_18 : decode cX2_isInstruction 18 = .ok (.iconst 1, 1) := by decide +kernel
theorem dX2_isInstruction_19 : decode cX2_isInstruction 19 = .ok (.goto 4, 3) := by decide +kernel
theorem dX2_isInstruction_22 : decode cX2_isInstruction 22 = .ok (.iconst 0, 1) := by decide +kernel
theorem dX2_isInstruction_23 : decode cX2_isInstruction 23 = .ok (.ireturn, 1) := by decide +kernel
theorem dX2_lengthAt_0 : decode cX2_lengthAt 0 = .ok (.aload_n 0, 1) := by decide +kernel
theorem dX2_lengthAt_1 : decode cX2_lengthAt 1 = .ok (.iload_n 1, 1) := by decide +kernel
theorem dX2_lengthAt_2 : decode cX2_lengthAt 2 = .ok (.invokevirtual 139, 3) := by decide +kernel
theorem dX2_lengthAt_5 : decode cX2_lengthAt 5 = .ok (.lookupswitch 96 #[(170, 43), (171, 52), (188, 75), (196, 61)], 43) := by decide +kernel
theorem dX2_lengthAt_48 : decode cX2_lengthAt 48 = .ok (.aload_n 0, 1) := by decide +kernel
theorem dX2_lengthAt_49 : decode cX2_lengthAt 49 = .ok (.iload_n 1, 1) := by decide +kernel
theorem dX2_lengthAt_50 : decode cX2_lengthAt 50 = .ok (.invokevirtual 140, 3) := by decide +kernel
theorem dX2_lengthAt_53 : decode cX2_lengthAt 53 = .ok (.istore_n 2, 1) := by decide +kernel
theorem dX2_lengthAt_54 : decode cX2_lengthAt 54 = .ok (.goto 56, 3) := by decide +kernel
theorem dX2_lengthAt_57 : decode cX2_lengthAt 57 = .ok (.aload_n 0, 1) := by decide +kernel
theorem dX2_lengthAt_58 : decode cX2_lengthAt 58 = .ok (.iload_n 1, 1) := by decide +kernel
theorem dX2_lengthAt_59 : decode cX2_lengthAt 59 = .ok (.invokevirtual 143, 3) := by decide +kernel
theorem dX2_lengthAt_62 : decode cX2_lengthAt 62 = .ok (.istore_n 2, 1) := by decide +kernel
theorem dX2_lengthAt_63 : decode cX2_lengthAt 63 = .ok (.goto 47, 3) := by decide +kernel
theorem dX2_lengthAt_66 : decode cX2_lengthAt 66 = .ok (.aload_n 0, 1) := by decide +kernel
theorem dX2_lengthAt_67 : decode cX2_lengthAt 67 = .ok (.iload_n 1, 1) := by decide +kernel
theorem dX2_lengthAt_68 : decode cX2_lengthAt 68 = .ok (.iconst 1, 1) := by decide +kernel
theorem dX2_lengthAt_69 : decode cX2_lengthAt 69 = .ok (.iadd, 1) := by decide +kernel
theorem dX2_lengthAt_70 : decode cX2_lengthAt 70 = .ok (.invokevirtual 139, 3) := by decide +kernel
theorem dX2_lengthAt_73 : decode cX2_lengthAt 73 = .ok (.invokestatic 146, 3) := by decide +kernel
theorem dX2_lengthAt_76 : decode cX2_lengthAt 76 = .ok (.istore_n 2, 1) := by decide +kernel
theorem dX2_lengthAt_77 : decode cX2_lengthAt 77 = .ok (.goto 33, 3) := by decide +kernel
theorem dX2_lengthAt_80 : decode cX2_lengthAt 80 = .ok (.aload_n 0, 1) := by decide +kernel
theorem dX2_lengthAt_81 : decode cX2_lengthAt 81 = .ok (.iload_n 1, 1) := by decide +kernel
theorem dX2_lengthAt_82 : decode cX2_lengthAt 82 = .ok (.iconst 1, 1) := by decide +kernel
theorem dX2_lengthAt_83 : decode cX2_lengthAt 83 = .ok (.iadd, 1) := by decide +kernel
theorem dX2_lengthAt_84 : decode cX2_lengthAt 84 = .ok (.invokevirtual 139, 3) := by decide +kernel
theorem dX2_lengthAt_87 : decode cX2_lengthAt 87 = .ok (.bipush 10, 2) := by decide +kernel
theorem dX2_lengthAt_89 : decode cX2_lengthAt 89 = .ok (.if_icmp .ne 7, 3) := by decide +kernel
theorem dX2_lengthAt_92 : decode cX2_lengthAt 92 = .ok (.iconst 2, 1) := by decide +kernel
theorem dX2_lengthAt_93 : decode cX2_lengthAt 93 = .ok (.goto 4, 3) := by decide +kernel
theorem dX2_lengthAt_96 : decode cX2_lengthAt 96 = .ok (.iconst 0, 1) := by decide +kernel
theorem dX2_lengthAt_97 : decode cX2_lengthAt 97 = .ok (.istore_n 2, 1) := by decide +kernel
theorem dX2_lengthAt_98 : decode cX2_lengthAt 98 = .ok (.goto 12, 3) := by decide +kernel
theorem dX2_lengthAt_101 : decode cX2_lengthAt 101 = .ok (.aload_n 0, 1) := by decide +kernel
theorem dX2_lengthAt_102 : decode cX2_lengthAt 102 = .ok (.iload_n 1, 1) := by decide +kernel
theorem dX2_lengthAt_103 : decode cX2_lengthAt 103 = .ok (.invokevirtual 139, 3) := by decide +kernel
theorem dX2_lengthAt_106 : decode cX2_lengthAt 106 = .ok (.invokestatic 149, 3) := by decide +kernel
theorem dX2_lengthAt_109 : decode cX2_lengthAt 109 = .ok (.istore_n 2, 1) := by decide +kernel
theorem dX2_lengthAt_110 : decode cX2_lengthAt 110 = .ok (.iload_n 1, 1) := by decide +kernel
theorem dX2_lengthAt_111 : decode cX2_lengthAt 111 = .ok (.iload_n 2, 1) := by decide +kernel
theorem dX2_lengthAt_112 : decode cX2_lengthAt 112 = .ok (.iadd, 1) := by decide +kernel
theorem dX2_lengthAt_113 : decode cX2_lengthAt 113 = .ok (.aload_n 0, 1) := by decide +kernel
theorem dX2_lengthAt_114 : decode cX2_lengthAt 114 = .ok (.getfield 117, 3) := by decide +kernel
theorem dX2_lengthAt_117 : decode cX2_lengthAt 117 = .ok (.if_icmp .le 7, 3) := by decide +kernel
theorem dX2_lengthAt_120 : decode cX2_lengthAt 120 = .ok (.iconst 0, 1) := by decide +kernel
theorem dX2_lengthAt_121 : decode cX2_lengthAt 121 = .ok (.goto 4, 3) := by decide +kernel
theorem dX2_lengthAt_124 : decode cX2_lengthAt 124 = .ok (.iload_n 2, 1) := by decide +kernel
theorem dX2_lengthAt_125 : decode cX2_lengthAt 125 = .ok (.ireturn, 1) := by decide +kernel
theorem dX2_limitsHold_0 : decode cX2_limitsHold 0 = .ok (.iconst 0, 1) := by decide +kernel
theorem dX2_limitsHold_1 : decode cX2_limitsHold 1 = .ok (.istore_n 1, 1) := by decide +kernel
theorem dX2_limitsHold_2 : decode cX2_limitsHold 2 = .ok (.iload_n 1, 1) := by decide +kernel
theorem dX2_limitsHold_3 : decode cX2_limitsHold 3 = .ok (.aload_n 0, 1) := by decide +kernel
theorem dX2_limitsHold_4 : decode cX2_limitsHold 4 = .ok (.getfield 12, 3) := by decide +kernel
theorem dX2_limitsHold_7 : decode cX2_limitsHold 7 = .ok (.getfield 59, 3) := by decide +kernel
theorem dX2_limitsHold_10 : decode cX2_limitsHold 10 = .ok (.if_icmp .ge 73, 3) := by decide +kernel
theorem dX2_limitsHold_13 : decode cX2_limitsHold 13 = .ok (.iload_n 1, 1) := by decide +kernel
theorem dX2_limitsHold_14 : decode cX2_limitsHold 14 = .ok (.bipush 24, 2) := by decide +kernel
theorem dX2_limitsHold_16 : decode cX2_limitsHold 16 = .ok (.if_icmp .ge 67, 3) := by decide +kernel
theorem dX2_limitsHold_19 : decode cX2_limitsHold 19 = .ok (.aload_n 0, 1) := by decide +kernel
theorem dX2_limitsHold_20 : decode cX2_limitsHold 20 = .ok (.getfield 12, 3) := by decide +kernel
theorem dX2_limitsHold_23 : decode cX2_limitsHold 23 = .ok (.aload_n 0, 1) := by decide +kernel
theorem dX2_limitsHold_24 : decode cX2_limitsHold 24 = .ok (.getfield 12, 3) := by decide +kernel
theorem dX2_limitsHold_27 : decode cX2_limitsHold 27 = .ok (.aload_n 0, 1) := by decide +kernel
theorem dX2_limitsHold_28 : decode cX2_limitsHold 28 = .ok (.getfield 12, 3) := by decide +kernel
theorem dX2_limitsHold_31 : decode cX2_limitsHold 31 = .ok (.getfield 62, 3) := by decide +kernel
theorem dX2_limitsHold_34 : decode cX2_limitsHold 34 = .ok (.iload_n 1, 1) := by decide +kernel
theorem dX2_limitsHold_35 : decode cX2_limitsHold 35 = .ok (.iadd, 1) := by decide +kernel
theorem dX2_limitsHold_36 : decode cX2_limitsHold 36 = .ok (.invokevirtual 65, 3) := by decide +kernel
theorem dX2_limitsHold_39 : decode cX2_limitsHold 39 = .ok (.invokevirtual 69, 3) := by decide +kernel
theorem dX2_limitsHold_42 : decode cX2_limitsHold 42 = .ok (.pop, 1) := by decide +kernel
theorem dX2_limitsHold_43 : decode cX2_limitsHold 43 = .ok (.aload_n 0, 1) := by decide +kernel
theorem dX2_limitsHold_44 : decode cX2_limitsHold 44 = .ok (.aload_n 0, 1) := by decide +kernel
theorem dX2_limitsHold_45 : decode cX2_limitsHold 45 = .ok (.getfield 12, 3) := by decide +kernel
theorem dX2_limitsHold_48 : decode cX2_limitsHold 48 = .ok (.getfield 73, 3) := by decide +kernel
theorem dX2_limitsHold_51 : decode cX2_limitsHold 51 = .ok (.iload_n 1, 1) := by decide +kernel
theorem dX2_limitsHold_52 : decode cX2_limitsHold 52 = .ok (.iaload, 1) := by decide +kernel
theorem dX2_limitsHold_53 : decode cX2_limitsHold 53 = .ok (.aload_n 0, 1) := by decide +kernel
theorem dX2_limitsHold_54 : decode cX2_limitsHold 54 = .ok (.getfield 12, 3) := by decide +kernel
theorem dX2_limitsHold_57 : decode cX2_limitsHold 57 = .ok (.getfield 76, 3) := by decide +kernel
theorem dX2_limitsHold_60 : decode cX2_limitsHold 60 = .ok (.iload_n 1, 1) := by decide +kernel
theorem dX2_limitsHold_61 : decode cX2_limitsHold 61 = .ok (.iaload, 1) := by decide +kernel
theorem dX2_limitsHold_62 : decode cX2_limitsHold 62 = .ok (.aload_n 0, 1) := by decide +kernel
theorem dX2_limitsHold_63 : decode cX2_limitsHold 63 = .ok (.getfield 12, 3) := by decide +kernel
theorem dX2_limitsHold_66 : decode cX2_limitsHold 66 = .ok (.getfield 79, 3) := by decide +kernel
theorem dX2_limitsHold_69 : decode cX2_limitsHold 69 = .ok (.invokevirtual 82, 3) := by decide +kernel
theorem dX2_limitsHold_72 : decode cX2_limitsHold 72 = .ok (.ifCond .ne 5, 3) := by decide +kernel
theorem dX2_limitsHold_75 : decode cX2_limitsHold 75 = .ok (.iconst 0, 1) := by decide +kernel
theorem dX2_limitsHold_76 : decode cX2_limitsHold 76 = .ok (.ireturn, 1) := by decide +kernel
theorem dX2_limitsHold_77 : decode cX2_limitsHold 77 = .ok (.iinc 1 1, 3) := by decide +kernel
theorem dX2_limitsHold_80 : decode cX2_limitsHold 80 = .ok (.goto (-78), 3) := by decide +kernel
theorem dX2_limitsHold_83 : decode cX2_limitsHold 83 = .ok (.iconst 1, 1) := by decide +kernel
theorem dX2_limitsHold_84 : decode cX2_limitsHold 84 = .ok (.ireturn, 1) := by decide +kernel
theorem dX2_longAt_0 : decode cX2_longAt 0 = .ok (.aload_n 0, 1) := by decide +kernel
theorem dX2_longAt_1 : decode cX2_longAt 1 = .ok (.getfield 12, 3) := by decide +kernel
theorem dX2_longAt_4 : decode cX2_longAt 4 = .ok (.iload_n 1, 1) := by decide +kernel
theorem dX2_longAt_5 : decode cX2_longAt 5 = .ok (.invokevirtual 93, 3) := by decide +kernel
theorem dX2_longAt_8 : decode cX2_longAt 8 = .ok (.bipush 32, 2) := by decide +kernel
theorem dX2_longAt_10 : decode cX2_longAt 10 = .ok (.lshl, 1) := by decide +kernel
theorem dX2_longAt_11 : decode cX2_longAt 11 = .ok (.aload_n 0, 1) := by decide +kernel
theorem dX2_longAt_12 : decode cX2_longAt 12 = .ok (.getfield 12, 3) := by decide +kernel

theorem dX3_makeRoom_66 : decode cX3_makeRoom 66 = .ok (.iload_n 1, 1) := by decide +kernel
theorem dX3_makeRoom_67 : decode cX3_makeRoom 67 = .ok (.newarray .int, 2) := by decide +kernel
theorem dX3_makeRoom_69 : decode cX3_makeRoom 69 = .ok (.putfield 47, 3) := by decide +kernel
theorem dX3_makeRoom_72 : decode cX3_makeRoom 72 = .ok (.aload_n 0, 1) := by decide +kernel
theorem dX3_makeRoom_73 : decode cX3_makeRoom 73 = .ok (.iload_n 1, 1) := by decide +kernel
theorem dX3_makeRoom_74 : decode cX3_makeRoom 74 = .ok (.newarray .int, 2) := by decide +kernel
theorem dX3_makeRoom_76 : decode cX3_makeRoom 76 = .ok (.putfield 50, 3) := by decide +kernel
theorem dX3_makeRoom_79 : decode cX3_makeRoom 79 = .ok (.aload_n 0, 1) := by decide +kernel
theorem dX3_makeRoom_80 : decode cX3_makeRoom 80 = .ok (.aload_n 0, 1) := by decide +kernel
theorem dX3_makeRoom_81 : decode cX3_makeRoom 81 = .ok (.getfield 78, 3) := by decide +kernel
theorem dX3_makeRoom_84 : decode cX3_makeRoom 84 = .ok (.bipush 63, 2) := by decide +kernel
theorem dX3_makeRoom_86 : decode cX3_makeRoom 86 = .ok (.iadd, 1) := by decide +kernel
theorem dX3_makeRoom_87 : decode cX3_makeRoom 87 = .ok (.bipush 64, 2) := by decide +kernel
theorem dX3_makeRoom_89 : decode cX3_makeRoom 89 = .ok (.idiv, 1) := by decide +kernel
theorem dX3_makeRoom_90 : decode cX3_makeRoom 90 = .ok (.putfield 124, 3) := by decide +kernel
theorem dX3_makeRoom_93 : decode cX3_makeRoom 93 = .ok (.aload_n 0, 1) := by decide +kernel
theorem dX3_makeRoom_94 : decode cX3_makeRoom 94 = .ok (.getfield 34, 3) := by decide +kernel
theorem dX3_makeRoom_97 : decode cX3_makeRoom 97 = .ok (.arraylength, 1) := by decide +kernel
theorem dX3_makeRoom_98 : decode cX3_makeRoom 98 = .ok (.aload_n 0, 1) := by decide +kernel
theorem dX3_makeRoom_99 : decode cX3_makeRoom 99 = .ok (.getfield 78, 3) := by decide +kernel
theorem dX3_makeRoom_102 : decode cX3_makeRoom 102 = .ok (.aload_n 0, 1) := by decide +kernel
theorem dX3_makeRoom_103 : decode cX3_makeRoom 103 = .ok (.getfield 124, 3) := by decide +kernel
theorem dX3_makeRoom_106 : decode cX3_makeRoom 106 = .ok (.imul, 1) := by decide +kernel
theorem dX3_makeRoom_107 : decode cX3_makeRoom 107 = .ok (.if_icmp .ge 20, 3) := by decide +kernel
theorem dX3_makeRoom_110 : decode cX3_makeRoom 110 = .ok (.aload_n 0, 1) := by decide +kernel
theorem dX3_makeRoom_111 : decode cX3_makeRoom 111 = .ok (.iconst 2, 1) := by decide +kernel
theorem dX3_makeRoom_112 : decode cX3_makeRoom 112 = .ok (.aload_n 0, 1) := by decide +kernel
theorem dX3_makeRoom_113 : decode cX3_makeRoom 113 = .ok (.getfield 78, 3) := by decide +kernel
theorem dX3_makeRoom_116 : decode cX3_makeRoom 116 = .ok (.imul, 1) := by decide +kernel
theorem dX3_makeRoom_117 : decode cX3_makeRoom 117 = .ok (.aload_n 0, 1) := by decide +kernel
theorem dX3_makeRoom_118 : decode cX3_makeRoom 118 = .ok (.getfield 124, 3) := by decide +kernel
theorem dX3_makeRoom_121 : decode cX3_makeRoom 121 = .ok (.imul, 1) := by decide +kernel
theorem dX3_makeRoom_122 : decode cX3_makeRoom 122 = .ok (.newarray .long, 2) := by decide +kernel
theorem dX3_makeRoom_124 : decode cX3_makeRoom 124 = .ok (.putfield 34, 3) := by decide +kernel
theorem dX3_makeRoom_127 : decode cX3_makeRoom 127 = .ok (.return_, 1) := by decide +kernel
theorem dX3_narrow_0 : decode cX3_narrow 0 = .ok (.iconst 0, 1) := by decide +kernel
theorem dX3_narrow_1 : decode cX3_narrow 1 = .ok (.istore_n 3, 1) := by decide +kernel
theorem dX3_narrow_2 : decode cX3_narrow 2 = .ok (.iconst 0, 1) := by decide +kernel
theorem dX3_narrow_3 : decode cX3_narrow 3 = .ok (.istore 4, 2) := by decide +kernel
theorem dX3_narrow_5 : decode cX3_narrow 5 = .ok (.iload 4, 2) := by decide +kernel
theorem dX3_narrow_7 : decode cX3_narrow 7 = .ok (.aload_n 0, 1) := by decide +kernel
theorem dX3_narrow_8 : decode cX3_narrow 8 = .ok (.getfield 124, 3) := by decide +kernel
theorem dX3_narrow_11 : decode cX3_narrow 11 = .ok (.if_icmp .ge 108, 3) := by decide +kernel
theorem dX3_narrow_14 : decode cX3_narrow 14 = .ok (.iload 4, 2) := by decide +kernel
theorem dX3_narrow_16 : decode cX3_narrow 16 = .ok (.iload_n 1, 1) := by decide +kernel
theorem dX3_narrow_17 : decode cX3_narrow 17 = .ok (.bipush 6, 2) := by decide +kernel
theorem dX3_narrow_19 : decode cX3_narrow 19 = .ok (.ishr, 1) := by decide +kernel
theorem dX3_narrow_20 : decode cX3_narrow 20 = .ok (.if_icmp .ne 12, 3) := by decide +kernel
theorem dX3_narrow_23 : decode cX3_narrow 23 = .ok (.lconst 1, 1) := by decide +kernel
theorem dX3_narrow_24 : decode cX3_narrow 24 = .ok (.iload_n 1, 1) := by decide +kernel
theorem dX3_narrow_25 : decode cX3_narrow 25 = .ok (.bipush 63, 2) := by decide +kernel
theorem dX3_narrow_27 : decode cX3_narrow 27 = .ok (.iand, 1) := by decide +kernel
theorem dX3_narrow_28 : decode cX3_narrow 28 = .ok (.lshl, 1) := by decide +kernel
theorem dX3_narrow_29 : decode cX3_narrow 29 = .ok (.goto 4, 3) := by decide +kernel
theorem dX3_narrow_32 : decode cX3_narrow 32 = .ok (.lconst 0, 1) := by decide +kernel
theorem dX3_narrow_33 : decode cX3_narrow 33 = .ok (.lstore 5, 2) := by decide +kernel
theorem dX3_narrow_35 : decode cX3_narrow 35 = .ok (.aload_n 0, 1) := by decide +kernel
theorem dX3_narrow_36 : decode cX3_narrow 36 = .ok (.getfield 34, 3) := by decide +kernel
theorem dX3_narrow_39 : decode cX3_narrow 39 = .ok (.iload_n 1, 1) := by decide +kernel
theorem dX3_narrow_40 : decode cX3_narrow 40 = .ok (.aload_n 0, 1) := by decide +kernel
theorem dX3_narrow_41 : decode cX3_narrow 41 = .ok (.getfield 124, 3) := by decide +kernel
theorem dX3_narrow_44 : decode cX3_narrow 44 = .ok (.imul, 1) := by decide +kernel
theorem dX3_narrow_45 : decode cX3_narrow 45 = .ok (.iload 4, 2) := by decide +kernel
theorem dX3_narrow_47 : decode cX3_narrow 47 = .ok (.iadd, 1) := by decide +kernel
theorem dX3_narrow_48 : decode cX3_narrow 48 = .ok (.laload, 1) := by decide +kernel
theorem dX3_narrow_49 : decode cX3_narrow 49 = .ok (.aload_n 0, 1) := by decide +kernel
theorem dX3_narrow_50 : decode cX3_narrow 50 = .ok (.getfield 34, 3) := by decide +kernel
theorem dX3_narrow_53 : decode cX3_narrow 53 = .ok (.iload_n 2, 1) := by decide +kernel
theorem dX3_narrow_54 : decode cX3_narrow 54 = .ok (.aload_n 0, 1) := by decide +kernel
theorem dX3_narrow_55 : decode cX3_narrow 55 = .ok (.getfield 124, 3) := by decide +kernel
theorem dX3_narrow_58 : decode cX3_narrow 58 = .ok (.imul, 1) := by decide +kernel
theorem dX3_narrow_59 : decode cX3_narrow 59 = .ok (.iload 4, 2) := by decide +kernel
theorem dX3_narrow_61 : decode cX3_narrow 61 = .ok (.iadd, 1) := by decide +kernel
theorem dX3_narrow_62 : decode cX3_narrow 62 = .ok (.laload, 1) := by decide +kernel
theorem dX3_narrow_63 : decode cX3_narrow 63 = .ok (.lload 5, 2) := by decide +kernel
theorem dX3_narrow_65 : decode cX3_narrow 65 = .ok (.lor, 1) := by decide +kernel
theorem dX3_narrow_66 : decode cX3_narrow 66 = .ok (.land, 1) := by decide +kernel
theorem dX3_narrow_67 : decode cX3_narrow 67 = .ok (.lstore 7, 2) := by decide +kernel
theorem dX3_narrow_69 : decode cX3_narrow 69 = .ok (.iload_n 3, 1) := by decide +kernel
theorem dX3_narrow_70 : decode cX3_narrow 70 = .ok (.lload 7, 2) := by decide +kernel
theorem dX3_narrow_72 : decode cX3_narrow 72 = .ok (.aload_n 0, 1) := by decide +kernel
theorem dX3_narrow_73 : decode cX3_narrow 73 = .ok (.getfield 34, 3) := by decide +kernel
theorem dX3_narrow_76 : decode cX3_narrow 76 = .ok (.iload_n 1, 1) := by decide +kernel
theorem dX3_narrow_77 : decode cX3_narrow 77 = .ok (.aload_n 0, 1) := by decide +kernel
theorem dX3_narrow_78 : decode cX3_narrow 78 = .ok (.getfield 124, 3) := by decide +kernel
theorem dX3_narrow_81 : decode cX3_narrow 81 = .ok (.imul, 1) := by decide +kernel
theorem dX3_narrow_82 : decode cX3_narrow 82 = .ok (.iload 4, 2) := by decide +kernel
theorem dX3_narrow_84 : decode cX3_narrow 84 = .ok (.iadd, 1) := by decide +kernel
theorem dX3_narrow_85 : decode cX3_narrow 85 = .ok (.laload, 1) := by decide +kernel
theorem dX3_narrow_86 : decode cX3_narrow 86 = .ok (.lcmp, 1) := by decide +kernel
theorem dX3_narrow_87 : decode cX3_narrow 87 = .ok (.ifCond .eq 7, 3) := by decide +kernel
theorem dX3_narrow_90 : decode cX3_narrow 90 = .ok (.iconst 1, 1) := by decide +kernel
theorem dX3_narrow_91 : decode cX3_narrow 91 = .ok (.goto 4, 3) := by decide +kernel
theorem dX3_narrow_94 : decode cX3_narrow 94 = .ok (.iconst 0, 1) := by decide +kernel
theorem dX3_narrow_95 : decode cX3_narrow 95 = .ok (.ior, 1) := by decide +kernel
theorem dX3_narrow_96 : decode cX3_narrow 96 = .ok (.istore_n 3, 1) := by decide +kernel
theorem dX3_narrow_97 : decode cX3_narrow 97 = .ok (.aload_n 0, 1) := by decide +kernel
theorem dX3_narrow_98 : decode cX3_narrow 98 = .ok (.getfield 34, 3) := by decide +kernel
theorem dX3_narrow_101 : decode cX3_narrow 101 = .ok (.iload_n 1, 1) := by decide +kernel
theorem dX3_narrow_102 : decode cX3_narrow 102 = .ok (.aload_n 0, 1) := by decide +kernel
theorem dX3_narrow_103 : decode cX3_narrow 103 = .ok (.getfield 124, 3) := by decide +kernel
theorem dX3_narrow_106 : decode cX3_narrow 106 = .ok (.imul, 1) := by decide +kernel
theorem dX3_narrow_107 : decode cX3_narrow 107 = .ok (.iload 4, 2) := by decide +kernel
theorem dX3_narrow_109 : decode cX3_narrow 109 = .ok (.iadd, 1) := by decide +kernel
theorem dX3_narrow_110 : decode cX3_narrow 110 = .ok (.lload 7, 2) := by decide +kernel
theorem dX3_narrow_112 : decode cX3_narrow 112 = .ok (.lastore, 1) := by decide +kernel
theorem dX3_narrow_113 : decode cX3_narrow 113 = .ok (.iinc 4 1, 3) := by decide +kernel
theorem dX3_narrow_116 : decode cX3_narrow 116 = .ok (.goto (-111), 3) := by decide +kernel
theorem dX3_narrow_119 : decode cX3_narrow 119 = .ok (.iload_n 3, 1) := by decide +kernel
theorem dX3_narrow_120 : decode cX3_narrow 120 = .ok (.ireturn, 1) := by decide +kernel
theorem dX3_nearestDominator_0 : decode cX3_nearestDominator 0 = .ok (.aload_n 0, 1) := by decide +kernel
theorem dX3_nearestDominator_1 : decode cX3_nearestDominator 1 = .ok (.iload_n 1, 1) := by decide +kernel
theorem dX3_nearestDominator_2 : decode cX3_nearestDominator 2 = .ok (.invokevirtual 166, 3) := by decide +kernel
theorem dX3_nearestDominator_5 : decode cX3_nearestDominator 5 = .ok (.iconst 1, 1) := by decide +kernel
theorem dX3_nearestDominator_6 : decode cX3_nearestDominator 6 = .ok (.isub, 1) := by decide +kernel
theorem dX3_nearestDominator_7 : decode cX3_nearestDominator 7 = .ok (.istore_n 2, 1) := by decide +kernel
theorem dX3_nearestDominator_8 : decode cX3_nearestDominator 8 = .ok (.iconst 0, 1) := by decide +kernel
theorem dX3_nearestDominator_9 : decode cX3_nearestDominator 9 = .ok (.istore_n 3, 1) := by decide +kernel
theorem dX3_nearestDominator_10 : decode cX3_nearestDominator 10 = .ok (.iload_n 3, 1) := by decide +kernel
theorem dX3_nearestDominator_11 : decode cX3_nearestDominator 11 = .ok (.aload_n 0, 1) := by decide +kernel
theorem dX3_nearestDominator_12 : decode cX3_nearestDominator 12 = .ok (.getfield 78, 3) := by decide +kernel
theorem dX3_nearestDominator_15 : decode cX3_nearestDominator 15 = .ok (.if_icmp .ge 34, 3) := by decide +kernel
theorem dX3_nearestDominator_18 : decode cX3_nearestDominator 18 = .ok (.iload_n 3, 1) := by decide +kernel
theorem dX3_nearestDominator_19 : decode cX3_nearestDominator 19 = .ok (.iload_n 1, 1) := by decide +kernel
theorem dX3_nearestDominator_20 : decode cX3_nearestDominator 20 = .ok (.if_icmp .eq 23, 3) := by decide +kernel
theorem dX3_nearestDominator_23 : decode cX3_nearestDominator 23 = .ok (.aload_n 0, 1) := by decide +kernel
theorem dX3_nearestDominator_24 : decode cX3_nearestDominator 24 = .ok (.iload_n 3, 1) := by decide +kernel
theorem dX3_nearestDominator_25 : decode cX3_nearestDominator 25 = .ok (.iload_n 1, 1) := by decide +kernel
theorem dX3_nearestDominator_26 : decode cX3_nearestDominator 26 = .ok (.invokevirtual 169, 3) := by decide +kernel
theorem dX3_nearestDominator_29 : decode cX3_nearestDominator 29 = .ok (.ifCond .eq 14, 3) := by decide +kernel
theorem dX3_nearestDominator_32 : decode cX3_nearestDominator 32 = .ok (.aload_n 0, 1) := by decide +kernel
theorem dX3_nearestDominator_33 : decode cX3_nearestDominator 33 = .ok (.iload_n 3, 1) := by decide +kernel
theorem dX3_nearestDominator_34 : decode cX3_nearestDominator 34 = .ok (.invokevirtual 166, 3) := by decide +kernel
theorem dX3_nearestDominator_37 : decode cX3_nearestDominator 37 = .ok (.iload_n 2, 1) := by decide +kernel
theorem dX3_nearestDominator_38 : decode cX3_nearestDominator 38 = .ok (.if_icmp .ne 5, 3) := by decide +kernel
theorem dX3_nearestDominator_41 : decode cX3_nearestDominator 41 = .ok (.iload_n 3, 1) := by decide +kernel
theorem dX3_nearestDominator_42 : decode cX3_nearestDominator 42 = .ok (.ireturn, 1) := by decide +kernel
theorem dX3_nearestDominator_43 : decode cX3_nearestDominator 43 = .ok (.iinc 3 1, 3) := by decide +kernel
theorem dX3_nearestDominator_46 : decode cX3_nearestDominator 46 = .ok (.goto (-36), 3) := by decide +kernel
theorem dX3_nearestDominator_49 : decode cX3_nearestDominator 49 = .ok (.iconst (-1), 1) := by decide +kernel
theorem dX3_nearestDominator_50 : decode cX3_nearestDominator 50 = .ok (.ireturn, 1) := by decide +kernel
theorem dX3_reachedCount_0 : decode cX3_reachedCount 0 = .ok (.iconst 0, 1) := by decide +kernel
theorem dX3_reachedCount_1 : decode cX3_reachedCount 1 = .ok (.istore_n 1, 1) := by decide +kernel
theorem dX3_reachedCount_2 : decode cX3_reachedCount 2 = .ok (.iconst 0, 1) := by decide +kernel
theorem dX3_reachedCount_3 : decode cX3_reachedCount 3 = .ok (.istore_n 2, 1) := by decide +kernel
theorem dX3_reachedCount_4 : decode cX3_reachedCount 4 = .ok (.iload_n 2, 1) := by decide +kernel
theorem dX3_reachedCount_5 : decode cX3_reachedCount 5 = .ok (.aload_n 0, 1) := by decide +kernel
theorem dX3_reachedCount_6 : decode cX3_reachedCount 6 = .ok (.getfield 78, 3) := by decide +kernel
theorem dX3_reachedCount_9 : decode cX3_reachedCount 9 = .ok (.if_icmp .ge 26, 3) := by decide +kernel
theorem dX3_reachedCount_12 : decode cX3_reachedCount 12 = .ok (.iload_n 1, 1) := by decide +kernel

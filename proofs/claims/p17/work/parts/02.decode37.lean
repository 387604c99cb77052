theorem dX2_numberOf_16 : decode cX2_numberOf 16 = .ok (.lload_n 1, 1) := by decide +kernel
theorem dX2_numberOf_17 : decode cX2_numberOf 17 = .ok (.aload_n 0, 1) := by decide +kernel
theorem dX2_numberOf_18 : decode cX2_numberOf 18 = .ok (.getfield 18, 3) := by decide +kernel
theorem dX2_numberOf_21 : decode cX2_numberOf 21 = .ok (.arraylength, 1) := by decide +kernel
theorem dX2_numberOf_22 : decode cX2_numberOf 22 = .ok (.i2l, 1) := by decide +kernel
theorem dX2_numberOf_23 : decode cX2_numberOf 23 = .ok (.lcmp, 1) := by decide +kernel
theorem dX2_numberOf_24 : decode cX2_numberOf 24 = .ok (.ifCond .lt 7, 3) := by decide +kernel
theorem dX2_numberOf_27 : decode cX2_numberOf 27 = .ok (.iconst (-1), 1) := by decide +kernel
theorem dX2_numberOf_28 : decode cX2_numberOf 28 = .ok (.goto 10, 3) := by decide +kernel
theorem dX2_numberOf_31 : decode cX2_numberOf 31 = .ok (.aload_n 0, 1) := by decide +kernel
theorem dX2_numberOf_32 : decode cX2_numberOf 32 = .ok (.getfield 18, 3) := by decide +kernel
theorem dX2_numberOf_35 : decode cX2_numberOf 35 = .ok (.lload_n 1, 1) := by decide +kernel
theorem dX2_numberOf_36 : decode cX2_numberOf 36 = .ok (.l2i, 1) := by decide +kernel
theorem dX2_numberOf_37 : decode cX2_numberOf 37 = .ok (.iaload, 1) := by decide +kernel
theorem dX2_numberOf_38 : decode cX2_numberOf 38 = .ok (.ireturn, 1) := by decide +kernel
theorem dX2_numbersOf_0 : decode cX2_numbersOf 0 = .ok (.iload_n 0, 1) := by decide +kernel
theorem dX2_numbersOf_1 : decode cX2_numbersOf 1 = .ok (.iconst 4, 1) := by decide +kernel
theorem dX2_numbersOf_2 : decode cX2_numbersOf 2 = .ok (.iadd, 1) := by decide +kernel
theorem dX2_numbersOf_3 : decode cX2_numbersOf 3 = .ok (.bipush (-4), 2) := by decide +kernel
theorem dX2_numbersOf_5 : decode cX2_numbersOf 5 = .ok (.iand, 1) := by decide +kernel
theorem dX2_numbersOf_6 : decode cX2_numbersOf 6 = .ok (.ireturn, 1) := by decide +kernel
theorem dX2_pointersHold_0 : decode cX2_pointersHold 0 = .ok (.iconst 0, 1) := by decide +kernel
theorem dX2_pointersHold_1 : decode cX2_pointersHold 1 = .ok (.istore_n 1, 1) := by decide +kernel
theorem dX2_pointersHold_2 : decode cX2_pointersHold 2 = .ok (.iload_n 1, 1) := by decide +kernel
theorem dX2_pointersHold_3 : decode cX2_pointersHold 3 = .ok (.aload_n 0, 1) := by decide +kernel
theorem dX2_pointersHold_4 : decode cX2_pointersHold 4 = .ok (.getfield 12, 3) := by decide +kernel
theorem dX2_pointersHold_7 : decode cX2_pointersHold 7 = .ok (.getfield 59, 3) := by decide +kernel
theorem dX2_pointersHold_10 : decode cX2_pointersHold 10 = .ok (.if_icmp .ge 122, 3) := by decide +kernel
theorem dX2_pointersHold_13 : decode cX2_pointersHold 13 = .ok (.aload_n 0, 1) := by decide +kernel
theorem dX2_pointersHold_14 : decode cX2_pointersHold 14 = .ok (.iload_n 1, 1) := by decide +kernel
theorem dX2_pointersHold_15 : decode cX2_pointersHold 15 = .ok (.invokevirtual 129, 3) := by decide +kernel
theorem dX2_pointersHold_18 : decode cX2_pointersHold 18 = .ok (.aload_n 0, 1) := by decide +kernel
theorem dX2_pointersHold_19 : decode cX2_pointersHold 19 = .ok (.invokevirtual 195, 3) := by decide +kernel
theorem dX2_pointersHold_22 : decode cX2_pointersHold 22 = .ok (.iconst 0, 1) := by decide +kernel
theorem dX2_pointersHold_23 : decode cX2_pointersHold 23 = .ok (.istore_n 2, 1) := by decide +kernel
theorem dX2_pointersHold_24 : decode cX2_pointersHold 24 = .ok (.iload_n 2, 1) := by decide +kernel
theorem dX2_pointersHold_25 : decode cX2_pointersHold 25 = .ok (.aload_n 0, 1) := by decide +kernel
theorem dX2_pointersHold_26 : decode cX2_pointersHold 26 = .ok (.getfield 117, 3) := by decide +kernel
theorem dX2_pointersHold_29 : decode cX2_pointersHold 29 = .ok (.if_icmp .ge 46, 3) := by decide +kernel
theorem dX2_pointersHold_32 : decode cX2_pointersHold 32 = .ok (.aload_n 0, 1) := by decide +kernel
theorem dX2_pointersHold_33 : decode cX2_pointersHold 33 = .ok (.iload_n 2, 1) := by decide +kernel
theorem dX2_pointersHold_34 : decode cX2_pointersHold 34 = .ok (.invokevirtual 198, 3) := by decide +kernel
theorem dX2_pointersHold_37 : decode cX2_pointersHold 37 = .ok (.aload_n 0, 1) := by decide +kernel
theorem dX2_pointersHold_38 : decode cX2_pointersHold 38 = .ok (.invokevirtual 201, 3) := by decide +kernel
theorem dX2_pointersHold_41 : decode cX2_pointersHold 41 = .ok (.ifCond .ne 19, 3) := by decide +kernel
theorem dX2_pointersHold_44 : decode cX2_pointersHold 44 = .ok (.aload_n 0, 1) := by decide +kernel
theorem dX2_pointersHold_45 : decode cX2_pointersHold 45 = .ok (.getfield 12, 3) := by decide +kernel
theorem dX2_pointersHold_48 : decode cX2_pointersHold 48 = .ok (.bipush 16, 2) := by decide +kernel
theorem dX2_pointersHold_50 : decode cX2_pointersHold 50 = .ok (.aload_n 0, 1) := by decide +kernel
theorem dX2_pointersHold_51 : decode cX2_pointersHold 51 = .ok (.getfield 120, 3) := by decide +kernel
theorem dX2_pointersHold_54 : decode cX2_pointersHold 54 = .ok (.iload_n 2, 1) := by decide +kernel
theorem dX2_pointersHold_55 : decode cX2_pointersHold 55 = .ok (.iadd, 1) := by decide +kernel
theorem dX2_pointersHold_56 : decode cX2_pointersHold 56 = .ok (.invokevirtual 86, 3) := by decide +kernel
theorem dX2_pointersHold_59 : decode cX2_pointersHold 59 = .ok (.ireturn, 1) := by decide +kernel
theorem dX2_pointersHold_60 : decode cX2_pointersHold 60 = .ok (.iload_n 2, 1) := by decide +kernel
theorem dX2_pointersHold_61 : decode cX2_pointersHold 61 = .ok (.iconst 1, 1) := by decide +kernel
theorem dX2_pointersHold_62 : decode cX2_pointersHold 62 = .ok (.aload_n 0, 1) := by decide +kernel
theorem dX2_pointersHold_63 : decode cX2_pointersHold 63 = .ok (.iload_n 2, 1) := by decide +kernel
theorem dX2_pointersHold_64 : decode cX2_pointersHold 64 = .ok (.invokevirtual 133, 3) := by decide +kernel
theorem dX2_pointersHold_67 : decode cX2_pointersHold 67 = .ok (.invokestatic 204, 3) := by decide +kernel
theorem dX2_pointersHold_70 : decode cX2_pointersHold 70 = .ok (.iadd, 1) := by decide +kernel
theorem dX2_pointersHold_71 : decode cX2_pointersHold 71 = .ok (.istore_n 2, 1) := by decide +kernel
theorem dX2_pointersHold_72 : decode cX2_pointersHold 72 = .ok (.goto (-48), 3) := by decide +kernel
theorem dX2_pointersHold_75 : decode cX2_pointersHold 75 = .ok (.iconst 0, 1) := by decide +kernel
theorem dX2_pointersHold_76 : decode cX2_pointersHold 76 = .ok (.istore_n 2, 1) := by decide +kernel
theorem dX2_pointersHold_77 : decode cX2_pointersHold 77 = .ok (.iload_n 2, 1) := by decide +kernel
theorem dX2_pointersHold_78 : decode cX2_pointersHold 78 = .ok (.aload_n 0, 1) := by decide +kernel
theorem dX2_pointersHold_79 : decode cX2_pointersHold 79 = .ok (.getfield 126, 3) := by decide +kernel
theorem dX2_pointersHold_82 : decode cX2_pointersHold 82 = .ok (.if_icmp .ge 44, 3) := by decide +kernel
theorem dX2_pointersHold_85 : decode cX2_pointersHold 85 = .ok (.aload_n 0, 1) := by decide +kernel
theorem dX2_pointersHold_86 : decode cX2_pointersHold 86 = .ok (.aload_n 0, 1) := by decide +kernel
theorem dX2_pointersHold_87 : decode cX2_pointersHold 87 = .ok (.getfield 123, 3) := by decide +kernel
theorem dX2_pointersHold_90 : decode cX2_pointersHold 90 = .ok (.bipush 8, 2) := by decide +kernel
theorem dX2_pointersHold_92 : decode cX2_pointersHold 92 = .ok (.iload_n 2, 1) := by decide +kernel
theorem dX2_pointersHold_93 : decode cX2_pointersHold 93 = .ok (.imul, 1) := by decide +kernel
theorem dX2_pointersHold_94 : decode cX2_pointersHold 94 = .ok (.iadd, 1) := by decide +kernel
theorem dX2_pointersHold_95 : decode cX2_pointersHold 95 = .ok (.invokevirtual 207, 3) := by decide +kernel
theorem dX2_pointersHold_98 : decode cX2_pointersHold 98 = .ok (.ifCond .ne 22, 3) := by decide +kernel
theorem dX2_pointersHold_101 : decode cX2_pointersHold 101 = .ok (.aload_n 0, 1) := by decide +kernel
theorem dX2_pointersHold_102 : decode cX2_pointersHold 102 = .ok (.getfield 12, 3) := by decide +kernel
theorem dX2_pointersHold_105 : decode cX2_pointersHold 105 = .ok (.bipush 16, 2) := by decide +kernel
theorem dX2_pointersHold_107 : decode cX2_pointersHold 107 = .ok (.aload_n 0, 1) := by decide +kernel
theorem dX2_pointersHold_108 : decode cX2_pointersHold 108 = .ok (.getfield 123, 3) := by decide +kernel
theorem dX2_pointersHold_111 : decode cX2_pointersHold 111 = .ok (.bipush 8, 2) := by decide +kernel
theorem dX2_pointersHold_113 : decode cX2_pointersHold 113 = .ok (.iload_n 2, 1) := by decide +kernel
theorem dX2_pointersHold_114 : decode cX2_pointersHold 114 = .ok (.imul, 1) := by decide +kernel
theorem dX2_pointersHold_115 : decode cX2_pointersHold 115 = .ok (.iadd, 1) := by decide +kernel
theorem dX2_pointersHold_116 : decode cX2_pointersHold 116 = .ok (.invokevirtual 86, 3) := by decide +kernel
theorem dX2_pointersHold_119 : decode cX2_pointersHold 119 = .ok (.ireturn, 1) := by decide +kernel
theorem dX2_pointersHold_120 : decode cX2_pointersHold 120 = .ok (.iinc 2 1, 3) := by decide +kernel
theorem dX2_pointersHold_123 : decode cX2_pointersHold 123 = .ok (.goto (-46), 3) := by decide +kernel
theorem dX2_pointersHold_126 : decode cX2_pointersHold 126 = .ok (.iinc 1 1, 3) := by decide +kernel
theorem dX2_pointersHold_129 : decode cX2_pointersHold 129 = .ok (.goto (-127), 3) := by decide +kernel
theorem dX2_pointersHold_132 : decode cX2_pointersHold 132 = .ok (.iconst 1, 1) := by decide +kernel
theorem dX2_pointersHold_133 : decode cX2_pointersHold 133 = .ok (.ireturn, 1) := by decide +kernel
theorem dX2_pointsWell_0 : decode cX2_pointsWell 0 = .ok (.aload_n 0, 1) := by decide +kernel
theorem dX2_pointsWell_1 : decode cX2_pointsWell 1 = .ok (.getfield 169, 3) := by decide +kernel
theorem dX2_pointsWell_4 : decode cX2_pointsWell 4 = .ok (.invokestatic 181, 3) := by decide +kernel
theorem dX2_pointsWell_7 : decode cX2_pointsWell 7 = .ok (.ifCond .eq 12, 3) := by decide +kernel
theorem dX2_pointsWell_10 : decode cX2_pointsWell 10 = .ok (.aload_n 0, 1) := by decide +kernel
theorem dX2_pointsWell_11 : decode cX2_pointsWell 11 = .ok (.aload_n 0, 1) := by decide +kernel
theorem dX2_pointsWell_12 : decode cX2_pointsWell 12 = .ok (.getfield 172, 3) := by decide +kernel
theorem dX2_pointsWell_15 : decode cX2_pointsWell 15 = .ok (.invokevirtual 221, 3) := by decide +kernel
theorem dX2_pointsWell_18 : decode cX2_pointsWell 18 = .ok (.ireturn, 1) := by decide +kernel
theorem dX2_pointsWell_19 : decode cX2_pointsWell 19 = .ok (.aload_n 0, 1) := by decide +kernel
theorem dX2_pointsWell_20 : decode cX2_pointsWell 20 = .ok (.getfield 169, 3) := by decide +kernel
theorem dX2_pointsWell_23 : decode cX2_pointsWell 23 = .ok (.invokestatic 184, 3) := by decide +kernel
theorem dX2_pointsWell_26 : decode cX2_pointsWell 26 = .ok (.ifCond .eq 8, 3) := by decide +kernel
theorem dX2_pointsWell_29 : decode cX2_pointsWell 29 = .ok (.aload_n 0, 1) := by decide +kernel
theorem dX2_pointsWell_30 : decode cX2_pointsWell 30 = .ok (.invokevirtual 225, 3) := by decide +kernel
theorem dX2_pointsWell_33 : decode cX2_pointsWell 33 = .ok (.ireturn, 1) := by decide +kernel
theorem dX2_pointsWell_34 : decode cX2_pointsWell 34 = .ok (.aload_n 0, 1) := by decide +kernel
theorem dX2_pointsWell_35 : decode cX2_pointsWell 35 = .ok (.getfield 169, 3) := by decide +kernel
theorem dX2_pointsWell_38 : decode cX2_pointsWell 38 = .ok (.invokestatic 192, 3) := by decide +kernel
theorem dX2_pointsWell_41 : decode cX2_pointsWell 41 = .ok (.ifCond .eq 33, 3) := by decide +kernel
theorem dX2_pointsWell_44 : decode cX2_pointsWell 44 = .ok (.aload_n 0, 1) := by decide +kernel
theorem dX2_pointsWell_45 : decode cX2_pointsWell 45 = .ok (.getfield 172, 3) := by decide +kernel
theorem dX2_pointsWell_48 : decode cX2_pointsWell 48 = .ok (.l2i, 1) := by decide +kernel
theorem dX2_pointsWell_49 : decode cX2_pointsWell 49 = .ok (.sipush 255, 3) := by decide +kernel
theorem dX2_pointsWell_52 : decode cX2_pointsWell 52 = .ok (.iand, 1) := by decide +kernel
theorem dX2_pointsWell_53 : decode cX2_pointsWell 53 = .ok (.aload_n 0, 1) := by decide +kernel
theorem dX2_pointsWell_54 : decode cX2_pointsWell 54 = .ok (.getfield 169, 3) := by decide +kernel
theorem dX2_pointsWell_57 : decode cX2_pointsWell 57 = .ok (.invokestatic 228, 3) := by decide +kernel
theorem dX2_pointsWell_60 : decode cX2_pointsWell 60 = .ok (.iadd, 1) := by decide +kernel
theorem dX2_pointsWell_61 : decode cX2_pointsWell 61 = .ok (.aload_n 0, 1) := by decide +kernel
theorem dX2_pointsWell_62 : decode cX2_pointsWell 62 = .ok (.getfield 108, 3) := by decide +kernel
theorem dX2_pointsWell_65 : decode cX2_pointsWell 65 = .ok (.if_icmp .gt 7, 3) := by decide +kernel
theorem dX2_pointsWell_68 : decode cX2_pointsWell 68 = .ok (.iconst 1, 1) := by decide +kernel
theorem dX2_pointsWell_69 : decode cX2_pointsWell 69 = .ok (.goto 4, 3) := by decide +kernel
theorem dX2_pointsWell_72 : decode cX2_pointsWell 72 = .ok (.iconst 0, 1) := by decide +kernel
theorem dX2_pointsWell_73 : decode cX2_pointsWell 73 = .ok (.ireturn, 1) := by decide +kernel
theorem dX2_pointsWell_74 : decode cX2_pointsWell 74 = .ok (.aload_n 0, 1) := by decide +kernel
theorem dX2_pointsWell_75 : decode cX2_pointsWell 75 = .ok (.getfield 169, 3) := by decide +kernel
theorem dX2_pointsWell_78 : decode cX2_pointsWell 78 = .ok (.lookupswitch 134 #[(19, 50), (20, 72), (178, 94), (179, 94), (184, 114)], 50) := by decide +kernel
theorem dX2_pointsWell_128 : decode cX2_pointsWell 128 = .ok (.aload_n 0, 1) := by decide +kernel
theorem dX2_pointsWell_129 : decode cX2_pointsWell 129 = .ok (.getfield 12, 3) := by decide +kernel
theorem dX2_pointsWell_132 : decode cX2_pointsWell 132 = .ok (.aload_n 0, 1) := by decide +kernel
theorem dX2_pointsWell_133 : decode cX2_pointsWell 133 = .ok (.getfield 172, 3) := by decide +kernel
theorem dX2_pointsWell_136 : decode cX2_pointsWell 136 = .ok (.l2i, 1) := by decide +kernel
theorem dX2_pointsWell_137 : decode cX2_pointsWell 137 = .ok (.invokevirtual 231, 3) := by decide +kernel
theorem dX2_pointsWell_140 : decode cX2_pointsWell 140 = .ok (.iconst 3, 1) := by decide +kernel
theorem dX2_pointsWell_141 : decode cX2_pointsWell 141 = .ok (.if_icmp .ne 7, 3) := by decide +kernel
theorem dX2_pointsWell_144 : decode cX2_pointsWell 144 = .ok (.iconst 1, 1) := by decide +kernel
theorem dX2_pointsWell_145 : decode cX2_pointsWell 145 = .ok (.goto 4, 3) := by decide +kernel
theorem dX2_pointsWell_148 : decode cX2_pointsWell 148 = .ok (.iconst 0, 1) := by decide +kernel
theorem dX2_pointsWell_149 : decode cX2_pointsWell 149 = .ok (.ireturn, 1) := by decide +kernel
theorem dX2_pointsWell_150 : decode cX2_pointsWell 150 = .ok (.aload_n 0, 1) := by decide +kernel
theorem dX2_pointsWell_151 : decode cX2_pointsWell 151 = .ok (.getfield 12, 3) := by decide +kernel
theorem dX2_pointsWell_154 : decode cX2_pointsWell 154 = .ok (.aload_n 0, 1) := by decide +kernel
theorem dX2_pointsWell_155 : decode cX2_pointsWell 155 = .ok (.getfield 172, 3) := by decide +kernel

theorem dX2_numberInstructions_1 : decode cX2_numberInstructions 1 = .ok (.getfield 18, 3) := by decide +kernel
theorem dX2_numberInstructions_4 : decode cX2_numberInstructions 4 = .ok (.iconst (-1), 1) := by decide +kernel
theorem dX2_numberInstructions_5 : decode cX2_numberInstructions 5 = .ok (.invokestatic 210, 3) := by decide +kernel
theorem dX2_numberInstructions_8 : decode cX2_numberInstructions 8 = .ok (.aload_n 0, 1) := by decide +kernel
theorem dX2_numberInstructions_9 : decode cX2_numberInstructions 9 = .ok (.iconst 0, 1) := by decide +kernel
theorem dX2_numberInstructions_10 : decode cX2_numberInstructions 10 = .ok (.putfield 216, 3) := by decide +kernel
theorem dX2_numberInstructions_13 : decode cX2_numberInstructions 13 = .ok (.iconst 0, 1) := by decide +kernel
theorem dX2_numberInstructions_14 : decode cX2_numberInstructions 14 = .ok (.istore_n 1, 1) := by decide +kernel
theorem dX2_numberInstructions_15 : decode cX2_numberInstructions 15 = .ok (.iload_n 1, 1) := by decide +kernel
theorem dX2_numberInstructions_16 : decode cX2_numberInstructions 16 = .ok (.aload_n 0, 1) := by decide +kernel
theorem dX2_numberInstructions_17 : decode cX2_numberInstructions 17 = .ok (.getfield 117, 3) := by decide +kernel
theorem dX2_numberInstructions_20 : decode cX2_numberInstructions 20 = .ok (.if_icmp .ge 47, 3) := by decide +kernel
theorem dX2_numberInstructions_23 : decode cX2_numberInstructions 23 = .ok (.iload_n 1, 1) := by decide +kernel
theorem dX2_numberInstructions_24 : decode cX2_numberInstructions 24 = .ok (.aload_n 0, 1) := by decide +kernel
theorem dX2_numberInstructions_25 : decode cX2_numberInstructions 25 = .ok (.getfield 18, 3) := by decide +kernel
theorem dX2_numberInstructions_28 : decode cX2_numberInstructions 28 = .ok (.arraylength, 1) := by decide +kernel
theorem dX2_numberInstructions_29 : decode cX2_numberInstructions 29 = .ok (.if_icmp .ge 38, 3) := by decide +kernel
theorem dX2_numberInstructions_32 : decode cX2_numberInstructions 32 = .ok (.aload_n 0, 1) := by decide +kernel
theorem dX2_numberInstructions_33 : decode cX2_numberInstructions 33 = .ok (.getfield 18, 3) := by decide +kernel
theorem dX2_numberInstructions_36 : decode cX2_numberInstructions 36 = .ok (.iload_n 1, 1) := by decide +kernel
theorem dX2_numberInstructions_37 : decode cX2_numberInstructions 37 = .ok (.aload_n 0, 1) := by decide +kernel
theorem dX2_numberInstructions_38 : decode cX2_numberInstructions 38 = .ok (.getfield 216, 3) := by decide +kernel
theorem dX2_numberInstructions_41 : decode cX2_numberInstructions 41 = .ok (.iastore, 1) := by decide +kernel
theorem dX2_numberInstructions_42 : decode cX2_numberInstructions 42 = .ok (.aload_n 0, 1) := by decide +kernel
theorem dX2_numberInstructions_43 : decode cX2_numberInstructions 43 = .ok (.dup, 1) := by decide +kernel
theorem dX2_numberInstructions_44 : decode cX2_numberInstructions 44 = .ok (.getfield 216, 3) := by decide +kernel
theorem dX2_numberInstructions_47 : decode cX2_numberInstructions 47 = .ok (.iconst 1, 1) := by decide +kernel
theorem dX2_numberInstructions_48 : decode cX2_numberInstructions 48 = .ok (.iadd, 1) := by decide +kernel
theorem dX2_numberInstructions_49 : decode cX2_numberInstructions 49 = .ok (.putfield 216, 3) := by decide +kernel
theorem dX2_numberInstructions_52 : decode cX2_numberInstructions 52 = .ok (.iload_n 1, 1) := by decide +kernel
theorem dX2_numberInstructions_53 : decode cX2_numberInstructions 53 = .ok (.iconst 1, 1) := by decide +kernel
theorem dX2_numberInstructions_54 : decode cX2_numberInstructions 54 = .ok (.aload_n 0, 1) := by decide +kernel
theorem dX2_numberInstructions_55 : decode cX2_numberInstructions 55 = .ok (.iload_n 1, 1) := by decide +kernel
theorem dX2_numberInstructions_56 : decode cX2_numberInstructions 56 = .ok (.invokevirtual 133, 3) := by decide +kernel
theorem dX2_numberInstructions_59 : decode cX2_numberInstructions 59 = .ok (.invokestatic 204, 3) := by decide +kernel
theorem dX2_numberInstructions_62 : decode cX2_numberInstructions 62 = .ok (.iadd, 1) := by decide +kernel
theorem dX2_numberInstructions_63 : decode cX2_numberInstructions 63 = .ok (.istore_n 1, 1) := by decide +kernel
theorem dX2_numberInstructions_64 : decode cX2_numberInstructions 64 = .ok (.goto (-49), 3) := by decide +kernel
theorem dX2_numberInstructions_67 : decode cX2_numberInstructions 67 = .ok (.aload_n 0, 1) := by decide +kernel
theorem dX2_numberInstructions_68 : decode cX2_numberInstructions 68 = .ok (.getfield 117, 3) := by decide +kernel
theorem dX2_numberInstructions_71 : decode cX2_numberInstructions 71 = .ok (.ifCond .lt 28, 3) := by decide +kernel
theorem dX2_numberInstructions_74 : decode cX2_numberInstructions 74 = .ok (.aload_n 0, 1) := by decide +kernel
theorem dX2_numberInstructions_75 : decode cX2_numberInstructions 75 = .ok (.getfield 117, 3) := by decide +kernel
theorem dX2_numberInstructions_78 : decode cX2_numberInstructions 78 = .ok (.aload_n 0, 1) := by decide +kernel
theorem dX2_numberInstructions_79 : decode cX2_numberInstructions 79 = .ok (.getfield 18, 3) := by decide +kernel
theorem dX2_numberInstructions_82 : decode cX2_numberInstructions 82 = .ok (.arraylength, 1) := by decide +kernel
theorem dX2_numberInstructions_83 : decode cX2_numberInstructions 83 = .ok (.if_icmp .ge 16, 3) := by decide +kernel
theorem dX2_numberInstructions_86 : decode cX2_numberInstructions 86 = .ok (.aload_n 0, 1) := by decide +kernel
theorem dX2_numberInstructions_87 : decode cX2_numberInstructions 87 = .ok (.getfield 18, 3) := by decide +kernel
theorem dX2_numberInstructions_90 : decode cX2_numberInstructions 90 = .ok (.aload_n 0, 1) := by decide +kernel
theorem dX2_numberInstructions_91 : decode cX2_numberInstructions 91 = .ok (.getfield 117, 3) := by decide +kernel
theorem dX2_numberInstructions_94 : decode cX2_numberInstructions 94 = .ok (.aload_n 0, 1) := by decide +kernel
theorem dX2_numberInstructions_95 : decode cX2_numberInstructions 95 = .ok (.getfield 216, 3) := by decide +kernel
theorem dX2_numberInstructions_98 : decode cX2_numberInstructions 98 = .ok (.iastore, 1) := by decide +kernel
theorem dX2_numberInstructions_99 : decode cX2_numberInstructions 99 = .ok (.return_, 1) := by decide +kernel
theorem dX2_numberOf_0 : decode cX2_numberOf 0 = .ok (.lload_n 1, 1) := by decide +kernel
theorem dX2_numberOf_1 : decode cX2_numberOf 1 = .ok (.lconst 0, 1) := by decide +kernel
theorem dX2_numberOf_2 : decode cX2_numberOf 2 = .ok (.lcmp, 1) := by decide +kernel
theorem dX2_numberOf_3 : decode cX2_numberOf 3 = .ok (.ifCond .lt 24, 3) := by decide +kernel
theorem dX2_numberOf_6 : decode cX2_numberOf 6 = .ok (.lload_n 1, 1) := by decide +kernel
theorem dX2_numberOf_7 : decode cX2_numberOf 7 = .ok (.aload_n 0, 1) := by decide +kernel
theorem dX2_numberOf_8 : decode cX2_numberOf 8 = .ok (.getfield 117, 3) := by decide +kernel
theorem dX2_numberOf_11 : decode cX2_numberOf 11 = .ok (.i2l, 1) := by decide +kernel
theorem dX2_numberOf_12 : decode cX2_numberOf 12 = .ok (.lcmp, 1) := by decide +kernel
theorem dX2_numberOf_13 : decode cX2_numberOf 13 = .ok (.ifCond .gt 14, 3) := by decide +kernel
theorem dX2_numberOf_16 : decode cX2_numberOf 16 = .ok (.lload_n 1, 1) := by decide +kernel
theorem dX2_numberOf_17 : decode cX2_numberOf 17 = .ok (.aload_n 0, 1) := by decide +kernel
theorem dX2_numberOf_18 : decode cX2_numberOf 18 = .ok (.getfield 18, 3) := by decide +kernel
theorem dX2_numberOf_21 : decode cX2_numberOf 21 = .ok (.arraylength, 1) := by decide +kernel
theorem dX2_numberOf_22 : decode cX2_numberOf 22 = .ok (.i2l, 1) := by decide +kernel
theorem dX2_numberOf_23 : decode cX2_numberOf 23 = .ok (.lcmp, 1) := by decide +kernel
theorem dX2_numberOf_24 : decode cX2_numberOf 24 = .ok (.ifCond .lt 7, 3) := by decide +kernel
theorem dX2_numberOf_27 : decode cX2_numberOf 27 = .ok (.iconst (-1), 1) := by decide +kernel
theorem dX2_numberOf_28 : decode cX2_numberOf 28 = .ok (.goto 10, 3) := by decide +kernel
theorem dX2_numberOf_31 : decode cX2_numberOf 31 = .ok (.aload_n 0, 1) := by decide +kernel
theorem dX2_numberOf_32 : decode cX2_numberOf 32 = .ok (.getfield 18, 3) := by decide +kernel
theorem dX2_numberOf_35 : decode cX2_numberOf 35 = .ok (.lload_n 1, 1) := by decide +kernel
theorem dX2_numberOf_36 : decode cX2_numberOf 36 = .ok (.l2i, 1) := by decide +kernel
theorem dX2_numberOf_37 : decode cX2_numberOf 37 = .ok (.iaload, 1) := by decide +kernel
theorem dX2_numberOf_38 : decode cX2_numberOf 38 = .ok (.ireturn, 1) := by decide +kernel
theorem dX2_numbersOf_0 : decode cX2_numbersOf 0 = .ok (.iload_n 0, 1) := by decide +kernel
theorem dX2_numbersOf_1 : decode cX2_numbersOf 1 = .ok (.iconst 4, 1) := by decide +kernel
theorem dX2_numbersOf_2 : decode cX2_numbersOf 2 = .ok (.iadd, 1) := by decide +kernel
theorem dX2_numbersOf_3 : decode cX2_numbersOf 3 = .ok (.bipush (-4), 2) := by decide +kernel
theorem dX2_numbersOf_5 : decode cX2_numbersOf 5 = .ok (.iand, 1) := by decide +kernel
theorem dX2_numbersOf_6 : decode cX2_numbersOf 6 = .ok (.ireturn, 1) := by decide +kernel
theorem dX2_pointersHold_0 : decode cX2_pointersHold 0 = .ok (.iconst 0, 1) := by decide +kernel
theorem dX2_pointersHold_1 : decode cX2_pointersHold 1 = .ok (.istore_n 1, 1) := by decide +kernel
theorem dX2_pointersHold_2 : decode cX2_pointersHold 2 = .ok (.iload_n 1, 1) := by decide +kernel
theorem dX2_pointersHold_3 : decode cX2_pointersHold 3 = .ok (.aload_n 0, 1) := by decide +kernel
theorem dX2_pointersHold_4 : decode cX2_pointersHold 4 = .ok (.getfield 12, 3) := by decide +kernel
theorem dX2_pointersHold_7 : decode cX2_pointersHold 7 = .ok (.getfield 59, 3) := by decide +kernel
theorem dX2_pointersHold_10 : decode cX2_pointersHold 10 = .ok (.if_icmp .ge 122, 3) := by decide +kernel
theorem dX2_pointersHold_13 : decode cX2_pointersHold 13 = .ok (.aload_n 0, 1) := by decide +kernel
theorem dX2_pointersHold_14 : decode cX2_pointersHold 14 = .ok (.iload_n 1, 1) := by decide +kernel
theorem dX2_pointersHold_15 : decode cX2_pointersHold 15 = .ok (.invokevirtual 129, 3) := by decide +kernel
theorem dX2_pointersHold_18 : decode cX2_pointersHold 18 = .ok (.aload_n 0, 1) := by decide +kernel
theorem dX2_pointersHold_19 : decode cX2_pointersHold 19 = .ok (.invokevirtual 195, 3) := by decide +kernel
theorem dX2_pointersHold_22 : decode cX2_pointersHold 22 = .ok (.iconst 0, 1) := by decide +kernel
theorem dX2_pointersHold_23 : decode cX2_pointersHold 23 = .ok (.istore_n 2, 1) := by decide +kernel
theorem dX2_pointersHold_24 : decode cX2_pointersHold 24 = .ok (.iload_n 2, 1) := by decide +kernel
theorem dX2_pointersHold_25 : decode cX2_pointersHold 25 = .ok (.aload_n 0, 1) := by decide +kernel
theorem dX2_pointersHold_26 : decode cX2_pointersHold 26 = .ok (.getfield 117, 3) := by decide +kernel
theorem dX2_pointersHold_29 : decode cX2_pointersHold 29 = .ok (.if_icmp .ge 46, 3) := by decide +kernel
theorem dX2_pointersHold_32 : decode cX2_pointersHold 32 = .ok (.aload_n 0, 1) := by decide +kernel
theorem dX2_pointersHold_33 : decode cX2_pointersHold 33 = .ok (.iload_n 2, 1) := by decide +kernel
theorem dX2_pointersHold_34 : decode cX2_pointersHold 34 = .ok (.invokevirtual 198, 3) := by decide +kernel
theorem dX2_pointersHold_37 : decode cX2_pointersHold 37 = .ok (.aload_n 0, 1) := by decide +kernel
theorem dX2_pointersHold_38 : decode cX2_pointersHold 38 = .ok (.invokevirtual 201, 3) := by decide +kernel
theorem dX2_pointersHold_41 : decode cX2_pointersHold 41 = .ok (.ifCond .ne 19, 3) := by decide +kernel
theorem dX2_pointersHold_44 : decode cX2_pointersHold 44 = .ok (.aload_n 0, 1) := by decide +kernel
theorem dX2_pointersHold_45 : decode cX2_pointersHold 45 = .ok (.getfield 12, 3) := by decide +kernel
theorem dX2_pointersHold_48 : decode cX2_pointersHold 48 = .ok (.bipush 16, 2) := by decide +kernel
theorem dX2_pointersHold_50 : decode cX2_pointersHold 50 = .ok (.aload_n 0, 1) := by decide +kernel
theorem dX2_pointersHold_51 : decode cX2_pointersHold 51 = .ok (.getfield 120, 3) := by decide +kernel
theorem dX2_pointersHold_54 : decode cX2_pointersHold 54 = .ok (.iload_n 2, 1) := by decide +kernel
theorem dX2_pointersHold_55 : decode cX2_pointersHold 55 = .ok (.iadd, 1) := by decide +kernel
theorem dX2_pointersHold_56 : decode cX2_pointersHold 56 = .ok (.invokevirtual 86, 3) := by decide +kernel
theorem dX2_pointersHold_59 : decode cX2_pointersHold 59 = .ok (.ireturn, 1) := by decide +kernel
theorem dX2_pointersHold_60 : decode cX2_pointersHold 60 = .ok (.iload_n 2, 1) := by decide +kernel
theorem dX2_pointersHold_61 : decode cX2_pointersHold 61 = .ok (.iconst 1, 1) := by decide +kernel
theorem dX2_pointersHold_62 : decode cX2_pointersHold 62 = .ok (.aload_n 0, 1) := by decide +kernel
theorem dX2_pointersHold_63 : decode cX2_pointersHold 63 = .ok (.iload_n 2, 1) := by decide +kernel
theorem dX2_pointersHold_64 : decode cX2_pointersHold 64 = .ok (.invokevirtual 133, 3) := by decide +kernel
theorem dX2_pointersHold_67 : decode cX2_pointersHold 67 = .ok (.invokestatic 204, 3) := by decide +kernel
theorem dX2_pointersHold_70 : decode cX2_pointersHold 70 = .ok (.iadd, 1) := by decide +kernel
theorem dX2_pointersHold_71 : decode cX2_pointersHold 71 = .ok (.istore_n 2, 1) := by decide +kernel
theorem dX2_pointersHold_72 : decode cX2_pointersHold 72 = .ok (.goto (-48), 3) := by decide +kernel
theorem dX2_pointersHold_75 : decode cX2_pointersHold 75 = .ok (.iconst 0, 1) := by decide +kernel
theorem dX2_pointersHold_76 : decode cX2_pointersHold 76 = .ok (.istore_n 2, 1) := by decide +kernel
theorem dX2_pointersHold_77 : decode cX2_pointersHold 77 = .ok (.iload_n 2, 1) := by decide +kernel
theorem dX2_pointersHold_78 : decode cX2_pointersHold 78 = .ok (.aload_n 0, 1) := by decide +kernel
theorem dX2_pointersHold_79 : decode cX2_pointersHold 79 = .ok (.getfield 126, 3) := by decide +kernel
theorem dX2_pointersHold_82 : decode cX2_pointersHold 82 = .ok (.if_icmp .ge 44, 3) := by decide +kernel
theorem dX2_pointersHold_85 : decode cX2_pointersHold 85 = .ok (.aload_n 0, 1) := by decide +kernel
theorem dX2_pointersHold_86 : decode cX2_pointersHold 86 = .ok (.aload_n 0, 1) := by decide +kernel
theorem dX2_pointersHold_87 : decode cX2_pointersHold 87 = .ok (.getfield 123, 3) := by decide +kernel
theorem dX2_pointersHold_90 : decode cX2_pointersHold 90 = .ok (.bipush 8, 2) := by decide +kernel
theorem dX2_pointersHold_92 : decode cX2_pointersHold 92 = .ok (.iload_n 2, 1) := by decide +kernel
theorem dX2_pointersHold_93 : decode cX2_pointersHold 93 = .ok (.imul, 1) := by decide +kernel
theorem dX2_pointersHold_94 : decode cX2_pointersHold 94 = .ok (.iadd, 1) := by decide +kernel
theorem dX2_pointersHold_95 : decode cX2_pointersHold 95 = .ok (.invokevirtual 207, 3) := by decide +kernel
theorem dX2_pointersHold_98 : decode cX2_pointersHold 98 = .ok (.ifCond .ne 22, 3) := by decide +kernel
theorem dX2_pointersHold_101 : decode cX2_pointersHold 101 = .ok (.aload_n 0, 1) := by decide +kernel
theorem dX2_pointersHold_102 : decode cX2_pointersHold 102 = .ok (.getfield 12, 3) := by decide +kernel
theorem dX2_pointersHold_105 : decode cX2_pointersHold 105 = .ok (.bipush 16, 2) := by decide +kernel
theorem dX2_pointersHold_107 : decode cX2_pointersHold 107 = .ok (.aload_n 0, 1) := by decide +kernel
theorem dX2_pointersHold_108 : decode cX2_pointersHold 108 = .ok (.getfield 123, 3) := by decide +kernel
theorem dX2_pointersHold_111 : decode cX2_pointersHold 111 = .ok (.bipush 8, 2) := by decide +kernel
theorem dX2_pointersHold_113 : decode cX2_pointersHold 113 = .ok (.iload_n 2, 1) := by decide +kernel

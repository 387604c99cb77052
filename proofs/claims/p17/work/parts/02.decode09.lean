theorem dX11_isWanted_65 : decode cX11_isWanted 65 = .ok (.getfield 143, 3) := by decide +kernel
theorem dX11_isWanted_68 : decode cX11_isWanted 68 = .ok (.arraylength, 1) := by decide +kernel
theorem dX11_isWanted_69 : decode cX11_isWanted 69 = .ok (.if_icmp .ge 36, 3) := by decide +kernel
theorem dX11_isWanted_72 : decode cX11_isWanted 72 = .ok (.aload_n 0, 1) := by decide +kernel
theorem dX11_isWanted_73 : decode cX11_isWanted 73 = .ok (.getfield 12, 3) := by decide +kernel
theorem dX11_isWanted_76 : decode cX11_isWanted 76 = .ok (.getfield 143, 3) := by decide +kernel
theorem dX11_isWanted_79 : decode cX11_isWanted 79 = .ok (.iload_n 2, 1) := by decide +kernel
theorem dX11_isWanted_80 : decode cX11_isWanted 80 = .ok (.iload 4, 2) := by decide +kernel
theorem dX11_isWanted_82 : decode cX11_isWanted 82 = .ok (.iadd, 1) := by decide +kernel
theorem dX11_isWanted_83 : decode cX11_isWanted 83 = .ok (.baload, 1) := by decide +kernel
theorem dX11_isWanted_84 : decode cX11_isWanted 84 = .ok (.aload_n 0, 1) := by decide +kernel
theorem dX11_isWanted_85 : decode cX11_isWanted 85 = .ok (.getfield 21, 3) := by decide +kernel
theorem dX11_isWanted_88 : decode cX11_isWanted 88 = .ok (.getfield 143, 3) := by decide +kernel
theorem dX11_isWanted_91 : decode cX11_isWanted 91 = .ok (.iload 4, 2) := by decide +kernel
theorem dX11_isWanted_93 : decode cX11_isWanted 93 = .ok (.baload, 1) := by decide +kernel
theorem dX11_isWanted_94 : decode cX11_isWanted 94 = .ok (.if_icmp .eq 5, 3) := by decide +kernel
theorem dX11_isWanted_97 : decode cX11_isWanted 97 = .ok (.iconst 0, 1) := by decide +kernel
theorem dX11_isWanted_98 : decode cX11_isWanted 98 = .ok (.ireturn, 1) := by decide +kernel
theorem dX11_isWanted_99 : decode cX11_isWanted 99 = .ok (.iinc 4 1, 3) := by decide +kernel
theorem dX11_isWanted_102 : decode cX11_isWanted 102 = .ok (.goto (-49), 3) := by decide +kernel
theorem dX11_isWanted_105 : decode cX11_isWanted 105 = .ok (.iconst 1, 1) := by decide +kernel
theorem dX11_isWanted_106 : decode cX11_isWanted 106 = .ok (.ireturn, 1) := by decide +kernel
theorem dX11_layOut_0 : decode cX11_layOut 0 = .ok (.aload_n 0, 1) := by decide +kernel
theorem dX11_layOut_1 : decode cX11_layOut 1 = .ok (.getfield 53, 3) := by decide +kernel
theorem dX11_layOut_4 : decode cX11_layOut 4 = .ok (.arraylength, 1) := by decide +kernel
theorem dX11_layOut_5 : decode cX11_layOut 5 = .ok (.aload_n 0, 1) := by decide +kernel
theorem dX11_layOut_6 : decode cX11_layOut 6 = .ok (.getfield 180, 3) := by decide +kernel
theorem dX11_layOut_9 : decode cX11_layOut 9 = .ok (.getfield 205, 3) := by decide +kernel
theorem dX11_layOut_12 : decode cX11_layOut 12 = .ok (.if_icmp .gt 37, 3) := by decide +kernel
theorem dX11_layOut_15 : decode cX11_layOut 15 = .ok (.aload_n 0, 1) := by decide +kernel
theorem dX11_layOut_16 : decode cX11_layOut 16 = .ok (.iconst 2, 1) := by decide +kernel
theorem dX11_layOut_17 : decode cX11_layOut 17 = .ok (.aload_n 0, 1) := by decide +kernel
theorem dX11_layOut_18 : decode cX11_layOut 18 = .ok (.getfield 180, 3) := by decide +kernel
theorem dX11_layOut_21 : decode cX11_layOut 21 = .ok (.getfield 205, 3) := by decide +kernel
theorem dX11_layOut_24 : decode cX11_layOut 24 = .ok (.imul, 1) := by decide +kernel
theorem dX11_layOut_25 : decode cX11_layOut 25 = .ok (.iconst 2, 1) := by decide +kernel
theorem dX11_layOut_26 : decode cX11_layOut 26 = .ok (.iadd, 1) := by decide +kernel
theorem dX11_layOut_27 : decode cX11_layOut 27 = .ok (.newarray .int, 2) := by decide +kernel
theorem dX11_layOut_29 : decode cX11_layOut 29 = .ok (.putfield 53, 3) := by decide +kernel
theorem dX11_layOut_32 : decode cX11_layOut 32 = .ok (.aload_n 0, 1) := by decide +kernel
theorem dX11_layOut_33 : decode cX11_layOut 33 = .ok (.iconst 2, 1) := by decide +kernel
theorem dX11_layOut_34 : decode cX11_layOut 34 = .ok (.aload_n 0, 1) := by decide +kernel
theorem dX11_layOut_35 : decode cX11_layOut 35 = .ok (.getfield 180, 3) := by decide +kernel
theorem dX11_layOut_38 : decode cX11_layOut 38 = .ok (.getfield 205, 3) := by decide +kernel
theorem dX11_layOut_41 : decode cX11_layOut 41 = .ok (.imul, 1) := by decide +kernel
theorem dX11_layOut_42 : decode cX11_layOut 42 = .ok (.iconst 2, 1) := by decide +kernel
theorem dX11_layOut_43 : decode cX11_layOut 43 = .ok (.iadd, 1) := by decide +kernel
theorem dX11_layOut_44 : decode cX11_layOut 44 = .ok (.newarray .int, 2) := by decide +kernel
theorem dX11_layOut_46 : decode cX11_layOut 46 = .ok (.putfield 50, 3) := by decide +kernel
theorem dX11_layOut_49 : decode cX11_layOut 49 = .ok (.iconst 0, 1) := by decide +kernel
theorem dX11_layOut_50 : decode cX11_layOut 50 = .ok (.istore_n 1, 1) := by decide +kernel
theorem dX11_layOut_51 : decode cX11_layOut 51 = .ok (.iconst 0, 1) := by decide +kernel
theorem dX11_layOut_52 : decode cX11_layOut 52 = .ok (.istore_n 2, 1) := by decide +kernel
theorem dX11_layOut_53 : decode cX11_layOut 53 = .ok (.iload_n 2, 1) := by decide +kernel
theorem dX11_layOut_54 : decode cX11_layOut 54 = .ok (.aload_n 0, 1) := by decide +kernel
theorem dX11_layOut_55 : decode cX11_layOut 55 = .ok (.getfield 180, 3) := by decide +kernel
theorem dX11_layOut_58 : decode cX11_layOut 58 = .ok (.getfield 205, 3) := by decide +kernel
theorem dX11_layOut_61 : decode cX11_layOut 61 = .ok (.if_icmp .ge 36, 3) := by decide +kernel
theorem dX11_layOut_64 : decode cX11_layOut 64 = .ok (.aload_n 0, 1) := by decide +kernel
theorem dX11_layOut_65 : decode cX11_layOut 65 = .ok (.getfield 53, 3) := by decide +kernel
theorem dX11_layOut_68 : decode cX11_layOut 68 = .ok (.iload_n 2, 1) := by decide +kernel
theorem dX11_layOut_69 : decode cX11_layOut 69 = .ok (.iload_n 1, 1) := by decide +kernel
theorem dX11_layOut_70 : decode cX11_layOut 70 = .ok (.iastore, 1) := by decide +kernel
theorem dX11_layOut_71 : decode cX11_layOut 71 = .ok (.aload_n 0, 1) := by decide +kernel
theorem dX11_layOut_72 : decode cX11_layOut 72 = .ok (.getfield 50, 3) := by decide +kernel
theorem dX11_layOut_75 : decode cX11_layOut 75 = .ok (.iload_n 2, 1) := by decide +kernel
theorem dX11_layOut_76 : decode cX11_layOut 76 = .ok (.aload_n 0, 1) := by decide +kernel
theorem dX11_layOut_77 : decode cX11_layOut 77 = .ok (.iload_n 2, 1) := by decide +kernel
theorem dX11_layOut_78 : decode cX11_layOut 78 = .ok (.invokevirtual 257, 3) := by decide +kernel
theorem dX11_layOut_81 : decode cX11_layOut 81 = .ok (.iastore, 1) := by decide +kernel
theorem dX11_layOut_82 : decode cX11_layOut 82 = .ok (.iload_n 1, 1) := by decide +kernel
theorem dX11_layOut_83 : decode cX11_layOut 83 = .ok (.aload_n 0, 1) := by decide +kernel
theorem dX11_layOut_84 : decode cX11_layOut 84 = .ok (.iload_n 2, 1) := by decide +kernel
theorem dX11_layOut_85 : decode cX11_layOut 85 = .ok (.iload_n 1, 1) := by decide +kernel
theorem dX11_layOut_86 : decode cX11_layOut 86 = .ok (.invokevirtual 260, 3) := by decide +kernel
theorem dX11_layOut_89 : decode cX11_layOut 89 = .ok (.iadd, 1) := by decide +kernel
theorem dX11_layOut_90 : decode cX11_layOut 90 = .ok (.istore_n 1, 1) := by decide +kernel
theorem dX11_layOut_91 : decode cX11_layOut 91 = .ok (.iinc 2 1, 3) := by decide +kernel
theorem dX11_layOut_94 : decode cX11_layOut 94 = .ok (.goto (-41), 3) := by decide +kernel
theorem dX11_layOut_97 : decode cX11_layOut 97 = .ok (.aload_n 0, 1) := by decide +kernel
theorem dX11_layOut_98 : decode cX11_layOut 98 = .ok (.getfield 53, 3) := by decide +kernel
theorem dX11_layOut_101 : decode cX11_layOut 101 = .ok (.aload_n 0, 1) := by decide +kernel
theorem dX11_layOut_102 : decode cX11_layOut 102 = .ok (.getfield 180, 3) := by decide +kernel
theorem dX11_layOut_105 : decode cX11_layOut 105 = .ok (.getfield 205, 3) := by decide +kernel
theorem dX11_layOut_108 : decode cX11_layOut 108 = .ok (.iload_n 1, 1) := by decide +kernel
theorem dX11_layOut_109 : decode cX11_layOut 109 = .ok (.iastore, 1) := by decide +kernel
theorem dX11_layOut_110 : decode cX11_layOut 110 = .ok (.iload_n 1, 1) := by decide +kernel
theorem dX11_layOut_111 : decode cX11_layOut 111 = .ok (.ireturn, 1) := by decide +kernel
theorem dX11_leastLocals_0 : decode cX11_leastLocals 0 = .ok (.aload_n 0, 1) := by decide +kernel
theorem dX11_leastLocals_1 : decode cX11_leastLocals 1 = .ok (.getfield 56, 3) := by decide +kernel
theorem dX11_leastLocals_4 : decode cX11_leastLocals 4 = .ok (.aload_n 0, 1) := by decide +kernel
theorem dX11_leastLocals_5 : decode cX11_leastLocals 5 = .ok (.getfield 180, 3) := by decide +kernel
theorem dX11_leastLocals_8 : decode cX11_leastLocals 8 = .ok (.getfield 184, 3) := by decide +kernel
theorem dX11_leastLocals_11 : decode cX11_leastLocals 11 = .ok (.invokevirtual 234, 3) := by decide +kernel
theorem dX11_leastLocals_14 : decode cX11_leastLocals 14 = .ok (.invokestatic 237, 3) := by decide +kernel
theorem dX11_leastLocals_17 : decode cX11_leastLocals 17 = .ok (.istore_n 1, 1) := by decide +kernel
theorem dX11_leastLocals_18 : decode cX11_leastLocals 18 = .ok (.iconst 0, 1) := by decide +kernel
theorem dX11_leastLocals_19 : decode cX11_leastLocals 19 = .ok (.istore_n 2, 1) := by decide +kernel
theorem dX11_leastLocals_20 : decode cX11_leastLocals 20 = .ok (.iload_n 2, 1) := by decide +kernel
theorem dX11_leastLocals_21 : decode cX11_leastLocals 21 = .ok (.aload_n 0, 1) := by decide +kernel
theorem dX11_leastLocals_22 : decode cX11_leastLocals 22 = .ok (.getfield 180, 3) := by decide +kernel
theorem dX11_leastLocals_25 : decode cX11_leastLocals 25 = .ok (.getfield 205, 3) := by decide +kernel
theorem dX11_leastLocals_28 : decode cX11_leastLocals 28 = .ok (.if_icmp .ge 48, 3) := by decide +kernel
theorem dX11_leastLocals_31 : decode cX11_leastLocals 31 = .ok (.aload_n 0, 1) := by decide +kernel
theorem dX11_leastLocals_32 : decode cX11_leastLocals 32 = .ok (.getfield 180, 3) := by decide +kernel
theorem dX11_leastLocals_35 : decode cX11_leastLocals 35 = .ok (.iload_n 2, 1) := by decide +kernel
theorem dX11_leastLocals_36 : decode cX11_leastLocals 36 = .ok (.invokevirtual 240, 3) := by decide +kernel
theorem dX11_leastLocals_39 : decode cX11_leastLocals 39 = .ok (.invokestatic 243, 3) := by decide +kernel
theorem dX11_leastLocals_42 : decode cX11_leastLocals 42 = .ok (.ifCond .eq 28, 3) := by decide +kernel
theorem dX11_leastLocals_45 : decode cX11_leastLocals 45 = .ok (.iload_n 1, 1) := by decide +kernel
theorem dX11_leastLocals_46 : decode cX11_leastLocals 46 = .ok (.aload_n 0, 1) := by decide +kernel
theorem dX11_leastLocals_47 : decode cX11_leastLocals 47 = .ok (.getfield 180, 3) := by decide +kernel
theorem dX11_leastLocals_50 : decode cX11_leastLocals 50 = .ok (.iload_n 2, 1) := by decide +kernel
theorem dX11_leastLocals_51 : decode cX11_leastLocals 51 = .ok (.invokevirtual 246, 3) := by decide +kernel
theorem dX11_leastLocals_54 : decode cX11_leastLocals 54 = .ok (.aload_n 0, 1) := by decide +kernel
theorem dX11_leastLocals_55 : decode cX11_leastLocals 55 = .ok (.getfield 180, 3) := by decide +kernel
theorem dX11_leastLocals_58 : decode cX11_leastLocals 58 = .ok (.iload_n 2, 1) := by decide +kernel
theorem dX11_leastLocals_59 : decode cX11_leastLocals 59 = .ok (.invokevirtual 240, 3) := by decide +kernel
theorem dX11_leastLocals_62 : decode cX11_leastLocals 62 = .ok (.invokestatic 249, 3) := by decide +kernel
theorem dX11_leastLocals_65 : decode cX11_leastLocals 65 = .ok (.iadd, 1) := by decide +kernel
theorem dX11_leastLocals_66 : decode cX11_leastLocals 66 = .ok (.invokestatic 252, 3) := by decide +kernel
theorem dX11_leastLocals_69 : decode cX11_leastLocals 69 = .ok (.istore_n 1, 1) := by decide +kernel
theorem dX11_leastLocals_70 : decode cX11_leastLocals 70 = .ok (.iinc 2 1, 3) := by decide +kernel
theorem dX11_leastLocals_73 : decode cX11_leastLocals 73 = .ok (.goto (-53), 3) := by decide +kernel
theorem dX11_leastLocals_76 : decode cX11_leastLocals 76 = .ok (.iload_n 1, 1) := by decide +kernel
theorem dX11_leastLocals_77 : decode cX11_leastLocals 77 = .ok (.ireturn, 1) := by decide +kernel
theorem dX11_lengthOf_0 : decode cX11_lengthOf 0 = .ok (.aload_n 0, 1) := by decide +kernel
theorem dX11_lengthOf_1 : decode cX11_lengthOf 1 = .ok (.getfield 180, 3) := by decide +kernel
theorem dX11_lengthOf_4 : decode cX11_lengthOf 4 = .ok (.iload_n 1, 1) := by decide +kernel
theorem dX11_lengthOf_5 : decode cX11_lengthOf 5 = .ok (.invokevirtual 240, 3) := by decide +kernel
theorem dX11_lengthOf_8 : decode cX11_lengthOf 8 = .ok (.istore_n 3, 1) := by decide +kernel
theorem dX11_lengthOf_9 : decode cX11_lengthOf 9 = .ok (.aload_n 0, 1) := by decide +kernel
theorem dX11_lengthOf_10 : decode cX11_lengthOf 10 = .ok (.getfield 180, 3) := by decide +kernel
theorem dX11_lengthOf_13 : decode cX11_lengthOf 13 = .ok (.iload_n 1, 1) := by decide +kernel
theorem dX11_lengthOf_14 : decode cX11_lengthOf 14 = .ok (.invokevirtual 263, 3) := by decide +kernel
theorem dX11_lengthOf_17 : decode cX11_lengthOf 17 = .ok (.lstore 4, 2) := by decide +kernel
theorem dX11_lengthOf_19 : decode cX11_lengthOf 19 = .ok (.iload_n 3, 1) := by decide +kernel
theorem dX11_lengthOf_20 : decode cX11_lengthOf 20 = .ok (.invokestatic 280, 3) := by decide +kernel
theorem dX11_lengthOf_23 : decode cX11_lengthOf 23 = .ok (.ifCond .ne 10, 3) := by decide +kernel
theorem dX11_lengthOf_26 : decode cX11_lengthOf 26 = .ok (.iload_n 3, 1) := by decide +kernel
theorem dX11_lengthOf_27 : decode cX11_lengthOf 27 = .ok (.invokestatic 283, 3) := by decide +kernel
theorem dX11_lengthOf_30 : decode cX11_lengthOf 30 = .ok (.ifCond .eq 18, 3) := by decide +kernel
theorem dX11_lengthOf_33 : decode cX11_lengthOf 33 = .ok (.lload 4, 2) := by decide +kernel
theorem dX11_lengthOf_35 : decode cX11_lengthOf 35 = .ok (.ldc2_w 286, 3) := by decide +kernel
theorem dX11_lengthOf_38 : decode cX11_lengthOf 38 = .ok (.lcmp, 1) := by decide +kernel
theorem dX11_lengthOf_39 : decode cX11_lengthOf 39 = .ok (.ifCond .ge 7, 3) := by decide +kernel
theorem dX11_lengthOf_42 : decode cX11_lengthOf 42 = .ok (.iconst 1, 1) := by decide +kernel
theorem dX11_lengthOf_43 : decode cX11_lengthOf 43 = .ok (.goto 4, 3) := by decide +kernel
theorem dX11_lengthOf_46 : decode cX11_lengthOf 46 = .ok (.iconst 2, 1) := by decide +kernel
theorem dX11_lengthOf_47 : decode cX11_lengthOf 47 = .ok (.ireturn, 1) := by decide +kernel

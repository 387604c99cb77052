theorem dX2_lengthAt_103 : decode cX2_lengthAt 103 = .ok (.invokevirtual 139, 3) := by decide +kernel
theorem dX2_lengthAt_106 : decode cX2_lengthAt 106 = .ok (.invokestatic 149, 3) := by decide +kernel
theorem dX2_lengthAt_109 : decode cX2_lengthAt 109 = .ok (.istore_n 2, 1) := by decide +kernel
theorem dX2_lengthAt_110 : decode cX2_lengthAt 110 = .ok (.iload_n 1, 1) := by decide +kernel
theorem dX2_lengthAt_111 : decode cX2_lengthAt 111 = .ok (.iload_n 2, 1) := by decide +kernel
theorem dX2_lengthAt_112 : decode cX2_lengthAt 112 = .ok (.iadd, 1) := by decide +kernel
theorem dX2_lengthAt_113 : decode cX2_lengthAt 113 = .ok (.aload_n 0, 1) := by decide +kernel
theorem dX2_lengthAt_114 : decode cX2_lengthAt 114 = .ok (.getfield 117, 3) := by decide +kernel
theorem dX2_lengthAt_117 : decode cX2_lengthAt 117 = .ok (.if_icmp .le 7, 3) := by decide +kernel
theorem dX2_lengthAt_120 : decode cX2_lengthAt 120 = .ok (.iconst 0, 1) := by decide +kernel
theorem dX2_lengthAt_121 : decode cX2_lengthAt 121 = .ok (.goto 4, 3) := by decide +kernel
theorem dX2_lengthAt_124 : decode cX2_lengthAt 124 = .ok (.iload_n 2, 1) := by decide +kernel
theorem dX2_lengthAt_125 : decode cX2_lengthAt 125 = .ok (.ireturn, 1) := by decide +kernel
theorem dX2_limitsHold_0 : decode cX2_limitsHold 0 = .ok (.iconst 0, 1) := by decide +kernel
theorem dX2_limitsHold_1 : decode cX2_limitsHold 1 = .ok (.istore_n 1, 1) := by decide +kernel
theorem dX2_limitsHold_2 : decode cX2_limitsHold 2 = .ok (.iload_n 1, 1) := by decide +kernel
theorem dX2_limitsHold_3 : decode cX2_limitsHold 3 = .ok (.aload_n 0, 1) := by decide +kernel
theorem dX2_limitsHold_4 : decode cX2_limitsHold 4 = .ok (.getfield 12, 3) := by decide +kernel
theorem dX2_limitsHold_7 : decode cX2_limitsHold 7 = .ok (.getfield 59, 3) := by decide +kernel
theorem dX2_limitsHold_10 : decode cX2_limitsHold 10 = .ok (.if_icmp .ge 73, 3) := by decide +kernel
theorem dX2_limitsHold_13 : decode cX2_limitsHold 13 = .ok (.iload_n 1, 1) := by decide +kernel
theorem dX2_limitsHold_14 : decode cX2_limitsHold 14 = .ok (.bipush 24, 2) := by decide +kernel
theorem dX2_limitsHold_16 : decode cX2_limitsHold 16 = .ok (.if_icmp .ge 67, 3) := by decide +kernel
theorem dX2_limitsHold_19 : decode cX2_limitsHold 19 = .ok (.aload_n 0, 1) := by decide +kernel
theorem dX2_limitsHold_20 : decode cX2_limitsHold 20 = .ok (.getfield 12, 3) := by decide +kernel
theorem dX2_limitsHold_23 : decode cX2_limitsHold 23 = .ok (.aload_n 0, 1) := by decide +kernel
theorem dX2_limitsHold_24 : decode cX2_limitsHold 24 = .ok (.getfield 12, 3) := by decide +kernel
theorem dX2_limitsHold_27 : decode cX2_limitsHold 27 = .ok (.aload_n 0, 1) := by decide +kernel
theorem dX2_limitsHold_28 : decode cX2_limitsHold 28 = .ok (.getfield 12, 3) := by decide +kernel
theorem dX2_limitsHold_31 : decode cX2_limitsHold 31 = .ok (.getfield 62, 3) := by decide +kernel
theorem dX2_limitsHold_34 : decode cX2_limitsHold 34 = .ok (.iload_n 1, 1) := by decide +kernel
theorem dX2_limitsHold_35 : decode cX2_limitsHold 35 = .ok (.iadd, 1) := by decide +kernel
theorem dX2_limitsHold_36 : decode cX2_limitsHold 36 = .ok (.invokevirtual 65, 3) := by decide +kernel
theorem dX2_limitsHold_39 : decode cX2_limitsHold 39 = .ok (.invokevirtual 69, 3) := by decide +kernel
theorem dX2_limitsHold_42 : decode cX2_limitsHold 42 = .ok (.pop, 1) := by decide +kernel
theorem dX2_limitsHold_43 : decode cX2_limitsHold 43 = .ok (.aload_n 0, 1) := by decide +kernel
theorem dX2_limitsHold_44 : decode cX2_limitsHold 44 = .ok (.aload_n 0, 1) := by decide +kernel
theorem dX2_limitsHold_45 : decode cX2_limitsHold 45 = .ok (.getfield 12, 3) := by decide +kernel
theorem dX2_limitsHold_48 : decode cX2_limitsHold 48 = .ok (.getfield 73, 3) := by decide +kernel
theorem dX2_limitsHold_51 : decode cX2_limitsHold 51 = .ok (.iload_n 1, 1) := by decide +kernel
theorem dX2_limitsHold_52 : decode cX2_limitsHold 52 = .ok (.iaload, 1) := by decide +kernel
theorem dX2_limitsHold_53 : decode cX2_limitsHold 53 = .ok (.aload_n 0, 1) := by decide +kernel
theorem dX2_limitsHold_54 : decode cX2_limitsHold 54 = .ok (.getfield 12, 3) := by decide +kernel
theorem dX2_limitsHold_57 : decode cX2_limitsHold 57 = .ok (.getfield 76, 3) := by decide +kernel
theorem dX2_limitsHold_60 : decode cX2_limitsHold 60 = .ok (.iload_n 1, 1) := by decide +kernel
theorem dX2_limitsHold_61 : decode cX2_limitsHold 61 = .ok (.iaload, 1) := by decide +kernel
theorem dX2_limitsHold_62 : decode cX2_limitsHold 62 = .ok (.aload_n 0, 1) := by decide +kernel
theorem dX2_limitsHold_63 : decode cX2_limitsHold 63 = .ok (.getfield 12, 3) := by decide +kernel
theorem dX2_limitsHold_66 : decode cX2_limitsHold 66 = .ok (.getfield 79, 3) := by decide +kernel
theorem dX2_limitsHold_69 : decode cX2_limitsHold 69 = .ok (.invokevirtual 82, 3) := by decide +kernel
theorem dX2_limitsHold_72 : decode cX2_limitsHold 72 = .ok (.ifCond .ne 5, 3) := by decide +kernel
theorem dX2_limitsHold_75 : decode cX2_limitsHold 75 = .ok (.iconst 0, 1) := by decide +kernel
theorem dX2_limitsHold_76 : decode cX2_limitsHold 76 = .ok (.ireturn, 1) := by decide +kernel
theorem dX2_limitsHold_77 : decode cX2_limitsHold 77 = .ok (.iinc 1 1, 3) := by decide +kernel
theorem dX2_limitsHold_80 : decode cX2_limitsHold 80 = .ok (.goto (-78), 3) := by decide +kernel
theorem dX2_limitsHold_83 : decode cX2_limitsHold 83 = .ok (.iconst 1, 1) := by decide +kernel
theorem dX2_limitsHold_84 : decode cX2_limitsHold 84 = .ok (.ireturn, 1) := by decide +kernel
theorem dX2_longAt_0 : decode cX2_longAt 0 = .ok (.aload_n 0, 1) := by decide +kernel
theorem dX2_longAt_1 : decode cX2_longAt 1 = .ok (.getfield 12, 3) := by decide +kernel
theorem dX2_longAt_4 : decode cX2_longAt 4 = .ok (.iload_n 1, 1) := by decide +kernel
theorem dX2_longAt_5 : decode cX2_longAt 5 = .ok (.invokevirtual 93, 3) := by decide +kernel
theorem dX2_longAt_8 : decode cX2_longAt 8 = .ok (.bipush 32, 2) := by decide +kernel
theorem dX2_longAt_10 : decode cX2_longAt 10 = .ok (.lshl, 1) := by decide +kernel
theorem dX2_longAt_11 : decode cX2_longAt 11 = .ok (.aload_n 0, 1) := by decide +kernel
theorem dX2_longAt_12 : decode cX2_longAt 12 = .ok (.getfield 12, 3) := by decide +kernel
theorem dX2_longAt_15 : decode cX2_longAt 15 = .ok (.iload_n 1, 1) := by decide +kernel
theorem dX2_longAt_16 : decode cX2_longAt 16 = .ok (.iconst 4, 1) := by decide +kernel
theorem dX2_longAt_17 : decode cX2_longAt 17 = .ok (.iadd, 1) := by decide +kernel
theorem dX2_longAt_18 : decode cX2_longAt 18 = .ok (.invokevirtual 93, 3) := by decide +kernel
theorem dX2_longAt_21 : decode cX2_longAt 21 = .ok (.lor, 1) := by decide +kernel
theorem dX2_longAt_22 : decode cX2_longAt 22 = .ok (.lreturn, 1) := by decide +kernel
theorem dX2_lookAt_0 : decode cX2_lookAt 0 = .ok (.iload_n 1, 1) := by decide +kernel
theorem dX2_lookAt_1 : decode cX2_lookAt 1 = .ok (.ifCond .lt 9, 3) := by decide +kernel
theorem dX2_lookAt_4 : decode cX2_lookAt 4 = .ok (.iload_n 1, 1) := by decide +kernel
theorem dX2_lookAt_5 : decode cX2_lookAt 5 = .ok (.bipush 24, 2) := by decide +kernel
theorem dX2_lookAt_7 : decode cX2_lookAt 7 = .ok (.if_icmp .lt 7, 3) := by decide +kernel
theorem dX2_lookAt_10 : decode cX2_lookAt 10 = .ok (.iconst 0, 1) := by decide +kernel
theorem dX2_lookAt_11 : decode cX2_lookAt 11 = .ok (.goto 12, 3) := by decide +kernel
theorem dX2_lookAt_14 : decode cX2_lookAt 14 = .ok (.aload_n 0, 1) := by decide +kernel
theorem dX2_lookAt_15 : decode cX2_lookAt 15 = .ok (.getfield 12, 3) := by decide +kernel
theorem dX2_lookAt_18 : decode cX2_lookAt 18 = .ok (.getfield 73, 3) := by decide +kernel
theorem dX2_lookAt_21 : decode cX2_lookAt 21 = .ok (.iload_n 1, 1) := by decide +kernel
theorem dX2_lookAt_22 : decode cX2_lookAt 22 = .ok (.iaload, 1) := by decide +kernel
theorem dX2_lookAt_23 : decode cX2_lookAt 23 = .ok (.istore_n 2, 1) := by decide +kernel
theorem dX2_lookAt_24 : decode cX2_lookAt 24 = .ok (.aload_n 0, 1) := by decide +kernel
theorem dX2_lookAt_25 : decode cX2_lookAt 25 = .ok (.aload_n 0, 1) := by decide +kernel
theorem dX2_lookAt_26 : decode cX2_lookAt 26 = .ok (.getfield 12, 3) := by decide +kernel
theorem dX2_lookAt_29 : decode cX2_lookAt 29 = .ok (.iload_n 2, 1) := by decide +kernel
theorem dX2_lookAt_30 : decode cX2_lookAt 30 = .ok (.invokevirtual 90, 3) := by decide +kernel
theorem dX2_lookAt_33 : decode cX2_lookAt 33 = .ok (.putfield 105, 3) := by decide +kernel
theorem dX2_lookAt_36 : decode cX2_lookAt 36 = .ok (.aload_n 0, 1) := by decide +kernel
theorem dX2_lookAt_37 : decode cX2_lookAt 37 = .ok (.aload_n 0, 1) := by decide +kernel
theorem dX2_lookAt_38 : decode cX2_lookAt 38 = .ok (.getfield 12, 3) := by decide +kernel
theorem dX2_lookAt_41 : decode cX2_lookAt 41 = .ok (.iload_n 2, 1) := by decide +kernel
theorem dX2_lookAt_42 : decode cX2_lookAt 42 = .ok (.iconst 2, 1) := by decide +kernel
theorem dX2_lookAt_43 : decode cX2_lookAt 43 = .ok (.iadd, 1) := by decide +kernel
theorem dX2_lookAt_44 : decode cX2_lookAt 44 = .ok (.invokevirtual 90, 3) := by decide +kernel
theorem dX2_lookAt_47 : decode cX2_lookAt 47 = .ok (.putfield 108, 3) := by decide +kernel
theorem dX2_lookAt_50 : decode cX2_lookAt 50 = .ok (.aload_n 0, 1) := by decide +kernel
theorem dX2_lookAt_51 : decode cX2_lookAt 51 = .ok (.aload_n 0, 1) := by decide +kernel
theorem dX2_lookAt_52 : decode cX2_lookAt 52 = .ok (.getfield 12, 3) := by decide +kernel
theorem dX2_lookAt_55 : decode cX2_lookAt 55 = .ok (.iload_n 2, 1) := by decide +kernel
theorem dX2_lookAt_56 : decode cX2_lookAt 56 = .ok (.iconst 4, 1) := by decide +kernel
theorem dX2_lookAt_57 : decode cX2_lookAt 57 = .ok (.iadd, 1) := by decide +kernel
theorem dX2_lookAt_58 : decode cX2_lookAt 58 = .ok (.invokevirtual 102, 3) := by decide +kernel
theorem dX2_lookAt_61 : decode cX2_lookAt 61 = .ok (.sipush 1200, 3) := by decide +kernel
theorem dX2_lookAt_64 : decode cX2_lookAt 64 = .ok (.invokestatic 111, 3) := by decide +kernel
theorem dX2_lookAt_67 : decode cX2_lookAt 67 = .ok (.putfield 117, 3) := by decide +kernel
theorem dX2_lookAt_70 : decode cX2_lookAt 70 = .ok (.aload_n 0, 1) := by decide +kernel
theorem dX2_lookAt_71 : decode cX2_lookAt 71 = .ok (.iload_n 2, 1) := by decide +kernel
theorem dX2_lookAt_72 : decode cX2_lookAt 72 = .ok (.bipush 8, 2) := by decide +kernel
theorem dX2_lookAt_74 : decode cX2_lookAt 74 = .ok (.iadd, 1) := by decide +kernel
theorem dX2_lookAt_75 : decode cX2_lookAt 75 = .ok (.putfield 120, 3) := by decide +kernel
theorem dX2_lookAt_78 : decode cX2_lookAt 78 = .ok (.aload_n 0, 1) := by decide +kernel
theorem dX2_lookAt_79 : decode cX2_lookAt 79 = .ok (.aload_n 0, 1) := by decide +kernel
theorem dX2_lookAt_80 : decode cX2_lookAt 80 = .ok (.getfield 120, 3) := by decide +kernel
theorem dX2_lookAt_83 : decode cX2_lookAt 83 = .ok (.aload_n 0, 1) := by decide +kernel
theorem dX2_lookAt_84 : decode cX2_lookAt 84 = .ok (.getfield 117, 3) := by decide +kernel
theorem dX2_lookAt_87 : decode cX2_lookAt 87 = .ok (.iadd, 1) := by decide +kernel
theorem dX2_lookAt_88 : decode cX2_lookAt 88 = .ok (.iconst 2, 1) := by decide +kernel
theorem dX2_lookAt_89 : decode cX2_lookAt 89 = .ok (.iadd, 1) := by decide +kernel
theorem dX2_lookAt_90 : decode cX2_lookAt 90 = .ok (.putfield 123, 3) := by decide +kernel
theorem dX2_lookAt_93 : decode cX2_lookAt 93 = .ok (.aload_n 0, 1) := by decide +kernel
theorem dX2_lookAt_94 : decode cX2_lookAt 94 = .ok (.aload_n 0, 1) := by decide +kernel
theorem dX2_lookAt_95 : decode cX2_lookAt 95 = .ok (.getfield 12, 3) := by decide +kernel
theorem dX2_lookAt_98 : decode cX2_lookAt 98 = .ok (.aload_n 0, 1) := by decide +kernel
theorem dX2_lookAt_99 : decode cX2_lookAt 99 = .ok (.getfield 120, 3) := by decide +kernel
theorem dX2_lookAt_102 : decode cX2_lookAt 102 = .ok (.aload_n 0, 1) := by decide +kernel
theorem dX2_lookAt_103 : decode cX2_lookAt 103 = .ok (.getfield 117, 3) := by decide +kernel
theorem dX2_lookAt_106 : decode cX2_lookAt 106 = .ok (.iadd, 1) := by decide +kernel
theorem dX2_lookAt_107 : decode cX2_lookAt 107 = .ok (.invokevirtual 90, 3) := by decide +kernel
theorem dX2_lookAt_110 : decode cX2_lookAt 110 = .ok (.putfield 126, 3) := by decide +kernel
theorem dX2_lookAt_113 : decode cX2_lookAt 113 = .ok (.return_, 1) := by decide +kernel
theorem dX2_lookupLength_0 : decode cX2_lookupLength 0 = .ok (.iload_n 1, 1) := by decide +kernel
theorem dX2_lookupLength_1 : decode cX2_lookupLength 1 = .ok (.invokestatic 160, 3) := by decide +kernel
theorem dX2_lookupLength_4 : decode cX2_lookupLength 4 = .ok (.istore_n 2, 1) := by decide +kernel
theorem dX2_lookupLength_5 : decode cX2_lookupLength 5 = .ok (.aload_n 0, 1) := by decide +kernel
theorem dX2_lookupLength_6 : decode cX2_lookupLength 6 = .ok (.iload_n 2, 1) := by decide +kernel
theorem dX2_lookupLength_7 : decode cX2_lookupLength 7 = .ok (.iconst 4, 1) := by decide +kernel
theorem dX2_lookupLength_8 : decode cX2_lookupLength 8 = .ok (.iadd, 1) := by decide +kernel
theorem dX2_lookupLength_9 : decode cX2_lookupLength 9 = .ok (.invokevirtual 163, 3) := by decide +kernel
theorem dX2_lookupLength_12 : decode cX2_lookupLength 12 = .ok (.istore_n 3, 1) := by decide +kernel
theorem dX2_lookupLength_13 : decode cX2_lookupLength 13 = .ok (.iload_n 2, 1) := by decide +kernel
theorem dX2_lookupLength_14 : decode cX2_lookupLength 14 = .ok (.bipush 8, 2) := by decide +kernel
theorem dX2_lookupLength_16 : decode cX2_lookupLength 16 = .ok (.iadd, 1) := by decide +kernel
theorem dX2_lookupLength_17 : decode cX2_lookupLength 17 = .ok (.aload_n 0, 1) := by decide +kernel
theorem dX2_lookupLength_18 : decode cX2_lookupLength 18 = .ok (.getfield 117, 3) := by decide +kernel
theorem dX2_lookupLength_21 : decode cX2_lookupLength 21 = .ok (.if_icmp .gt 30, 3) := by decide +kernel
theorem dX2_lookupLength_24 : decode cX2_lookupLength 24 = .ok (.iload_n 3, 1) := by decide +kernel
theorem dX2_lookupLength_25 : decode cX2_lookupLength 25 = .ok (.ifCond .lt 26, 3) := by decide +kernel

theorem dX8_localAt_4 : decode cX8_localAt 4 = .ok (.ifnull 32, 3) := by decide +kernel
theorem dX8_localAt_7 : decode cX8_localAt 7 = .ok (.aload_n 0, 1) := by decide +kernel
theorem dX8_localAt_8 : decode cX8_localAt 8 = .ok (.getfield 79, 3) := by decide +kernel
theorem dX8_localAt_11 : decode cX8_localAt 11 = .ok (.ifnull 25, 3) := by decide +kernel
theorem dX8_localAt_14 : decode cX8_localAt 14 = .ok (.iload_n 1, 1) := by decide +kernel
theorem dX8_localAt_15 : decode cX8_localAt 15 = .ok (.ifCond .lt 21, 3) := by decide +kernel
theorem dX8_localAt_18 : decode cX8_localAt 18 = .ok (.iload_n 1, 1) := by decide +kernel
theorem dX8_localAt_19 : decode cX8_localAt 19 = .ok (.aload_n 0, 1) := by decide +kernel
theorem dX8_localAt_20 : decode cX8_localAt 20 = .ok (.getfield 76, 3) := by decide +kernel
theorem dX8_localAt_23 : decode cX8_localAt 23 = .ok (.arraylength, 1) := by decide +kernel
theorem dX8_localAt_24 : decode cX8_localAt 24 = .ok (.if_icmp .ge 12, 3) := by decide +kernel
theorem dX8_localAt_27 : decode cX8_localAt 27 = .ok (.iload_n 1, 1) := by decide +kernel
theorem dX8_localAt_28 : decode cX8_localAt 28 = .ok (.aload_n 0, 1) := by decide +kernel
theorem dX8_localAt_29 : decode cX8_localAt 29 = .ok (.getfield 79, 3) := by decide +kernel
theorem dX8_localAt_32 : decode cX8_localAt 32 = .ok (.arraylength, 1) := by decide +kernel
theorem dX8_localAt_33 : decode cX8_localAt 33 = .ok (.if_icmp .lt 5, 3) := by decide +kernel
theorem dX8_localAt_36 : decode cX8_localAt 36 = .ok (.iconst 0, 1) := by decide +kernel
theorem dX8_localAt_37 : decode cX8_localAt 37 = .ok (.ireturn, 1) := by decide +kernel
theorem dX8_localAt_38 : decode cX8_localAt 38 = .ok (.iload_n 2, 1) := by decide +kernel
theorem dX8_localAt_39 : decode cX8_localAt 39 = .ok (.bipush 16, 2) := by decide +kernel
theorem dX8_localAt_41 : decode cX8_localAt 41 = .ok (.if_icmp .ge 16, 3) := by decide +kernel
theorem dX8_localAt_44 : decode cX8_localAt 44 = .ok (.aload_n 0, 1) := by decide +kernel
theorem dX8_localAt_45 : decode cX8_localAt 45 = .ok (.getfield 76, 3) := by decide +kernel
theorem dX8_localAt_48 : decode cX8_localAt 48 = .ok (.iload_n 1, 1) := by decide +kernel
theorem dX8_localAt_49 : decode cX8_localAt 49 = .ok (.laload, 1) := by decide +kernel
theorem dX8_localAt_50 : decode cX8_localAt 50 = .ok (.iconst 4, 1) := by decide +kernel
theorem dX8_localAt_51 : decode cX8_localAt 51 = .ok (.iload_n 2, 1) := by decide +kernel
theorem dX8_localAt_52 : decode cX8_localAt 52 = .ok (.imul, 1) := by decide +kernel
theorem dX8_localAt_53 : decode cX8_localAt 53 = .ok (.lushr, 1) := by decide +kernel
theorem dX8_localAt_54 : decode cX8_localAt 54 = .ok (.goto 16, 3) := by decide +kernel
theorem dX8_localAt_57 : decode cX8_localAt 57 = .ok (.aload_n 0, 1) := by decide +kernel
theorem dX8_localAt_58 : decode cX8_localAt 58 = .ok (.getfield 79, 3) := by decide +kernel
theorem dX8_localAt_61 : decode cX8_localAt 61 = .ok (.iload_n 1, 1) := by decide +kernel
theorem dX8_localAt_62 : decode cX8_localAt 62 = .ok (.laload, 1) := by decide +kernel
theorem dX8_localAt_63 : decode cX8_localAt 63 = .ok (.iconst 4, 1) := by decide +kernel
theorem dX8_localAt_64 : decode cX8_localAt 64 = .ok (.iload_n 2, 1) := by decide +kernel
theorem dX8_localAt_65 : decode cX8_localAt 65 = .ok (.bipush 16, 2) := by decide +kernel
theorem dX8_localAt_67 : decode cX8_localAt 67 = .ok (.isub, 1) := by decide +kernel
theorem dX8_localAt_68 : decode cX8_localAt 68 = .ok (.imul, 1) := by decide +kernel
theorem dX8_localAt_69 : decode cX8_localAt 69 = .ok (.lushr, 1) := by decide +kernel
theorem dX8_localAt_70 : decode cX8_localAt 70 = .ok (.l2i, 1) := by decide +kernel
theorem dX8_localAt_71 : decode cX8_localAt 71 = .ok (.bipush 15, 2) := by decide +kernel
theorem dX8_localAt_73 : decode cX8_localAt 73 = .ok (.iand, 1) := by decide +kernel
theorem dX8_localAt_74 : decode cX8_localAt 74 = .ok (.ireturn, 1) := by decide +kernel
theorem dX8_localOf_0 : decode cX8_localOf 0 = .ok (.aload_n 0, 1) := by decide +kernel
theorem dX8_localOf_1 : decode cX8_localOf 1 = .ok (.iload_n 1, 1) := by decide +kernel
theorem dX8_localOf_2 : decode cX8_localOf 2 = .ok (.invokevirtual 41, 3) := by decide +kernel
theorem dX8_localOf_5 : decode cX8_localOf 5 = .ok (.l2i, 1) := by decide +kernel
theorem dX8_localOf_6 : decode cX8_localOf 6 = .ok (.sipush 255, 3) := by decide +kernel
theorem dX8_localOf_9 : decode cX8_localOf 9 = .ok (.iand, 1) := by decide +kernel
theorem dX8_localOf_10 : decode cX8_localOf 10 = .ok (.ireturn, 1) := by decide +kernel
theorem dX8_opAt_0 : decode cX8_opAt 0 = .ok (.iload_n 1, 1) := by decide +kernel
theorem dX8_opAt_1 : decode cX8_opAt 1 = .ok (.ifCond .lt 11, 3) := by decide +kernel
theorem dX8_opAt_4 : decode cX8_opAt 4 = .ok (.iload_n 1, 1) := by decide +kernel
theorem dX8_opAt_5 : decode cX8_opAt 5 = .ok (.aload_n 0, 1) := by decide +kernel
theorem dX8_opAt_6 : decode cX8_opAt 6 = .ok (.getfield 34, 3) := by decide +kernel
theorem dX8_opAt_9 : decode cX8_opAt 9 = .ok (.if_icmp .lt 7, 3) := by decide +kernel
theorem dX8_opAt_12 : decode cX8_opAt 12 = .ok (.iconst (-1), 1) := by decide +kernel
theorem dX8_opAt_13 : decode cX8_opAt 13 = .ok (.goto 9, 3) := by decide +kernel
theorem dX8_opAt_16 : decode cX8_opAt 16 = .ok (.aload_n 0, 1) := by decide +kernel
theorem dX8_opAt_17 : decode cX8_opAt 17 = .ok (.getfield 9, 3) := by decide +kernel
theorem dX8_opAt_20 : decode cX8_opAt 20 = .ok (.iload_n 1, 1) := by decide +kernel
theorem dX8_opAt_21 : decode cX8_opAt 21 = .ok (.iaload, 1) := by decide +kernel
theorem dX8_opAt_22 : decode cX8_opAt 22 = .ok (.ireturn, 1) := by decide +kernel
theorem dX8_remove_0 : decode cX8_remove 0 = .ok (.iload_n 1, 1) := by decide +kernel
theorem dX8_remove_1 : decode cX8_remove 1 = .ok (.ifCond .lt 17, 3) := by decide +kernel
theorem dX8_remove_4 : decode cX8_remove 4 = .ok (.iload_n 2, 1) := by decide +kernel
theorem dX8_remove_5 : decode cX8_remove 5 = .ok (.ifCond .le 13, 3) := by decide +kernel
theorem dX8_remove_8 : decode cX8_remove 8 = .ok (.iload_n 1, 1) := by decide +kernel
theorem dX8_remove_9 : decode cX8_remove 9 = .ok (.iload_n 2, 1) := by decide +kernel
theorem dX8_remove_10 : decode cX8_remove 10 = .ok (.iadd, 1) := by decide +kernel
theorem dX8_remove_11 : decode cX8_remove 11 = .ok (.aload_n 0, 1) := by decide +kernel
theorem dX8_remove_12 : decode cX8_remove 12 = .ok (.getfield 34, 3) := by decide +kernel
theorem dX8_remove_15 : decode cX8_remove 15 = .ok (.if_icmp .le 4, 3) := by decide +kernel
theorem dX8_remove_18 : decode cX8_remove 18 = .ok (.return_, 1) := by decide +kernel
theorem dX8_remove_19 : decode cX8_remove 19 = .ok (.iload_n 1, 1) := by decide +kernel
theorem dX8_remove_20 : decode cX8_remove 20 = .ok (.istore_n 3, 1) := by decide +kernel
theorem dX8_remove_21 : decode cX8_remove 21 = .ok (.iload_n 3, 1) := by decide +kernel
theorem dX8_remove_22 : decode cX8_remove 22 = .ok (.iload_n 2, 1) := by decide +kernel
theorem dX8_remove_23 : decode cX8_remove 23 = .ok (.iadd, 1) := by decide +kernel
theorem dX8_remove_24 : decode cX8_remove 24 = .ok (.aload_n 0, 1) := by decide +kernel
theorem dX8_remove_25 : decode cX8_remove 25 = .ok (.getfield 34, 3) := by decide +kernel
theorem dX8_remove_28 : decode cX8_remove 28 = .ok (.if_icmp .ge 37, 3) := by decide +kernel
theorem dX8_remove_31 : decode cX8_remove 31 = .ok (.aload_n 0, 1) := by decide +kernel
theorem dX8_remove_32 : decode cX8_remove 32 = .ok (.getfield 9, 3) := by decide +kernel
theorem dX8_remove_35 : decode cX8_remove 35 = .ok (.iload_n 3, 1) := by decide +kernel
theorem dX8_remove_36 : decode cX8_remove 36 = .ok (.aload_n 0, 1) := by decide +kernel
theorem dX8_remove_37 : decode cX8_remove 37 = .ok (.getfield 9, 3) := by decide +kernel
theorem dX8_remove_40 : decode cX8_remove 40 = .ok (.iload_n 3, 1) := by decide +kernel
theorem dX8_remove_41 : decode cX8_remove 41 = .ok (.iload_n 2, 1) := by decide +kernel
theorem dX8_remove_42 : decode cX8_remove 42 = .ok (.iadd, 1) := by decide +kernel
theorem dX8_remove_43 : decode cX8_remove 43 = .ok (.iaload, 1) := by decide +kernel
theorem dX8_remove_44 : decode cX8_remove 44 = .ok (.iastore, 1) := by decide +kernel
theorem dX8_remove_45 : decode cX8_remove 45 = .ok (.aload_n 0, 1) := by decide +kernel
theorem dX8_remove_46 : decode cX8_remove 46 = .ok (.getfield 15, 3) := by decide +kernel
theorem dX8_remove_49 : decode cX8_remove 49 = .ok (.iload_n 3, 1) := by decide +kernel
theorem dX8_remove_50 : decode cX8_remove 50 = .ok (.aload_n 0, 1) := by decide +kernel
theorem dX8_remove_51 : decode cX8_remove 51 = .ok (.getfield 15, 3) := by decide +kernel
theorem dX8_remove_54 : decode cX8_remove 54 = .ok (.iload_n 3, 1) := by decide +kernel
theorem dX8_remove_55 : decode cX8_remove 55 = .ok (.iload_n 2, 1) := by decide +kernel
theorem dX8_remove_56 : decode cX8_remove 56 = .ok (.iadd, 1) := by decide +kernel
theorem dX8_remove_57 : decode cX8_remove 57 = .ok (.laload, 1) := by decide +kernel
theorem dX8_remove_58 : decode cX8_remove 58 = .ok (.lastore, 1) := by decide +kernel
theorem dX8_remove_59 : decode cX8_remove 59 = .ok (.iinc 3 1, 3) := by decide +kernel
theorem dX8_remove_62 : decode cX8_remove 62 = .ok (.goto (-41), 3) := by decide +kernel
theorem dX8_remove_65 : decode cX8_remove 65 = .ok (.aload_n 0, 1) := by decide +kernel
theorem dX8_remove_66 : decode cX8_remove 66 = .ok (.dup, 1) := by decide +kernel
theorem dX8_remove_67 : decode cX8_remove 67 = .ok (.getfield 34, 3) := by decide +kernel
theorem dX8_remove_70 : decode cX8_remove 70 = .ok (.iload_n 2, 1) := by decide +kernel
theorem dX8_remove_71 : decode cX8_remove 71 = .ok (.isub, 1) := by decide +kernel
theorem dX8_remove_72 : decode cX8_remove 72 = .ok (.putfield 34, 3) := by decide +kernel
theorem dX8_remove_75 : decode cX8_remove 75 = .ok (.iconst 0, 1) := by decide +kernel
theorem dX8_remove_76 : decode cX8_remove 76 = .ok (.istore_n 3, 1) := by decide +kernel
theorem dX8_remove_77 : decode cX8_remove 77 = .ok (.iload_n 3, 1) := by decide +kernel
theorem dX8_remove_78 : decode cX8_remove 78 = .ok (.aload_n 0, 1) := by decide +kernel
theorem dX8_remove_79 : decode cX8_remove 79 = .ok (.getfield 34, 3) := by decide +kernel
theorem dX8_remove_82 : decode cX8_remove 82 = .ok (.if_icmp .ge 51, 3) := by decide +kernel
theorem dX8_remove_85 : decode cX8_remove 85 = .ok (.aload_n 0, 1) := by decide +kernel
theorem dX8_remove_86 : decode cX8_remove 86 = .ok (.iload_n 3, 1) := by decide +kernel
theorem dX8_remove_87 : decode cX8_remove 87 = .ok (.invokevirtual 97, 3) := by decide +kernel
theorem dX8_remove_90 : decode cX8_remove 90 = .ok (.istore 4, 2) := by decide +kernel
theorem dX8_remove_92 : decode cX8_remove 92 = .ok (.iconst 0, 1) := by decide +kernel
theorem dX8_remove_93 : decode cX8_remove 93 = .ok (.istore 5, 2) := by decide +kernel
theorem dX8_remove_95 : decode cX8_remove 95 = .ok (.iload 5, 2) := by decide +kernel
theorem dX8_remove_97 : decode cX8_remove 97 = .ok (.iload 4, 2) := by decide +kernel
theorem dX8_remove_99 : decode cX8_remove 99 = .ok (.if_icmp .ge 28, 3) := by decide +kernel
theorem dX8_remove_102 : decode cX8_remove 102 = .ok (.aload_n 0, 1) := by decide +kernel
theorem dX8_remove_103 : decode cX8_remove 103 = .ok (.iload_n 3, 1) := by decide +kernel
theorem dX8_remove_104 : decode cX8_remove 104 = .ok (.iload 5, 2) := by decide +kernel
theorem dX8_remove_106 : decode cX8_remove 106 = .ok (.aload_n 0, 1) := by decide +kernel
theorem dX8_remove_107 : decode cX8_remove 107 = .ok (.iload_n 3, 1) := by decide +kernel
theorem dX8_remove_108 : decode cX8_remove 108 = .ok (.iload 5, 2) := by decide +kernel
theorem dX8_remove_110 : decode cX8_remove 110 = .ok (.invokevirtual 100, 3) := by decide +kernel
theorem dX8_remove_113 : decode cX8_remove 113 = .ok (.iload_n 1, 1) := by decide +kernel
theorem dX8_remove_114 : decode cX8_remove 114 = .ok (.iload_n 2, 1) := by decide +kernel
theorem dX8_remove_115 : decode cX8_remove 115 = .ok (.invokestatic 104, 3) := by decide +kernel
theorem dX8_remove_118 : decode cX8_remove 118 = .ok (.invokevirtual 108, 3) := by decide +kernel
theorem dX8_remove_121 : decode cX8_remove 121 = .ok (.iinc 5 1, 3) := by decide +kernel
theorem dX8_remove_124 : decode cX8_remove 124 = .ok (.goto (-29), 3) := by decide +kernel
theorem dX8_remove_127 : decode cX8_remove 127 = .ok (.iinc 3 1, 3) := by decide +kernel
theorem dX8_remove_130 : decode cX8_remove 130 = .ok (.goto (-53), 3) := by decide +kernel
theorem dX8_remove_133 : decode cX8_remove 133 = .ok (.iconst 0, 1) := by decide +kernel
theorem dX8_remove_134 : decode cX8_remove 134 = .ok (.istore_n 3, 1) := by decide +kernel
theorem dX8_remove_135 : decode cX8_remove 135 = .ok (.iconst 0, 1) := by decide +kernel
theorem dX8_remove_136 : decode cX8_remove 136 = .ok (.istore 4, 2) := by decide +kernel
theorem dX8_remove_138 : decode cX8_remove 138 = .ok (.iload 4, 2) := by decide +kernel
theorem dX8_remove_140 : decode cX8_remove 140 = .ok (.aload_n 0, 1) := by decide +kernel
theorem dX8_remove_141 : decode cX8_remove 141 = .ok (.getfield 49, 3) := by decide +kernel
theorem dX8_remove_144 : decode cX8_remove 144 = .ok (.if_icmp .ge 94, 3) := by decide +kernel
theorem dX8_remove_147 : decode cX8_remove 147 = .ok (.aload_n 0, 1) := by decide +kernel

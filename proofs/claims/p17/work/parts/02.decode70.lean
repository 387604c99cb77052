theorem dX7_isNameAt_1 : decode cX7_isNameAt 1 = .ok (.aload_n 0, 1) := by decide +kernel
theorem dX7_isNameAt_2 : decode cX7_isNameAt 2 = .ok (.iload_n 1, 1) := by decide +kernel
theorem dX7_isNameAt_3 : decode cX7_isNameAt 3 = .ok (.invokevirtual 107, 3) := by decide +kernel
theorem dX7_isNameAt_6 : decode cX7_isNameAt 6 = .ok (.invokevirtual 156, 3) := by decide +kernel
theorem dX7_isNameAt_9 : decode cX7_isNameAt 9 = .ok (.iconst 1, 1) := by decide +kernel
theorem dX7_isNameAt_10 : decode cX7_isNameAt 10 = .ok (.if_icmp .eq 13, 3) := by decide +kernel
theorem dX7_isNameAt_13 : decode cX7_isNameAt 13 = .ok (.aload_n 0, 1) := by decide +kernel
theorem dX7_isNameAt_14 : decode cX7_isNameAt 14 = .ok (.bipush 9, 2) := by decide +kernel
theorem dX7_isNameAt_16 : decode cX7_isNameAt 16 = .ok (.iload_n 1, 1) := by decide +kernel
theorem dX7_isNameAt_17 : decode cX7_isNameAt 17 = .ok (.invokevirtual 87, 3) := by decide +kernel
theorem dX7_isNameAt_20 : decode cX7_isNameAt 20 = .ok (.ifCond .eq 7, 3) := by decide +kernel
theorem dX7_isNameAt_23 : decode cX7_isNameAt 23 = .ok (.iconst 1, 1) := by decide +kernel
theorem dX7_isNameAt_24 : decode cX7_isNameAt 24 = .ok (.goto 4, 3) := by decide +kernel
theorem dX7_isNameAt_27 : decode cX7_isNameAt 27 = .ok (.iconst 0, 1) := by decide +kernel
theorem dX7_isNameAt_28 : decode cX7_isNameAt 28 = .ok (.ireturn, 1) := by decide +kernel
theorem dX7_isSameName_0 : decode cX7_isSameName 0 = .ok (.aload_n 0, 1) := by decide +kernel
theorem dX7_isSameName_1 : decode cX7_isSameName 1 = .ok (.iload_n 1, 1) := by decide +kernel
theorem dX7_isSameName_2 : decode cX7_isSameName 2 = .ok (.invokevirtual 150, 3) := by decide +kernel
theorem dX7_isSameName_5 : decode cX7_isSameName 5 = .ok (.istore_n 3, 1) := by decide +kernel
theorem dX7_isSameName_6 : decode cX7_isSameName 6 = .ok (.aload_n 0, 1) := by decide +kernel
theorem dX7_isSameName_7 : decode cX7_isSameName 7 = .ok (.iload_n 2, 1) := by decide +kernel
theorem dX7_isSameName_8 : decode cX7_isSameName 8 = .ok (.invokevirtual 150, 3) := by decide +kernel
theorem dX7_isSameName_11 : decode cX7_isSameName 11 = .ok (.istore 4, 2) := by decide +kernel
theorem dX7_isSameName_13 : decode cX7_isSameName 13 = .ok (.aload_n 0, 1) := by decide +kernel
theorem dX7_isSameName_14 : decode cX7_isSameName 14 = .ok (.iload_n 3, 1) := by decide +kernel
theorem dX7_isSameName_15 : decode cX7_isSameName 15 = .ok (.iconst 1, 1) := by decide +kernel
theorem dX7_isSameName_16 : decode cX7_isSameName 16 = .ok (.iadd, 1) := by decide +kernel
theorem dX7_isSameName_17 : decode cX7_isSameName 17 = .ok (.invokevirtual 107, 3) := by decide +kernel
theorem dX7_isSameName_20 : decode cX7_isSameName 20 = .ok (.istore 5, 2) := by decide +kernel
theorem dX7_isSameName_22 : decode cX7_isSameName 22 = .ok (.iconst 1, 1) := by decide +kernel
theorem dX7_isSameName_23 : decode cX7_isSameName 23 = .ok (.istore 6, 2) := by decide +kernel
theorem dX7_isSameName_25 : decode cX7_isSameName 25 = .ok (.iload 6, 2) := by decide +kernel
theorem dX7_isSameName_27 : decode cX7_isSameName 27 = .ok (.iconst 3, 1) := by decide +kernel
theorem dX7_isSameName_28 : decode cX7_isSameName 28 = .ok (.iload 5, 2) := by decide +kernel
theorem dX7_isSameName_30 : decode cX7_isSameName 30 = .ok (.iadd, 1) := by decide +kernel
theorem dX7_isSameName_31 : decode cX7_isSameName 31 = .ok (.if_icmp .ge 31, 3) := by decide +kernel
theorem dX7_isSameName_34 : decode cX7_isSameName 34 = .ok (.aload_n 0, 1) := by decide +kernel
theorem dX7_isSameName_35 : decode cX7_isSameName 35 = .ok (.iload_n 3, 1) := by decide +kernel
theorem dX7_isSameName_36 : decode cX7_isSameName 36 = .ok (.iload 6, 2) := by decide +kernel
theorem dX7_isSameName_38 : decode cX7_isSameName 38 = .ok (.iadd, 1) := by decide +kernel
theorem dX7_isSameName_39 : decode cX7_isSameName 39 = .ok (.invokevirtual 100, 3) := by decide +kernel
theorem dX7_isSameName_42 : decode cX7_isSameName 42 = .ok (.aload_n 0, 1) := by decide +kernel
theorem dX7_isSameName_43 : decode cX7_isSameName 43 = .ok (.iload 4, 2) := by decide +kernel
theorem dX7_isSameName_45 : decode cX7_isSameName 45 = .ok (.iload 6, 2) := by decide +kernel
theorem dX7_isSameName_47 : decode cX7_isSameName 47 = .ok (.iadd, 1) := by decide +kernel
theorem dX7_isSameName_48 : decode cX7_isSameName 48 = .ok (.invokevirtual 100, 3) := by decide +kernel
theorem dX7_isSameName_51 : decode cX7_isSameName 51 = .ok (.if_icmp .eq 5, 3) := by decide +kernel
theorem dX7_isSameName_54 : decode cX7_isSameName 54 = .ok (.iconst 0, 1) := by decide +kernel
theorem dX7_isSameName_55 : decode cX7_isSameName 55 = .ok (.ireturn, 1) := by decide +kernel
theorem dX7_isSameName_56 : decode cX7_isSameName 56 = .ok (.iinc 6 1, 3) := by decide +kernel
theorem dX7_isSameName_59 : decode cX7_isSameName 59 = .ok (.goto (-34), 3) := by decide +kernel
theorem dX7_isSameName_62 : decode cX7_isSameName 62 = .ok (.iconst 1, 1) := by decide +kernel
theorem dX7_isSameName_63 : decode cX7_isSameName 63 = .ok (.ireturn, 1) := by decide +kernel
theorem dX7_isSound_0 : decode cX7_isSound 0 = .ok (.aload_n 0, 1) := by decide +kernel
theorem dX7_isSound_1 : decode cX7_isSound 1 = .ok (.aload_n 1, 1) := by decide +kernel
theorem dX7_isSound_2 : decode cX7_isSound 2 = .ok (.getfield 32, 3) := by decide +kernel
theorem dX7_isSound_5 : decode cX7_isSound 5 = .ok (.putfield 9, 3) := by decide +kernel
theorem dX7_isSound_8 : decode cX7_isSound 8 = .ok (.aload_n 0, 1) := by decide +kernel
theorem dX7_isSound_9 : decode cX7_isSound 9 = .ok (.aload_n 1, 1) := by decide +kernel
theorem dX7_isSound_10 : decode cX7_isSound 10 = .ok (.getfield 35, 3) := by decide +kernel
theorem dX7_isSound_13 : decode cX7_isSound 13 = .ok (.putfield 38, 3) := by decide +kernel
theorem dX7_isSound_16 : decode cX7_isSound 16 = .ok (.aload_n 0, 1) := by decide +kernel
theorem dX7_isSound_17 : decode cX7_isSound 17 = .ok (.iconst 0, 1) := by decide +kernel
theorem dX7_isSound_18 : decode cX7_isSound 18 = .ok (.putfield 41, 3) := by decide +kernel
theorem dX7_isSound_21 : decode cX7_isSound 21 = .ok (.aload_n 0, 1) := by decide +kernel
theorem dX7_isSound_22 : decode cX7_isSound 22 = .ok (.iconst (-1), 1) := by decide +kernel
theorem dX7_isSound_23 : decode cX7_isSound 23 = .ok (.putfield 15, 3) := by decide +kernel
theorem dX7_isSound_26 : decode cX7_isSound 26 = .ok (.aload_n 0, 1) := by decide +kernel
theorem dX7_isSound_27 : decode cX7_isSound 27 = .ok (.iconst 0, 1) := by decide +kernel
theorem dX7_isSound_28 : decode cX7_isSound 28 = .ok (.putfield 44, 3) := by decide +kernel
theorem dX7_isSound_31 : decode cX7_isSound 31 = .ok (.aload_n 0, 1) := by decide +kernel
theorem dX7_isSound_32 : decode cX7_isSound 32 = .ok (.invokevirtual 47, 3) := by decide +kernel
theorem dX7_isSound_35 : decode cX7_isSound 35 = .ok (.ifCond .eq 115, 3) := by decide +kernel
theorem dX7_isSound_38 : decode cX7_isSound 38 = .ok (.aload_n 0, 1) := by decide +kernel
theorem dX7_isSound_39 : decode cX7_isSound 39 = .ok (.invokevirtual 51, 3) := by decide +kernel
theorem dX7_isSound_42 : decode cX7_isSound 42 = .ok (.ifCond .eq 108, 3) := by decide +kernel
theorem dX7_isSound_45 : decode cX7_isSound 45 = .ok (.aload_n 0, 1) := by decide +kernel
theorem dX7_isSound_46 : decode cX7_isSound 46 = .ok (.invokevirtual 54, 3) := by decide +kernel
theorem dX7_isSound_49 : decode cX7_isSound 49 = .ok (.ifCond .eq 101, 3) := by decide +kernel
theorem dX7_isSound_52 : decode cX7_isSound 52 = .ok (.aload_n 0, 1) := by decide +kernel
theorem dX7_isSound_53 : decode cX7_isSound 53 = .ok (.invokevirtual 57, 3) := by decide +kernel
theorem dX7_isSound_56 : decode cX7_isSound 56 = .ok (.ifCond .eq 94, 3) := by decide +kernel
theorem dX7_isSound_59 : decode cX7_isSound 59 = .ok (.aload_n 0, 1) := by decide +kernel
theorem dX7_isSound_60 : decode cX7_isSound 60 = .ok (.invokevirtual 60, 3) := by decide +kernel
theorem dX7_isSound_63 : decode cX7_isSound 63 = .ok (.ifCond .eq 87, 3) := by decide +kernel
theorem dX7_isSound_66 : decode cX7_isSound 66 = .ok (.aload_n 0, 1) := by decide +kernel
theorem dX7_isSound_67 : decode cX7_isSound 67 = .ok (.invokevirtual 63, 3) := by decide +kernel
theorem dX7_isSound_70 : decode cX7_isSound 70 = .ok (.ifCond .eq 80, 3) := by decide +kernel
theorem dX7_isSound_73 : decode cX7_isSound 73 = .ok (.aload_n 0, 1) := by decide +kernel
theorem dX7_isSound_74 : decode cX7_isSound 74 = .ok (.invokevirtual 66, 3) := by decide +kernel
theorem dX7_isSound_77 : decode cX7_isSound 77 = .ok (.ifCond .eq 73, 3) := by decide +kernel
theorem dX7_isSound_80 : decode cX7_isSound 80 = .ok (.aload_n 0, 1) := by decide +kernel
theorem dX7_isSound_81 : decode cX7_isSound 81 = .ok (.invokevirtual 69, 3) := by decide +kernel
theorem dX7_isSound_84 : decode cX7_isSound 84 = .ok (.ifCond .eq 66, 3) := by decide +kernel
theorem dX7_isSound_87 : decode cX7_isSound 87 = .ok (.aload_n 0, 1) := by decide +kernel
theorem dX7_isSound_88 : decode cX7_isSound 88 = .ok (.invokevirtual 72, 3) := by decide +kernel
theorem dX7_isSound_91 : decode cX7_isSound 91 = .ok (.ifCond .eq 59, 3) := by decide +kernel
theorem dX7_isSound_94 : decode cX7_isSound 94 = .ok (.aload_n 0, 1) := by decide +kernel
theorem dX7_isSound_95 : decode cX7_isSound 95 = .ok (.invokevirtual 75, 3) := by decide +kernel
theorem dX7_isSound_98 : decode cX7_isSound 98 = .ok (.ifCond .eq 52, 3) := by decide +kernel
theorem dX7_isSound_101 : decode cX7_isSound 101 = .ok (.aload_n 0, 1) := by decide +kernel
theorem dX7_isSound_102 : decode cX7_isSound 102 = .ok (.invokevirtual 78, 3) := by decide +kernel
theorem dX7_isSound_105 : decode cX7_isSound 105 = .ok (.ifCond .eq 45, 3) := by decide +kernel
theorem dX7_isSound_108 : decode cX7_isSound 108 = .ok (.aload_n 0, 1) := by decide +kernel
theorem dX7_isSound_109 : decode cX7_isSound 109 = .ok (.invokevirtual 81, 3) := by decide +kernel
theorem dX7_isSound_112 : decode cX7_isSound 112 = .ok (.ifCond .eq 38, 3) := by decide +kernel
theorem dX7_isSound_115 : decode cX7_isSound 115 = .ok (.aload_n 0, 1) := by decide +kernel
theorem dX7_isSound_116 : decode cX7_isSound 116 = .ok (.invokevirtual 84, 3) := by decide +kernel
theorem dX7_isSound_119 : decode cX7_isSound 119 = .ok (.ifCond .eq 31, 3) := by decide +kernel
theorem dX7_isSound_122 : decode cX7_isSound 122 = .ok (.aload_n 0, 1) := by decide +kernel
theorem dX7_isSound_123 : decode cX7_isSound 123 = .ok (.getfield 44, 3) := by decide +kernel
theorem dX7_isSound_126 : decode cX7_isSound 126 = .ok (.aload_n 0, 1) := by decide +kernel
theorem dX7_isSound_127 : decode cX7_isSound 127 = .ok (.getfield 38, 3) := by decide +kernel
theorem dX7_isSound_130 : decode cX7_isSound 130 = .ok (.if_icmp .eq 16, 3) := by decide +kernel
theorem dX7_isSound_133 : decode cX7_isSound 133 = .ok (.aload_n 0, 1) := by decide +kernel
theorem dX7_isSound_134 : decode cX7_isSound 134 = .ok (.bipush 17, 2) := by decide +kernel
theorem dX7_isSound_136 : decode cX7_isSound 136 = .ok (.aload_n 0, 1) := by decide +kernel
theorem dX7_isSound_137 : decode cX7_isSound 137 = .ok (.getfield 44, 3) := by decide +kernel
theorem dX7_isSound_140 : decode cX7_isSound 140 = .ok (.invokevirtual 87, 3) := by decide +kernel
theorem dX7_isSound_143 : decode cX7_isSound 143 = .ok (.ifCond .eq 7, 3) := by decide +kernel
theorem dX7_isSound_146 : decode cX7_isSound 146 = .ok (.iconst 1, 1) := by decide +kernel
theorem dX7_isSound_147 : decode cX7_isSound 147 = .ok (.goto 4, 3) := by decide +kernel
theorem dX7_isSound_150 : decode cX7_isSound 150 = .ok (.iconst 0, 1) := by decide +kernel
theorem dX7_isSound_151 : decode cX7_isSound 151 = .ok (.ireturn, 1) := by decide +kernel
theorem dX7_isText_0 : decode cX7_isText 0 = .ok (.aload_n 0, 1) := by decide +kernel
theorem dX7_isText_1 : decode cX7_isText 1 = .ok (.iload_n 1, 1) := by decide +kernel
theorem dX7_isText_2 : decode cX7_isText 2 = .ok (.invokevirtual 190, 3) := by decide +kernel
theorem dX7_isText_5 : decode cX7_isText 5 = .ok (.aload_n 2, 1) := by decide +kernel
theorem dX7_isText_6 : decode cX7_isText 6 = .ok (.invokevirtual 202, 3) := by decide +kernel
theorem dX7_isText_9 : decode cX7_isText 9 = .ok (.if_icmp .eq 5, 3) := by decide +kernel
theorem dX7_isText_12 : decode cX7_isText 12 = .ok (.iconst 0, 1) := by decide +kernel
theorem dX7_isText_13 : decode cX7_isText 13 = .ok (.ireturn, 1) := by decide +kernel
theorem dX7_isText_14 : decode cX7_isText 14 = .ok (.iconst 0, 1) := by decide +kernel
theorem dX7_isText_15 : decode cX7_isText 15 = .ok (.istore_n 3, 1) := by decide +kernel
theorem dX7_isText_16 : decode cX7_isText 16 = .ok (.iload_n 3, 1) := by decide +kernel
theorem dX7_isText_17 : decode cX7_isText 17 = .ok (.aload_n 2, 1) := by decide +kernel
theorem dX7_isText_18 : decode cX7_isText 18 = .ok (.invokevirtual 202, 3) := by decide +kernel
theorem dX7_isText_21 : decode cX7_isText 21 = .ok (.if_icmp .ge 25, 3) := by decide +kernel
theorem dX7_isText_24 : decode cX7_isText 24 = .ok (.aload_n 0, 1) := by decide +kernel
theorem dX7_isText_25 : decode cX7_isText 25 = .ok (.iload_n 1, 1) := by decide +kernel
theorem dX7_isText_26 : decode cX7_isText 26 = .ok (.iload_n 3, 1) := by decide +kernel
theorem dX7_isText_27 : decode cX7_isText 27 = .ok (.invokevirtual 193, 3) := by decide +kernel
theorem dX7_isText_30 : decode cX7_isText 30 = .ok (.aload_n 2, 1) := by decide +kernel
theorem dX7_isText_31 : decode cX7_isText 31 = .ok (.iload_n 3, 1) := by decide +kernel
theorem dX7_isText_32 : decode cX7_isText 32 = .ok (.invokevirtual 208, 3) := by decide +kernel
theorem dX7_isText_35 : decode cX7_isText 35 = .ok (.if_icmp .eq 5, 3) := by decide +kernel
theorem dX7_isText_38 : decode cX7_isText 38 = .ok (.iconst 0, 1) := by decide +kernel
theorem dX7_isText_39 : decode cX7_isText 39 = .ok (.ireturn, 1) := by decide +kernel
theorem dX7_isText_40 : decode cX7_isText 40 = .ok (.iinc 3 1, 3) := by decide +kernel
theorem dX7_isText_43 : decode cX7_isText 43 = .ok (.goto (-27), 3) := by decide +kernel

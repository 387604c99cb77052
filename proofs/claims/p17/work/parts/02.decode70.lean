theorem dX7_isSound_22 : decode cX7_isSound 22 = .ok (.iconst (-1), 1) := by decide +kernel
theorem dX7_isSound_23 : decode cX7_isSound 23 = .ok (.putfield 15, 3) := by decide +kernel
theorem dX7_isSound_26 : decode cX7_isSound 26 = .ok (.aload_n 0, 1) := by decide +kernel
theorem dX7_isSound_27 : decode cX7_isSound 27 = .ok (.iconst 0, 1) := by decide +kernel
theorem dX7_isSound_28 : decode cX7_isSound 28 = .ok (.putfield 44, 3) := by decide +kernel
theorem dX7_isSound_31 : decode cX7_isSound 31 = .ok (.aload_n 0, 1) := by decide +kernel
theorem dX7_isSound_32 : decode cX7_isSound 32 = .ok (.invokevirtual 47, 3) := by decide +kernel
theorem dX7_isSound_35 : decode cX7_isSound 35 = .ok (.ifCond .eq 115, 3) := by decide +kernel
theorem dX7_isSound_38 : decode cX7_isSound 38 = .ok (.aload_n 0, 1) := by decide +kernel
theorem dX7_isSound_39 : decode cX7_isSound 39 = .ok (.invokevirtual 51, 3) := by decide +kernel
theorem dX7_isSound_42 : decode cX7_isSound 42 = .ok (.ifCond .eq 108, 3) := by decide +kernel
theorem dX7_isSound_45 : decode cX7_isSound 45 = .ok (.aload_n 0, 1) := by decide +kernel
theorem dX7_isSound_46 : decode cX7_isSound 46 = .ok (.invokevirtual 54, 3) := by decide +kernel
theorem dX7_isSound_49 : decode cX7_isSound 49 = .ok (.ifCond .eq 101, 3) := by decide +kernel
theorem dX7_isSound_52 : decode cX7_isSound 52 = .ok (.aload_n 0, 1) := by decide +kernel
theorem dX7_isSound_53 : decode cX7_isSound 53 = .ok (.invokevirtual 57, 3) := by decide +kernel
theorem dX7_isSound_56 : decode cX7_isSound 56 = .ok (.ifCond .eq 94, 3) := by decide +kernel
theorem dX7_isSound_59 : decode cX7_isSound 59 = .ok (.aload_n 0, 1) := by decide +kernel
theorem dX7_isSound_60 : decode cX7_isSound 60 = .ok (.invokevirtual 60, 3) := by decide +kernel
theorem dX7_isSound_63 : decode cX7_isSound 63 = .ok (.ifCond .eq 87, 3) := by decide +kernel
theorem dX7_isSound_66 : decode cX7_isSound 66 = .ok (.aload_n 0, 1) := by decide +kernel
theorem dX7_isSound_67 : decode cX7_isSound 67 = .ok (.invokevirtual 63, 3) := by decide +kernel
theorem dX7_isSound_70 : decode cX7_isSound 70 = .ok (.ifCond .eq 80, 3) := by decide +kernel
theorem dX7_isSound_73 : decode cX7_isSound 73 = .ok (.aload_n 0, 1) := by decide +kernel
theorem dX7_isSound_74 : decode cX7_isSound 74 = .ok (.invokevirtual 66, 3) := by decide +kernel
theorem dX7_isSound_77 : decode cX7_isSound 77 = .ok (.ifCond .eq 73, 3) := by decide +kernel
theorem dX7_isSound_80 : decode cX7_isSound 80 = .ok (.aload_n 0, 1) := by decide +kernel
theorem dX7_isSound_81 : decode cX7_isSound 81 = .ok (.invokevirtual 69, 3) := by decide +kernel
theorem dX7_isSound_84 : decode cX7_isSound 84 = .ok (.ifCond .eq 66, 3) := by decide +kernel
theorem dX7_isSound_87 : decode cX7_isSound 87 = .ok (.aload_n 0, 1) := by decide +kernel
theorem dX7_isSound_88 : decode cX7_isSound 88 = .ok (.invokevirtual 72, 3) := by decide +kernel
theorem dX7_isSound_91 : decode cX7_isSound 91 = .ok (.ifCond .eq 59, 3) := by decide +kernel
theorem dX7_isSound_94 : decode cX7_isSound 94 = .ok (.aload_n 0, 1) := by decide +kernel
theorem dX7_isSound_95 : decode cX7_isSound 95 = .ok (.invokevirtual 75, 3) := by decide +kernel
theorem dX7_isSound_98 : decode cX7_isSound 98 = .ok (.ifCond .eq 52, 3) := by decide +kernel
theorem dX7_isSound_101 : decode cX7_isSound 101 = .ok (.aload_n 0, 1) := by decide +kernel
theorem dX7_isSound_102 : decode cX7_isSound 102 = .ok (.invokevirtual 78, 3) := by decide +kernel
theorem dX7_isSound_105 : decode cX7_isSound 105 = .ok (.ifCond .eq 45, 3) := by decide +kernel
theorem dX7_isSound_108 : decode cX7_isSound 108 = .ok (.aload_n 0, 1) := by decide +kernel
theorem dX7_isSound_109 : decode cX7_isSound 109 = .ok (.invokevirtual 81, 3) := by decide +kernel
theorem dX7_isSound_112 : decode cX7_isSound 112 = .ok (.ifCond .eq 38, 3) := by decide +kernel
theorem dX7_isSound_115 : decode cX7_isSound 115 = .ok (.aload_n 0, 1) := by decide +kernel
theorem dX7_isSound_116 : decode cX7_isSound 116 = .ok (.invokevirtual 84, 3) := by decide +kernel
theorem dX7_isSound_119 : decode cX7_isSound 119 = .ok (.ifCond .eq 31, 3) := by decide +kernel
theorem dX7_isSound_122 : decode cX7_isSound 122 = .ok (.aload_n 0, 1) := by decide +kernel
theorem dX7_isSound_123 : decode cX7_isSound 123 = .ok (.getfield 44, 3) := by decide +kernel
theorem dX7_isSound_126 : decode cX7_isSound 126 = .ok (.aload_n 0, 1) := by decide +kernel
theorem dX7_isSound_127 : decode cX7_isSound 127 = .ok (.getfield 38, 3) := by decide +kernel
theorem dX7_isSound_130 : decode cX7_isSound 130 = .ok (.if_icmp .eq 16, 3) := by decide +kernel
theorem dX7_isSound_133 : decode cX7_isSound 133 = .ok (.aload_n 0, 1) := by decide +kernel
theorem dX7_isSound_134 : decode cX7_isSound 134 = .ok (.bipush 17, 2) := by decide +kernel
theorem dX7_isSound_136 : decode cX7_isSound 136 = .ok (.aload_n 0, 1) := by decide +kernel
theorem dX7_isSound_137 : decode cX7_isSound 137 = .ok (.getfield 44, 3) := by decide +kernel
theorem dX7_isSound_140 : decode cX7_isSound 140 = .ok (.invokevirtual 87, 3) := by decide +kernel
theorem dX7_isSound_143 : decode cX7_isSound 143 = .ok (.ifCond .eq 7, 3) := by decide +kernel
theorem dX7_isSound_146 : decode cX7_isSound 146 = .ok (.iconst 1, 1) := by decide +kernel
theorem dX7_isSound_147 : decode cX7_isSound 147 = .ok (.goto 4, 3) := by decide +kernel
theorem dX7_isSound_150 : decode cX7_isSound 150 = .ok (.iconst 0, 1) := by decide +kernel
theorem dX7_isSound_151 : decode cX7_isSound 151 = .ok (.ireturn, 1) := by decide +kernel
theorem dX7_isText_0 : decode cX7_isText 0 = .ok (.aload_n 0, 1) := by decide +kernel
theorem dX7_isText_1 : decode cX7_isText 1 = .ok (.iload_n 1, 1) := by decide +kernel
theorem dX7_isText_2 : decode cX7_isText 2 = .ok (.invokevirtual 190, 3) := by decide +kernel
theorem dX7_isText_5 : decode cX7_isText 5 = .ok (.aload_n 2, 1) := by decide +kernel
theorem dX7_isText_6 : decode cX7_isText 6 = .ok (.invokevirtual 202, 3) := by decide +kernel
theorem dX7_isText_9 : decode cX7_isText 9 = .ok (.if_icmp .eq 5, 3) := by decide +kernel
theorem dX7_isText_12 : decode cX7_isText 12 = .ok (.iconst 0, 1) := by decide +kernel
theorem dX7_isText_13 : decode cX7_isText 13 = .ok (.ireturn, 1) := by decide +kernel
theorem dX7_isText_14 : decode cX7_isText 14 = .ok (.iconst 0, 1) := by decide +kernel
theorem dX7_isText_15 : decode cX7_isText 15 = .ok (.istore_n 3, 1) := by decide +kernel
theorem dX7_isText_16 : decode cX7_isText 16 = .ok (.iload_n 3, 1) := by decide +kernel
theorem dX7_isText_17 : decode cX7_isText 17 = .ok (.aload_n 2, 1) := by decide +kernel
theorem dX7_isText_18 : decode cX7_isText 18 = .ok (.invokevirtual 202, 3) := by decide +kernel
theorem dX7_isText_21 : decode cX7_isText 21 = .ok (.if_icmp .ge 25, 3) := by decide +kernel
theorem dX7_isText_24 : decode cX7_isText 24 = .ok (.aload_n 0, 1) := by decide +kernel
theorem dX7_isText_25 : decode cX7_isText 25 = .ok (.iload_n 1, 1) := by decide +kernel
theorem dX7_isText_26 : decode cX7_isText 26 = .ok (.iload_n 3, 1) := by decide +kernel
theorem dX7_isText_27 : decode cX7_isText 27 = .ok (.invokevirtual 193, 3) := by decide +kernel
theorem dX7_isText_30 : decode cX7_isText 30 = .ok (.aload_n 2, 1) := by decide +kernel
theorem dX7_isText_31 : decode cX7_isText 31 = .ok (.iload_n 3, 1) := by decide +kernel
theorem dX7_isText_32 : decode cX7_isText 32 = .ok (.invokevirtual 208, 3) := by decide +kernel
theorem dX7_isText_35 : decode cX7_isText 35 = .ok (.if_icmp .eq 5, 3) := by decide +kernel
theorem dX7_isText_38 : decode cX7_isText 38 = .ok (.iconst 0, 1) := by decide +kernel
theorem dX7_isText_39 : decode cX7_isText 39 = .ok (.ireturn, 1) := by decide +kernel
theorem dX7_isText_40 : decode cX7_isText 40 = .ok (.iinc 3 1, 3) := by decide +kernel
theorem dX7_isText_43 : decode cX7_isText 43 = .ok (.goto (-27), 3) := by decide +kernel
theorem dX7_isText_46 : decode cX7_isText 46 = .ok (.iconst 1, 1) := by decide +kernel
theorem dX7_isText_47 : decode cX7_isText 47 = .ok (.ireturn, 1) := by decide +kernel
theorem dX7_isThere_0 : decode cX7_isThere 0 = .ok (.iload_n 1, 1) := by decide +kernel
theorem dX7_isThere_1 : decode cX7_isThere 1 = .ok (.aload_n 0, 1) := by decide +kernel
theorem dX7_isThere_2 : decode cX7_isThere 2 = .ok (.getfield 38, 3) := by decide +kernel
theorem dX7_isThere_5 : decode cX7_isThere 5 = .ok (.aload_n 0, 1) := by decide +kernel
theorem dX7_isThere_6 : decode cX7_isThere 6 = .ok (.getfield 44, 3) := by decide +kernel
theorem dX7_isThere_9 : decode cX7_isThere 9 = .ok (.isub, 1) := by decide +kernel
theorem dX7_isThere_10 : decode cX7_isThere 10 = .ok (.if_icmp .le 15, 3) := by decide +kernel
theorem dX7_isThere_13 : decode cX7_isThere 13 = .ok (.aload_n 0, 1) := by decide +kernel
theorem dX7_isThere_14 : decode cX7_isThere 14 = .ok (.iconst 2, 1) := by decide +kernel
theorem dX7_isThere_15 : decode cX7_isThere 15 = .ok (.aload_n 0, 1) := by decide +kernel
theorem dX7_isThere_16 : decode cX7_isThere 16 = .ok (.getfield 38, 3) := by decide +kernel
theorem dX7_isThere_19 : decode cX7_isThere 19 = .ok (.invokevirtual 87, 3) := by decide +kernel
theorem dX7_isThere_22 : decode cX7_isThere 22 = .ok (.ifCond .eq 7, 3) := by decide +kernel
theorem dX7_isThere_25 : decode cX7_isThere 25 = .ok (.iconst 1, 1) := by decide +kernel
theorem dX7_isThere_26 : decode cX7_isThere 26 = .ok (.goto 4, 3) := by decide +kernel
theorem dX7_isThere_29 : decode cX7_isThere 29 = .ok (.iconst 0, 1) := by decide +kernel
theorem dX7_isThere_30 : decode cX7_isThere 30 = .ok (.ireturn, 1) := by decide +kernel
theorem dX7_kindOfPart_0 : decode cX7_kindOfPart 0 = .ok (.iload_n 2, 1) := by decide +kernel
theorem dX7_kindOfPart_1 : decode cX7_kindOfPart 1 = .ok (.aload_n 0, 1) := by decide +kernel
theorem dX7_kindOfPart_2 : decode cX7_kindOfPart 2 = .ok (.iload_n 1, 1) := by decide +kernel
theorem dX7_kindOfPart_3 : decode cX7_kindOfPart 3 = .ok (.invokevirtual 190, 3) := by decide +kernel
theorem dX7_kindOfPart_6 : decode cX7_kindOfPart 6 = .ok (.if_icmp .lt 5, 3) := by decide +kernel
theorem dX7_kindOfPart_9 : decode cX7_kindOfPart 9 = .ok (.iconst 0, 1) := by decide +kernel
theorem dX7_kindOfPart_10 : decode cX7_kindOfPart 10 = .ok (.ireturn, 1) := by decide +kernel
theorem dX7_kindOfPart_11 : decode cX7_kindOfPart 11 = .ok (.aload_n 0, 1) := by decide +kernel
theorem dX7_kindOfPart_12 : decode cX7_kindOfPart 12 = .ok (.iload_n 1, 1) := by decide +kernel
theorem dX7_kindOfPart_13 : decode cX7_kindOfPart 13 = .ok (.iload_n 2, 1) := by decide +kernel
theorem dX7_kindOfPart_14 : decode cX7_kindOfPart 14 = .ok (.invokevirtual 193, 3) := by decide +kernel
theorem dX7_kindOfPart_17 : decode cX7_kindOfPart 17 = .ok (.lookupswitch 69 #[(73, 35), (74, 37), (91, 39)], 35) := by decide +kernel
theorem dX7_kindOfPart_52 : decode cX7_kindOfPart 52 = .ok (.iconst 1, 1) := by decide +kernel
theorem dX7_kindOfPart_53 : decode cX7_kindOfPart 53 = .ok (.ireturn, 1) := by decide +kernel
theorem dX7_kindOfPart_54 : decode cX7_kindOfPart 54 = .ok (.iconst 2, 1) := by decide +kernel
theorem dX7_kindOfPart_55 : decode cX7_kindOfPart 55 = .ok (.ireturn, 1) := by decide +kernel
theorem dX7_kindOfPart_56 : decode cX7_kindOfPart 56 = .ok (.iload_n 2, 1) := by decide +kernel
theorem dX7_kindOfPart_57 : decode cX7_kindOfPart 57 = .ok (.iconst 1, 1) := by decide +kernel
theorem dX7_kindOfPart_58 : decode cX7_kindOfPart 58 = .ok (.iadd, 1) := by decide +kernel
theorem dX7_kindOfPart_59 : decode cX7_kindOfPart 59 = .ok (.aload_n 0, 1) := by decide +kernel
theorem dX7_kindOfPart_60 : decode cX7_kindOfPart 60 = .ok (.iload_n 1, 1) := by decide +kernel
theorem dX7_kindOfPart_61 : decode cX7_kindOfPart 61 = .ok (.invokevirtual 190, 3) := by decide +kernel
theorem dX7_kindOfPart_64 : decode cX7_kindOfPart 64 = .ok (.if_icmp .ge 20, 3) := by decide +kernel
theorem dX7_kindOfPart_67 : decode cX7_kindOfPart 67 = .ok (.aload_n 0, 1) := by decide +kernel
theorem dX7_kindOfPart_68 : decode cX7_kindOfPart 68 = .ok (.iload_n 1, 1) := by decide +kernel
theorem dX7_kindOfPart_69 : decode cX7_kindOfPart 69 = .ok (.iload_n 2, 1) := by decide +kernel
theorem dX7_kindOfPart_70 : decode cX7_kindOfPart 70 = .ok (.iconst 1, 1) := by decide +kernel
theorem dX7_kindOfPart_71 : decode cX7_kindOfPart 71 = .ok (.iadd, 1) := by decide +kernel
theorem dX7_kindOfPart_72 : decode cX7_kindOfPart 72 = .ok (.invokevirtual 193, 3) := by decide +kernel
theorem dX7_kindOfPart_75 : decode cX7_kindOfPart 75 = .ok (.bipush 73, 2) := by decide +kernel
theorem dX7_kindOfPart_77 : decode cX7_kindOfPart 77 = .ok (.if_icmp .ne 7, 3) := by decide +kernel
theorem dX7_kindOfPart_80 : decode cX7_kindOfPart 80 = .ok (.iconst 3, 1) := by decide +kernel
theorem dX7_kindOfPart_81 : decode cX7_kindOfPart 81 = .ok (.goto 4, 3) := by decide +kernel
theorem dX7_kindOfPart_84 : decode cX7_kindOfPart 84 = .ok (.iconst 0, 1) := by decide +kernel
theorem dX7_kindOfPart_85 : decode cX7_kindOfPart 85 = .ok (.ireturn, 1) := by decide +kernel
theorem dX7_kindOfPart_86 : decode cX7_kindOfPart 86 = .ok (.iconst 0, 1) := by decide +kernel
theorem dX7_kindOfPart_87 : decode cX7_kindOfPart 87 = .ok (.ireturn, 1) := by decide +kernel
theorem dX7_kindOfType_0 : decode cX7_kindOfType 0 = .ok (.aload_n 0, 1) := by decide +kernel
theorem dX7_kindOfType_1 : decode cX7_kindOfType 1 = .ok (.iload_n 1, 1) := by decide +kernel
theorem dX7_kindOfType_2 : decode cX7_kindOfType 2 = .ok (.iconst 0, 1) := by decide +kernel
theorem dX7_kindOfType_3 : decode cX7_kindOfType 3 = .ok (.invokevirtual 186, 3) := by decide +kernel
theorem dX7_kindOfType_6 : decode cX7_kindOfType 6 = .ok (.istore_n 2, 1) := by decide +kernel
theorem dX7_kindOfType_7 : decode cX7_kindOfType 7 = .ok (.aload_n 0, 1) := by decide +kernel
theorem dX7_kindOfType_8 : decode cX7_kindOfType 8 = .ok (.iload_n 1, 1) := by decide +kernel
theorem dX7_kindOfType_9 : decode cX7_kindOfType 9 = .ok (.invokevirtual 190, 3) := by decide +kernel
theorem dX7_kindOfType_12 : decode cX7_kindOfType 12 = .ok (.iload_n 2, 1) := by decide +kernel

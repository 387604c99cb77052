theorem dX9_makeRoom_4 : decode cX9_makeRoom 4 = .ok (.getfield 43, 3) := by decide +kernel
theorem dX9_makeRoom_7 : decode cX9_makeRoom 7 = .ok (.arraylength, 1) := by decide +kernel
theorem dX9_makeRoom_8 : decode cX9_makeRoom 8 = .ok (.sipush 1296, 3) := by decide +kernel
theorem dX9_makeRoom_11 : decode cX9_makeRoom 11 = .ok (.if_icmp .ge 58, 3) := by decide +kernel
theorem dX9_makeRoom_14 : decode cX9_makeRoom 14 = .ok (.aload_n 0, 1) := by decide +kernel
theorem dX9_makeRoom_15 : decode cX9_makeRoom 15 = .ok (.new 9, 3) := by decide +kernel
theorem dX9_makeRoom_18 : decode cX9_makeRoom 18 = .ok (.dup, 1) := by decide +kernel
theorem dX9_makeRoom_19 : decode cX9_makeRoom 19 = .ok (.sipush 1296, 3) := by decide +kernel
theorem dX9_makeRoom_22 : decode cX9_makeRoom 22 = .ok (.sipush 1200, 3) := by decide +kernel
theorem dX9_makeRoom_25 : decode cX9_makeRoom 25 = .ok (.bipush 16, 2) := by decide +kernel
theorem dX9_makeRoom_27 : decode cX9_makeRoom 27 = .ok (.invokespecial 11, 3) := by decide +kernel
theorem dX9_makeRoom_30 : decode cX9_makeRoom 30 = .ok (.putfield 14, 3) := by decide +kernel
theorem dX9_makeRoom_33 : decode cX9_makeRoom 33 = .ok (.aload_n 0, 1) := by decide +kernel
theorem dX9_makeRoom_34 : decode cX9_makeRoom 34 = .ok (.sipush 1297, 3) := by decide +kernel
theorem dX9_makeRoom_37 : decode cX9_makeRoom 37 = .ok (.newarray .boolean, 2) := by decide +kernel
theorem dX9_makeRoom_39 : decode cX9_makeRoom 39 = .ok (.putfield 24, 3) := by decide +kernel
theorem dX9_makeRoom_42 : decode cX9_makeRoom 42 = .ok (.aload_n 0, 1) := by decide +kernel
theorem dX9_makeRoom_43 : decode cX9_makeRoom 43 = .ok (.sipush 1297, 3) := by decide +kernel
theorem dX9_makeRoom_46 : decode cX9_makeRoom 46 = .ok (.newarray .boolean, 2) := by decide +kernel
theorem dX9_makeRoom_48 : decode cX9_makeRoom 48 = .ok (.putfield 28, 3) := by decide +kernel
theorem dX9_makeRoom_51 : decode cX9_makeRoom 51 = .ok (.aload_n 0, 1) := by decide +kernel
theorem dX9_makeRoom_52 : decode cX9_makeRoom 52 = .ok (.sipush 1297, 3) := by decide +kernel
theorem dX9_makeRoom_55 : decode cX9_makeRoom 55 = .ok (.newarray .int, 2) := by decide +kernel
theorem dX9_makeRoom_57 : decode cX9_makeRoom 57 = .ok (.putfield 31, 3) := by decide +kernel
theorem dX9_makeRoom_60 : decode cX9_makeRoom 60 = .ok (.aload_n 0, 1) := by decide +kernel
theorem dX9_makeRoom_61 : decode cX9_makeRoom 61 = .ok (.sipush 1297, 3) := by decide +kernel
theorem dX9_makeRoom_64 : decode cX9_makeRoom 64 = .ok (.newarray .int, 2) := by decide +kernel
theorem dX9_makeRoom_66 : decode cX9_makeRoom 66 = .ok (.putfield 34, 3) := by decide +kernel
theorem dX9_makeRoom_69 : decode cX9_makeRoom 69 = .ok (.aload_n 0, 1) := by decide +kernel
theorem dX9_makeRoom_70 : decode cX9_makeRoom 70 = .ok (.getfield 14, 3) := by decide +kernel
theorem dX9_makeRoom_73 : decode cX9_makeRoom 73 = .ok (.aload_n 1, 1) := by decide +kernel
theorem dX9_makeRoom_74 : decode cX9_makeRoom 74 = .ok (.getfield 46, 3) := by decide +kernel
theorem dX9_makeRoom_77 : decode cX9_makeRoom 77 = .ok (.putfield 46, 3) := by decide +kernel
theorem dX9_makeRoom_80 : decode cX9_makeRoom 80 = .ok (.return_, 1) := by decide +kernel
theorem dX9_mark_0 : decode cX9_mark 0 = .ok (.iload_n 1, 1) := by decide +kernel
theorem dX9_mark_1 : decode cX9_mark 1 = .ok (.ifCond .lt 19, 3) := by decide +kernel
theorem dX9_mark_4 : decode cX9_mark 4 = .ok (.iload_n 1, 1) := by decide +kernel
theorem dX9_mark_5 : decode cX9_mark 5 = .ok (.aload_n 0, 1) := by decide +kernel
theorem dX9_mark_6 : decode cX9_mark 6 = .ok (.getfield 24, 3) := by decide +kernel
theorem dX9_mark_9 : decode cX9_mark 9 = .ok (.arraylength, 1) := by decide +kernel
theorem dX9_mark_10 : decode cX9_mark 10 = .ok (.if_icmp .ge 10, 3) := by decide +kernel
theorem dX9_mark_13 : decode cX9_mark 13 = .ok (.aload_n 0, 1) := by decide +kernel
theorem dX9_mark_14 : decode cX9_mark 14 = .ok (.getfield 24, 3) := by decide +kernel
theorem dX9_mark_17 : decode cX9_mark 17 = .ok (.iload_n 1, 1) := by decide +kernel
theorem dX9_mark_18 : decode cX9_mark 18 = .ok (.iconst 1, 1) := by decide +kernel
theorem dX9_mark_19 : decode cX9_mark 19 = .ok (.bastore, 1) := by decide +kernel
theorem dX9_mark_20 : decode cX9_mark 20 = .ok (.return_, 1) := by decide +kernel
theorem dX9_placeOf_0 : decode cX9_placeOf 0 = .ok (.iload_n 1, 1) := by decide +kernel
theorem dX9_placeOf_1 : decode cX9_placeOf 1 = .ok (.ifCond .lt 12, 3) := by decide +kernel
theorem dX9_placeOf_4 : decode cX9_placeOf 4 = .ok (.iload_n 1, 1) := by decide +kernel
theorem dX9_placeOf_5 : decode cX9_placeOf 5 = .ok (.aload_n 0, 1) := by decide +kernel
theorem dX9_placeOf_6 : decode cX9_placeOf 6 = .ok (.getfield 34, 3) := by decide +kernel
theorem dX9_placeOf_9 : decode cX9_placeOf 9 = .ok (.arraylength, 1) := by decide +kernel
theorem dX9_placeOf_10 : decode cX9_placeOf 10 = .ok (.if_icmp .lt 7, 3) := by decide +kernel
theorem dX9_placeOf_13 : decode cX9_placeOf 13 = .ok (.iconst 0, 1) := by decide +kernel
theorem dX9_placeOf_14 : decode cX9_placeOf 14 = .ok (.goto 9, 3) := by decide +kernel
theorem dX9_placeOf_17 : decode cX9_placeOf 17 = .ok (.aload_n 0, 1) := by decide +kernel
theorem dX9_placeOf_18 : decode cX9_placeOf 18 = .ok (.getfield 34, 3) := by decide +kernel
theorem dX9_placeOf_21 : decode cX9_placeOf 21 = .ok (.iload_n 1, 1) := by decide +kernel
theorem dX9_placeOf_22 : decode cX9_placeOf 22 = .ok (.iaload, 1) := by decide +kernel
theorem dX9_placeOf_23 : decode cX9_placeOf 23 = .ok (.ireturn, 1) := by decide +kernel
theorem dX9_pushKind_0 : decode cX9_pushKind 0 = .ok (.aload_n 0, 1) := by decide +kernel
theorem dX9_pushKind_1 : decode cX9_pushKind 1 = .ok (.getfield 14, 3) := by decide +kernel
theorem dX9_pushKind_4 : decode cX9_pushKind 4 = .ok (.iload_n 1, 1) := by decide +kernel
theorem dX9_pushKind_5 : decode cX9_pushKind 5 = .ok (.invokevirtual 71, 3) := by decide +kernel
theorem dX9_pushKind_8 : decode cX9_pushKind 8 = .ok (.istore_n 2, 1) := by decide +kernel
theorem dX9_pushKind_9 : decode cX9_pushKind 9 = .ok (.iload_n 2, 1) := by decide +kernel
theorem dX9_pushKind_10 : decode cX9_pushKind 10 = .ok (.bipush 17, 2) := by decide +kernel
theorem dX9_pushKind_12 : decode cX9_pushKind 12 = .ok (.if_icmp .ne 7, 3) := by decide +kernel
theorem dX9_pushKind_15 : decode cX9_pushKind 15 = .ok (.iconst 1, 1) := by decide +kernel
theorem dX9_pushKind_16 : decode cX9_pushKind 16 = .ok (.goto 14, 3) := by decide +kernel
theorem dX9_pushKind_19 : decode cX9_pushKind 19 = .ok (.iload_n 2, 1) := by decide +kernel
theorem dX9_pushKind_20 : decode cX9_pushKind 20 = .ok (.bipush 20, 2) := by decide +kernel
theorem dX9_pushKind_22 : decode cX9_pushKind 22 = .ok (.if_icmp .ne 7, 3) := by decide +kernel
theorem dX9_pushKind_25 : decode cX9_pushKind 25 = .ok (.iconst 2, 1) := by decide +kernel
theorem dX9_pushKind_26 : decode cX9_pushKind 26 = .ok (.goto 4, 3) := by decide +kernel
theorem dX9_pushKind_29 : decode cX9_pushKind 29 = .ok (.iconst 0, 1) := by decide +kernel
theorem dX9_pushKind_30 : decode cX9_pushKind 30 = .ok (.ireturn, 1) := by decide +kernel
theorem dX9_putCounters_0 : decode cX9_putCounters 0 = .ok (.aload_n 0, 1) := by decide +kernel
theorem dX9_putCounters_1 : decode cX9_putCounters 1 = .ok (.aload_n 1, 1) := by decide +kernel
theorem dX9_putCounters_2 : decode cX9_putCounters 2 = .ok (.invokevirtual 50, 3) := by decide +kernel
theorem dX9_putCounters_5 : decode cX9_putCounters 5 = .ok (.aload_n 0, 1) := by decide +kernel
theorem dX9_putCounters_6 : decode cX9_putCounters 6 = .ok (.getfield 14, 3) := by decide +kernel
theorem dX9_putCounters_9 : decode cX9_putCounters 9 = .ok (.iconst 0, 1) := by decide +kernel
theorem dX9_putCounters_10 : decode cX9_putCounters 10 = .ok (.putfield 54, 3) := by decide +kernel
theorem dX9_putCounters_13 : decode cX9_putCounters 13 = .ok (.iload_n 3, 1) := by decide +kernel
theorem dX9_putCounters_14 : decode cX9_putCounters 14 = .ok (.istore 4, 2) := by decide +kernel
theorem dX9_putCounters_16 : decode cX9_putCounters 16 = .ok (.iconst 0, 1) := by decide +kernel
theorem dX9_putCounters_17 : decode cX9_putCounters 17 = .ok (.istore 5, 2) := by decide +kernel
theorem dX9_putCounters_19 : decode cX9_putCounters 19 = .ok (.iload 5, 2) := by decide +kernel
theorem dX9_putCounters_21 : decode cX9_putCounters 21 = .ok (.aload_n 1, 1) := by decide +kernel
theorem dX9_putCounters_22 : decode cX9_putCounters 22 = .ok (.getfield 54, 3) := by decide +kernel
theorem dX9_putCounters_25 : decode cX9_putCounters 25 = .ok (.if_icmp .ge 114, 3) := by decide +kernel
theorem dX9_putCounters_28 : decode cX9_putCounters 28 = .ok (.iload 5, 2) := by decide +kernel
theorem dX9_putCounters_30 : decode cX9_putCounters 30 = .ok (.aload_n 0, 1) := by decide +kernel
theorem dX9_putCounters_31 : decode cX9_putCounters 31 = .ok (.getfield 34, 3) := by decide +kernel
theorem dX9_putCounters_34 : decode cX9_putCounters 34 = .ok (.arraylength, 1) := by decide +kernel
theorem dX9_putCounters_35 : decode cX9_putCounters 35 = .ok (.if_icmp .ge 104, 3) := by decide +kernel
theorem dX9_putCounters_38 : decode cX9_putCounters 38 = .ok (.aload_n 0, 1) := by decide +kernel
theorem dX9_putCounters_39 : decode cX9_putCounters 39 = .ok (.getfield 34, 3) := by decide +kernel
theorem dX9_putCounters_42 : decode cX9_putCounters 42 = .ok (.iload 5, 2) := by decide +kernel
theorem dX9_putCounters_44 : decode cX9_putCounters 44 = .ok (.aload_n 0, 1) := by decide +kernel
theorem dX9_putCounters_45 : decode cX9_putCounters 45 = .ok (.getfield 14, 3) := by decide +kernel
theorem dX9_putCounters_48 : decode cX9_putCounters 48 = .ok (.getfield 54, 3) := by decide +kernel
theorem dX9_putCounters_51 : decode cX9_putCounters 51 = .ok (.iastore, 1) := by decide +kernel
theorem dX9_putCounters_52 : decode cX9_putCounters 52 = .ok (.aload_n 2, 1) := by decide +kernel
theorem dX9_putCounters_53 : decode cX9_putCounters 53 = .ok (.aload_n 2, 1) := by decide +kernel
theorem dX9_putCounters_54 : decode cX9_putCounters 54 = .ok (.iload 5, 2) := by decide +kernel
theorem dX9_putCounters_56 : decode cX9_putCounters 56 = .ok (.invokevirtual 57, 3) := by decide +kernel
theorem dX9_putCounters_59 : decode cX9_putCounters 59 = .ok (.invokevirtual 63, 3) := by decide +kernel
theorem dX9_putCounters_62 : decode cX9_putCounters 62 = .ok (.ifCond .eq 52, 3) := by decide +kernel
theorem dX9_putCounters_65 : decode cX9_putCounters 65 = .ok (.aload_n 0, 1) := by decide +kernel
theorem dX9_putCounters_66 : decode cX9_putCounters 66 = .ok (.getfield 14, 3) := by decide +kernel
theorem dX9_putCounters_69 : decode cX9_putCounters 69 = .ok (.sipush 178, 3) := by decide +kernel
theorem dX9_putCounters_72 : decode cX9_putCounters 72 = .ok (.iload 4, 2) := by decide +kernel
theorem dX9_putCounters_74 : decode cX9_putCounters 74 = .ok (.i2l, 1) := by decide +kernel
theorem dX9_putCounters_75 : decode cX9_putCounters 75 = .ok (.invokevirtual 67, 3) := by decide +kernel
theorem dX9_putCounters_78 : decode cX9_putCounters 78 = .ok (.aload_n 0, 1) := by decide +kernel
theorem dX9_putCounters_79 : decode cX9_putCounters 79 = .ok (.getfield 14, 3) := by decide +kernel
theorem dX9_putCounters_82 : decode cX9_putCounters 82 = .ok (.bipush 20, 2) := by decide +kernel
theorem dX9_putCounters_84 : decode cX9_putCounters 84 = .ok (.lconst 1, 1) := by decide +kernel
theorem dX9_putCounters_85 : decode cX9_putCounters 85 = .ok (.invokevirtual 67, 3) := by decide +kernel
theorem dX9_putCounters_88 : decode cX9_putCounters 88 = .ok (.aload_n 0, 1) := by decide +kernel
theorem dX9_putCounters_89 : decode cX9_putCounters 89 = .ok (.getfield 14, 3) := by decide +kernel
theorem dX9_putCounters_92 : decode cX9_putCounters 92 = .ok (.bipush 97, 2) := by decide +kernel
theorem dX9_putCounters_94 : decode cX9_putCounters 94 = .ok (.lconst 0, 1) := by decide +kernel
theorem dX9_putCounters_95 : decode cX9_putCounters 95 = .ok (.invokevirtual 67, 3) := by decide +kernel
theorem dX9_putCounters_98 : decode cX9_putCounters 98 = .ok (.aload_n 0, 1) := by decide +kernel
theorem dX9_putCounters_99 : decode cX9_putCounters 99 = .ok (.getfield 14, 3) := by decide +kernel
theorem dX9_putCounters_102 : decode cX9_putCounters 102 = .ok (.sipush 179, 3) := by decide +kernel
theorem dX9_putCounters_105 : decode cX9_putCounters 105 = .ok (.iload 4, 2) := by decide +kernel
theorem dX9_putCounters_107 : decode cX9_putCounters 107 = .ok (.i2l, 1) := by decide +kernel
theorem dX9_putCounters_108 : decode cX9_putCounters 108 = .ok (.invokevirtual 67, 3) := by decide +kernel
theorem dX9_putCounters_111 : decode cX9_putCounters 111 = .ok (.iinc 4 1, 3) := by decide +kernel
theorem dX9_putCounters_114 : decode cX9_putCounters 114 = .ok (.aload_n 0, 1) := by decide +kernel
theorem dX9_putCounters_115 : decode cX9_putCounters 115 = .ok (.getfield 14, 3) := by decide +kernel
theorem dX9_putCounters_118 : decode cX9_putCounters 118 = .ok (.aload_n 1, 1) := by decide +kernel
theorem dX9_putCounters_119 : decode cX9_putCounters 119 = .ok (.iload 5, 2) := by decide +kernel
theorem dX9_putCounters_121 : decode cX9_putCounters 121 = .ok (.invokevirtual 71, 3) := by decide +kernel
theorem dX9_putCounters_124 : decode cX9_putCounters 124 = .ok (.aload_n 1, 1) := by decide +kernel
theorem dX9_putCounters_125 : decode cX9_putCounters 125 = .ok (.iload 5, 2) := by decide +kernel
theorem dX9_putCounters_127 : decode cX9_putCounters 127 = .ok (.invokevirtual 74, 3) := by decide +kernel
theorem dX9_putCounters_130 : decode cX9_putCounters 130 = .ok (.invokevirtual 67, 3) := by decide +kernel
theorem dX9_putCounters_133 : decode cX9_putCounters 133 = .ok (.iinc 5 1, 3) := by decide +kernel
theorem dX9_putCounters_136 : decode cX9_putCounters 136 = .ok (.goto (-117), 3) := by decide +kernel
theorem dX9_putCounters_139 : decode cX9_putCounters 139 = .ok (.aload_n 0, 1) := by decide +kernel
theorem dX9_putCounters_140 : decode cX9_putCounters 140 = .ok (.getfield 34, 3) := by decide +kernel
theorem dX9_putCounters_143 : decode cX9_putCounters 143 = .ok (.aload_n 1, 1) := by decide +kernel
theorem dX9_putCounters_144 : decode cX9_putCounters 144 = .ok (.getfield 54, 3) := by decide +kernel
theorem dX9_putCounters_147 : decode cX9_putCounters 147 = .ok (.aload_n 0, 1) := by decide +kernel

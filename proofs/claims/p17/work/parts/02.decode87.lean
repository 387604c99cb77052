theorem dX9_localBits_1 : decode cX9_localBits 1 = .ok (.getfield 14, 3) := by decide +kernel
theorem dX9_localBits_4 : decode cX9_localBits 4 = .ok (.iload_n 1, 1) := by decide +kernel
theorem dX9_localBits_5 : decode cX9_localBits 5 = .ok (.invokevirtual 71, 3) := by decide +kernel
theorem dX9_localBits_8 : decode cX9_localBits 8 = .ok (.invokestatic 245, 3) := by decide +kernel
theorem dX9_localBits_11 : decode cX9_localBits 11 = .ok (.iconst 2, 1) := by decide +kernel
theorem dX9_localBits_12 : decode cX9_localBits 12 = .ok (.if_icmp .ne 7, 3) := by decide +kernel
theorem dX9_localBits_15 : decode cX9_localBits 15 = .ok (.iconst 3, 1) := by decide +kernel
theorem dX9_localBits_16 : decode cX9_localBits 16 = .ok (.goto 4, 3) := by decide +kernel
theorem dX9_localBits_19 : decode cX9_localBits 19 = .ok (.iconst 1, 1) := by decide +kernel
theorem dX9_localBits_20 : decode cX9_localBits 20 = .ok (.aload_n 0, 1) := by decide +kernel
theorem dX9_localBits_21 : decode cX9_localBits 21 = .ok (.getfield 14, 3) := by decide +kernel
theorem dX9_localBits_24 : decode cX9_localBits 24 = .ok (.iload_n 1, 1) := by decide +kernel
theorem dX9_localBits_25 : decode cX9_localBits 25 = .ok (.invokevirtual 248, 3) := by decide +kernel
theorem dX9_localBits_28 : decode cX9_localBits 28 = .ok (.ishl, 1) := by decide +kernel
theorem dX9_localBits_29 : decode cX9_localBits 29 = .ok (.ireturn, 1) := by decide +kernel
theorem dX9_makeBetter_0 : decode cX9_makeBetter 0 = .ok (.aload_n 0, 1) := by decide +kernel
theorem dX9_makeBetter_1 : decode cX9_makeBetter 1 = .ok (.aload_n 1, 1) := by decide +kernel
theorem dX9_makeBetter_2 : decode cX9_makeBetter 2 = .ok (.invokevirtual 50, 3) := by decide +kernel
theorem dX9_makeBetter_5 : decode cX9_makeBetter 5 = .ok (.aload_n 0, 1) := by decide +kernel
theorem dX9_makeBetter_6 : decode cX9_makeBetter 6 = .ok (.getfield 14, 3) := by decide +kernel
theorem dX9_makeBetter_9 : decode cX9_makeBetter 9 = .ok (.aload_n 1, 1) := by decide +kernel
theorem dX9_makeBetter_10 : decode cX9_makeBetter 10 = .ok (.invokevirtual 125, 3) := by decide +kernel
theorem dX9_makeBetter_13 : decode cX9_makeBetter 13 = .ok (.iconst 1, 1) := by decide +kernel
theorem dX9_makeBetter_14 : decode cX9_makeBetter 14 = .ok (.istore_n 3, 1) := by decide +kernel
theorem dX9_makeBetter_15 : decode cX9_makeBetter 15 = .ok (.iconst 0, 1) := by decide +kernel
theorem dX9_makeBetter_16 : decode cX9_makeBetter 16 = .ok (.istore 4, 2) := by decide +kernel
theorem dX9_makeBetter_18 : decode cX9_makeBetter 18 = .ok (.iload_n 3, 1) := by decide +kernel
theorem dX9_makeBetter_19 : decode cX9_makeBetter 19 = .ok (.ifCond .eq 67, 3) := by decide +kernel
theorem dX9_makeBetter_22 : decode cX9_makeBetter 22 = .ok (.iload 4, 2) := by decide +kernel
theorem dX9_makeBetter_24 : decode cX9_makeBetter 24 = .ok (.bipush 50, 2) := by decide +kernel
theorem dX9_makeBetter_26 : decode cX9_makeBetter 26 = .ok (.if_icmp .ge 60, 3) := by decide +kernel
theorem dX9_makeBetter_29 : decode cX9_makeBetter 29 = .ok (.iconst 0, 1) := by decide +kernel
theorem dX9_makeBetter_30 : decode cX9_makeBetter 30 = .ok (.istore_n 3, 1) := by decide +kernel
theorem dX9_makeBetter_31 : decode cX9_makeBetter 31 = .ok (.iconst 1, 1) := by decide +kernel
theorem dX9_makeBetter_32 : decode cX9_makeBetter 32 = .ok (.istore 5, 2) := by decide +kernel
theorem dX9_makeBetter_34 : decode cX9_makeBetter 34 = .ok (.iload 5, 2) := by decide +kernel
theorem dX9_makeBetter_36 : decode cX9_makeBetter 36 = .ok (.bipush 11, 2) := by decide +kernel
theorem dX9_makeBetter_38 : decode cX9_makeBetter 38 = .ok (.if_icmp .gt 42, 3) := by decide +kernel
theorem dX9_makeBetter_41 : decode cX9_makeBetter 41 = .ok (.iload_n 2, 1) := by decide +kernel
theorem dX9_makeBetter_42 : decode cX9_makeBetter 42 = .ok (.iload 5, 2) := by decide +kernel
theorem dX9_makeBetter_44 : decode cX9_makeBetter 44 = .ok (.iconst 1, 1) := by decide +kernel
theorem dX9_makeBetter_45 : decode cX9_makeBetter 45 = .ok (.isub, 1) := by decide +kernel
theorem dX9_makeBetter_46 : decode cX9_makeBetter 46 = .ok (.ishr, 1) := by decide +kernel
theorem dX9_makeBetter_47 : decode cX9_makeBetter 47 = .ok (.iconst 1, 1) := by decide +kernel
theorem dX9_makeBetter_48 : decode cX9_makeBetter 48 = .ok (.iand, 1) := by decide +kernel
theorem dX9_makeBetter_49 : decode cX9_makeBetter 49 = .ok (.ifCond .eq 25, 3) := by decide +kernel
theorem dX9_makeBetter_52 : decode cX9_makeBetter 52 = .ok (.iload_n 3, 1) := by decide +kernel
theorem dX9_makeBetter_53 : decode cX9_makeBetter 53 = .ok (.iload 5, 2) := by decide +kernel
theorem dX9_makeBetter_55 : decode cX9_makeBetter 55 = .ok (.iconst 1, 1) := by decide +kernel
theorem dX9_makeBetter_56 : decode cX9_makeBetter 56 = .ok (.if_icmp .ne 10, 3) := by decide +kernel
theorem dX9_makeBetter_59 : decode cX9_makeBetter 59 = .ok (.aload_n 0, 1) := by decide +kernel
theorem dX9_makeBetter_60 : decode cX9_makeBetter 60 = .ok (.invokevirtual 128, 3) := by decide +kernel
theorem dX9_makeBetter_63 : decode cX9_makeBetter 63 = .ok (.goto 9, 3) := by decide +kernel
theorem dX9_makeBetter_66 : decode cX9_makeBetter 66 = .ok (.aload_n 0, 1) := by decide +kernel
theorem dX9_makeBetter_67 : decode cX9_makeBetter 67 = .ok (.iload 5, 2) := by decide +kernel
theorem dX9_makeBetter_69 : decode cX9_makeBetter 69 = .ok (.invokevirtual 132, 3) := by decide +kernel
theorem dX9_makeBetter_72 : decode cX9_makeBetter 72 = .ok (.ior, 1) := by decide +kernel
theorem dX9_makeBetter_73 : decode cX9_makeBetter 73 = .ok (.istore_n 3, 1) := by decide +kernel
theorem dX9_makeBetter_74 : decode cX9_makeBetter 74 = .ok (.iinc 5 1, 3) := by decide +kernel
theorem dX9_makeBetter_77 : decode cX9_makeBetter 77 = .ok (.goto (-43), 3) := by decide +kernel
theorem dX9_makeBetter_80 : decode cX9_makeBetter 80 = .ok (.iinc 4 1, 3) := by decide +kernel
theorem dX9_makeBetter_83 : decode cX9_makeBetter 83 = .ok (.goto (-65), 3) := by decide +kernel
theorem dX9_makeBetter_86 : decode cX9_makeBetter 86 = .ok (.return_, 1) := by decide +kernel
theorem dX9_makeRoom_0 : decode cX9_makeRoom 0 = .ok (.aload_n 0, 1) := by decide +kernel
theorem dX9_makeRoom_1 : decode cX9_makeRoom 1 = .ok (.getfield 14, 3) := by decide +kernel
theorem dX9_makeRoom_4 : decode cX9_makeRoom 4 = .ok (.getfield 43, 3) := by decide +kernel
theorem dX9_makeRoom_7 : decode cX9_makeRoom 7 = .ok (.arraylength, 1) := by decide +kernel
theorem dX9_makeRoom_8 : decode cX9_makeRoom 8 = .ok (.sipush 1296, 3) := by decide +kernel
theorem dX9_makeRoom_11 : decode cX9_makeRoom 11 = .ok (.if_icmp .ge 58, 3) := by decide +kernel
theorem dX9_makeRoom_14 : decode cX9_makeRoom 14 = .ok (.aload_n 0, 1) := by decide +kernel
theorem dX9_makeRoom_15 : decode cX9_makeRoom 15 = .ok (.new 9, 3) := by decide +kernel
theorem dX9_makeRoom_18 : decode cX9_makeRoom 18 = .ok (.dup, 1) := by decide +kernel
theorem dX9_makeRoom_19 : decode cX9_makeRoom 19 = .ok (.sipush 1296, 3) := by decide +kernel
theorem dX9_makeRoom_22 : decode cX9_makeRoom 22 = .ok (.sipush 1200, 3) := by decide +kernel
theorem dX9_makeRoom_25 : decode cX9_makeRoom 25 = .ok (.bipush 16, 2) := by decide +kernel
theorem dX9_makeRoom_27 : decode cX9_makeRoom 27 = .ok (.invokespecial 11, 3) := by decide +kernel
theorem dX9_makeRoom_30 : decode cX9_makeRoom 30 = .ok (.putfield 14, 3) := by decide +kernel
theorem dX9_makeRoom_33 : decode cX9_makeRoom 33 = .ok (.aload_n 0, 1) := by decide +kernel
theorem dX9_makeRoom_34 : decode cX9_makeRoom 34 = .ok (.sipush 1297, 3) := by decide +kernel
theorem dX9_makeRoom_37 : decode cX9_makeRoom 37 = .ok (.newarray .boolean, 2) := by decide +kernel
theorem dX9_makeRoom_39 : decode cX9_makeRoom 39 = .ok (.putfield 24, 3) := by decide +kernel
theorem dX9_makeRoom_42 : decode cX9_makeRoom 42 = .ok (.aload_n 0, 1) := by decide +kernel
theorem dX9_makeRoom_43 : decode cX9_makeRoom 43 = .ok (.sipush 1297, 3) := by decide +kernel
theorem dX9_makeRoom_46 : decode cX9_makeRoom 46 = .ok (.newarray .boolean, 2) := by decide +kernel
theorem dX9_makeRoom_48 : decode cX9_makeRoom 48 = .ok (.putfield 28, 3) := by decide +kernel
theorem dX9_makeRoom_51 : decode cX9_makeRoom 51 = .ok (.aload_n 0, 1) := by decide +kernel
theorem dX9_makeRoom_52 : decode cX9_makeRoom 52 = .ok (.sipush 1297, 3) := by decide +kernel
theorem dX9_makeRoom_55 : decode cX9_makeRoom 55 = .ok (.newarray .int, 2) := by decide +kernel
theorem dX9_makeRoom_57 : decode cX9_makeRoom 57 = .ok (.putfield 31, 3) := by decide +kernel
theorem dX9_makeRoom_60 : decode cX9_makeRoom 60 = .ok (.aload_n 0, 1) := by decide +kernel
theorem dX9_makeRoom_61 : decode cX9_makeRoom 61 = .ok (.sipush 1297, 3) := by decide +kernel
theorem dX9_makeRoom_64 : decode cX9_makeRoom 64 = .ok (.newarray .int, 2) := by decide +kernel
theorem dX9_makeRoom_66 : decode cX9_makeRoom 66 = .ok (.putfield 34, 3) := by decide +kernel
theorem dX9_makeRoom_69 : decode cX9_makeRoom 69 = .ok (.aload_n 0, 1) := by decide +kernel
theorem dX9_makeRoom_70 : decode cX9_makeRoom 70 = .ok (.getfield 14, 3) := by decide +kernel
theorem dX9_makeRoom_73 : decode cX9_makeRoom 73 = .ok (.aload_n 1, 1) := by decide +kernel
theorem dX9_makeRoom_74 : decode cX9_makeRoom 74 = .ok (.getfield 46, 3) := by decide +kernel
theorem dX9_makeRoom_77 : decode cX9_makeRoom 77 = .ok (.putfield 46, 3) := by decide +kernel
theorem dX9_makeRoom_80 : decode cX9_makeRoom 80 = .ok (.return_, 1) := by decide +kernel
theorem dX9_mark_0 : decode cX9_mark 0 = .ok (.iload_n 1, 1) := by decide +kernel
theorem dX9_mark_1 : decode cX9_mark 1 = .ok (.ifCond .lt 19, 3) := by decide +kernel
theorem dX9_mark_4 : decode cX9_mark 4 = .ok (.iload_n 1, 1) := by decide +kernel
theorem dX9_mark_5 : decode cX9_mark 5 = .ok (.aload_n 0, 1) := by decide +kernel
theorem dX9_mark_6 : decode cX9_mark 6 = .ok (.getfield 24, 3) := by decide +kernel
theorem dX9_mark_9 : decode cX9_mark 9 = .ok (.arraylength, 1) := by decide +kernel
theorem dX9_mark_10 : decode cX9_mark 10 = .ok (.if_icmp .ge 10, 3) := by decide +kernel
theorem dX9_mark_13 : decode cX9_mark 13 = .ok (.aload_n 0, 1) := by decide +kernel
theorem dX9_mark_14 : decode cX9_mark 14 = .ok (.getfield 24, 3) := by decide +kernel
theorem dX9_mark_17 : decode cX9_mark 17 = .ok (.iload_n 1, 1) := by decide +kernel
theorem dX9_mark_18 : decode cX9_mark 18 = .ok (.iconst 1, 1) := by decide +kernel
theorem dX9_mark_19 : decode cX9_mark 19 = .ok (.bastore, 1) := by decide +kernel
theorem dX9_mark_20 : decode cX9_mark 20 = .ok (.return_, 1) := by decide +kernel
theorem dX9_placeOf_0 : decode cX9_placeOf 0 = .ok (.iload_n 1, 1) := by decide +kernel
theorem dX9_placeOf_1 : decode cX9_placeOf 1 = .ok (.ifCond .lt 12, 3) := by decide +kernel
theorem dX9_placeOf_4 : decode cX9_placeOf 4 = .ok (.iload_n 1, 1) := by decide +kernel
theorem dX9_placeOf_5 : decode cX9_placeOf 5 = .ok (.aload_n 0, 1) := by decide +kernel
theorem dX9_placeOf_6 : decode cX9_placeOf 6 = .ok (.getfield 34, 3) := by decide +kernel
theorem dX9_placeOf_9 : decode cX9_placeOf 9 = .ok (.arraylength, 1) := by decide +kernel
theorem dX9_placeOf_10 : decode cX9_placeOf 10 = .ok (.if_icmp .lt 7, 3) := by decide +kernel
theorem dX9_placeOf_13 : decode cX9_placeOf 13 = .ok (.iconst 0, 1) := by decide +kernel
theorem dX9_placeOf_14 : decode cX9_placeOf 14 = .ok (.goto 9, 3) := by decide +kernel
theorem dX9_placeOf_17 : decode cX9_placeOf 17 = .ok (.aload_n 0, 1) := by decide +kernel
theorem dX9_placeOf_18 : decode cX9_placeOf 18 = .ok (.getfield 34, 3) := by decide +kernel
theorem dX9_placeOf_21 : decode cX9_placeOf 21 = .ok (.iload_n 1, 1) := by decide +kernel
theorem dX9_placeOf_22 : decode cX9_placeOf 22 = .ok (.iaload, 1) := by decide +kernel
theorem dX9_placeOf_23 : decode cX9_placeOf 23 = .ok (.ireturn, 1) := by decide +kernel
theorem dX9_pushKind_0 : decode cX9_pushKind 0 = .ok (.aload_n 0, 1) := by decide +kernel
theorem dX9_pushKind_1 : decode cX9_pushKind 1 = .ok (.getfield 14, 3) := by decide +kernel
theorem dX9_pushKind_4 : decode cX9_pushKind 4 = .ok (.iload_n 1, 1) := by decide +kernel
theorem dX9_pushKind_5 : decode cX9_pushKind 5 = .ok (.invokevirtual 71, 3) := by decide +kernel
theorem dX9_pushKind_8 : decode cX9_pushKind 8 = .ok (.istore_n 2, 1) := by decide +kernel
theorem dX9_pushKind_9 : decode cX9_pushKind 9 = .ok (.iload_n 2, 1) := by decide +kernel
theorem dX9_pushKind_10 : decode cX9_pushKind 10 = .ok (.bipush 17, 2) := by decide +kernel
theorem dX9_pushKind_12 : decode cX9_pushKind 12 = .ok (.if_icmp .ne 7, 3) := by decide +kernel
theorem dX9_pushKind_15 : decode cX9_pushKind 15 = .ok (.iconst 1, 1) := by decide +kernel
theorem dX9_pushKind_16 : decode cX9_pushKind 16 = .ok (.goto 14, 3) := by decide +kernel
theorem dX9_pushKind_19 : decode cX9_pushKind 19 = .ok (.iload_n 2, 1) := by decide +kernel
theorem dX9_pushKind_20 : decode cX9_pushKind 20 = .ok (.bipush 20, 2) := by decide +kernel
theorem dX9_pushKind_22 : decode cX9_pushKind 22 = .ok (.if_icmp .ne 7, 3) := by decide +kernel
theorem dX9_pushKind_25 : decode cX9_pushKind 25 = .ok (.iconst 2, 1) := by decide +kernel
theorem dX9_pushKind_26 : decode cX9_pushKind 26 = .ok (.goto 4, 3) := by decide +kernel
theorem dX9_pushKind_29 : decode cX9_pushKind 29 = .ok (.iconst 0, 1) := by decide +kernel
theorem dX9_pushKind_30 : decode cX9_pushKind 30 = .ok (.ireturn, 1) := by decide +kernel
theorem dX9_putCounters_0 : decode cX9_putCounters 0 = .ok (.aload_n 0, 1) := by decide +kernel
theorem dX9_putCounters_1 : decode cX9_putCounters 1 = .ok (.aload_n 1, 1) := by decide +kernel
theorem dX9_putCounters_2 : decode cX9_putCounters 2 = .ok (.invokevirtual 50, 3) := by decide +kernel
theorem dX9_putCounters_5 : decode cX9_putCounters 5 = .ok (.aload_n 0, 1) := by decide +kernel
theorem dX9_putCounters_6 : decode cX9_putCounters 6 = .ok (.getfield 14, 3) := by decide +kernel
theorem dX9_putCounters_9 : decode cX9_putCounters 9 = .ok (.iconst 0, 1) := by decide +kernel
theorem dX9_putCounters_10 : decode cX9_putCounters 10 = .ok (.putfield 54, 3) := by decide +kernel

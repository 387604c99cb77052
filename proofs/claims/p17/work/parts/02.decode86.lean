theorem dX9_liveBefore_19 : decode cX9_liveBefore 19 = .ok (.ifCond .eq 16, 3) := by decide +kernel
theorem dX9_liveBefore_22 : decode cX9_liveBefore 22 = .ok (.iload_n 3, 1) := by decide +kernel
theorem dX9_liveBefore_23 : decode cX9_liveBefore 23 = .ok (.aload_n 0, 1) := by decide +kernel
theorem dX9_liveBefore_24 : decode cX9_liveBefore 24 = .ok (.iload_n 1, 1) := by decide +kernel
theorem dX9_liveBefore_25 : decode cX9_liveBefore 25 = .ok (.invokevirtual 254, 3) := by decide +kernel
theorem dX9_liveBefore_28 : decode cX9_liveBefore 28 = .ok (.iconst (-1), 1) := by decide +kernel
theorem dX9_liveBefore_29 : decode cX9_liveBefore 29 = .ok (.ixor, 1) := by decide +kernel
theorem dX9_liveBefore_30 : decode cX9_liveBefore 30 = .ok (.iand, 1) := by decide +kernel
theorem dX9_liveBefore_31 : decode cX9_liveBefore 31 = .ok (.istore_n 3, 1) := by decide +kernel
theorem dX9_liveBefore_32 : decode cX9_liveBefore 32 = .ok (.goto 18, 3) := by decide +kernel
theorem dX9_liveBefore_35 : decode cX9_liveBefore 35 = .ok (.iload_n 2, 1) := by decide +kernel
theorem dX9_liveBefore_36 : decode cX9_liveBefore 36 = .ok (.invokestatic 263, 3) := by decide +kernel
theorem dX9_liveBefore_39 : decode cX9_liveBefore 39 = .ok (.ifCond .eq 11, 3) := by decide +kernel
theorem dX9_liveBefore_42 : decode cX9_liveBefore 42 = .ok (.iload_n 3, 1) := by decide +kernel
theorem dX9_liveBefore_43 : decode cX9_liveBefore 43 = .ok (.aload_n 0, 1) := by decide +kernel
theorem dX9_liveBefore_44 : decode cX9_liveBefore 44 = .ok (.iload_n 1, 1) := by decide +kernel
theorem dX9_liveBefore_45 : decode cX9_liveBefore 45 = .ok (.invokevirtual 254, 3) := by decide +kernel
theorem dX9_liveBefore_48 : decode cX9_liveBefore 48 = .ok (.ior, 1) := by decide +kernel
theorem dX9_liveBefore_49 : decode cX9_liveBefore 49 = .ok (.istore_n 3, 1) := by decide +kernel
theorem dX9_liveBefore_50 : decode cX9_liveBefore 50 = .ok (.iconst 0, 1) := by decide +kernel
theorem dX9_liveBefore_51 : decode cX9_liveBefore 51 = .ok (.istore 4, 2) := by decide +kernel
theorem dX9_liveBefore_53 : decode cX9_liveBefore 53 = .ok (.iload 4, 2) := by decide +kernel
theorem dX9_liveBefore_55 : decode cX9_liveBefore 55 = .ok (.aload_n 0, 1) := by decide +kernel
theorem dX9_liveBefore_56 : decode cX9_liveBefore 56 = .ok (.getfield 14, 3) := by decide +kernel
theorem dX9_liveBefore_59 : decode cX9_liveBefore 59 = .ok (.getfield 106, 3) := by decide +kernel
theorem dX9_liveBefore_62 : decode cX9_liveBefore 62 = .ok (.if_icmp .ge 39, 3) := by decide +kernel
theorem dX9_liveBefore_65 : decode cX9_liveBefore 65 = .ok (.aload_n 0, 1) := by decide +kernel
theorem dX9_liveBefore_66 : decode cX9_liveBefore 66 = .ok (.getfield 14, 3) := by decide +kernel
theorem dX9_liveBefore_69 : decode cX9_liveBefore 69 = .ok (.iload 4, 2) := by decide +kernel
theorem dX9_liveBefore_71 : decode cX9_liveBefore 71 = .ok (.iload_n 1, 1) := by decide +kernel
theorem dX9_liveBefore_72 : decode cX9_liveBefore 72 = .ok (.invokevirtual 194, 3) := by decide +kernel
theorem dX9_liveBefore_75 : decode cX9_liveBefore 75 = .ok (.ifCond .eq 20, 3) := by decide +kernel
theorem dX9_liveBefore_78 : decode cX9_liveBefore 78 = .ok (.iload_n 3, 1) := by decide +kernel
theorem dX9_liveBefore_79 : decode cX9_liveBefore 79 = .ok (.aload_n 0, 1) := by decide +kernel
theorem dX9_liveBefore_80 : decode cX9_liveBefore 80 = .ok (.aload_n 0, 1) := by decide +kernel
theorem dX9_liveBefore_81 : decode cX9_liveBefore 81 = .ok (.getfield 14, 3) := by decide +kernel
theorem dX9_liveBefore_84 : decode cX9_liveBefore 84 = .ok (.getfield 115, 3) := by decide +kernel
theorem dX9_liveBefore_87 : decode cX9_liveBefore 87 = .ok (.iload 4, 2) := by decide +kernel
theorem dX9_liveBefore_89 : decode cX9_liveBefore 89 = .ok (.iaload, 1) := by decide +kernel
theorem dX9_liveBefore_90 : decode cX9_liveBefore 90 = .ok (.invokevirtual 266, 3) := by decide +kernel
theorem dX9_liveBefore_93 : decode cX9_liveBefore 93 = .ok (.ior, 1) := by decide +kernel
theorem dX9_liveBefore_94 : decode cX9_liveBefore 94 = .ok (.istore_n 3, 1) := by decide +kernel
theorem dX9_liveBefore_95 : decode cX9_liveBefore 95 = .ok (.iinc 4 1, 3) := by decide +kernel
theorem dX9_liveBefore_98 : decode cX9_liveBefore 98 = .ok (.goto (-45), 3) := by decide +kernel
theorem dX9_liveBefore_101 : decode cX9_liveBefore 101 = .ok (.iload_n 3, 1) := by decide +kernel
theorem dX9_liveBefore_102 : decode cX9_liveBefore 102 = .ok (.ireturn, 1) := by decide +kernel
theorem dX9_liveBehind_0 : decode cX9_liveBehind 0 = .ok (.aload_n 0, 1) := by decide +kernel
theorem dX9_liveBehind_1 : decode cX9_liveBehind 1 = .ok (.getfield 14, 3) := by decide +kernel
theorem dX9_liveBehind_4 : decode cX9_liveBehind 4 = .ok (.iload_n 1, 1) := by decide +kernel
theorem dX9_liveBehind_5 : decode cX9_liveBehind 5 = .ok (.invokevirtual 71, 3) := by decide +kernel
theorem dX9_liveBehind_8 : decode cX9_liveBehind 8 = .ok (.invokestatic 186, 3) := by decide +kernel
theorem dX9_liveBehind_11 : decode cX9_liveBehind 11 = .ok (.ifCond .eq 13, 3) := by decide +kernel
theorem dX9_liveBehind_14 : decode cX9_liveBehind 14 = .ok (.aload_n 0, 1) := by decide +kernel
theorem dX9_liveBehind_15 : decode cX9_liveBehind 15 = .ok (.iload_n 1, 1) := by decide +kernel
theorem dX9_liveBehind_16 : decode cX9_liveBehind 16 = .ok (.iconst 1, 1) := by decide +kernel
theorem dX9_liveBehind_17 : decode cX9_liveBehind 17 = .ok (.iadd, 1) := by decide +kernel
theorem dX9_liveBehind_18 : decode cX9_liveBehind 18 = .ok (.invokevirtual 266, 3) := by decide +kernel
theorem dX9_liveBehind_21 : decode cX9_liveBehind 21 = .ok (.goto 4, 3) := by decide +kernel
theorem dX9_liveBehind_24 : decode cX9_liveBehind 24 = .ok (.iconst 0, 1) := by decide +kernel
theorem dX9_liveBehind_25 : decode cX9_liveBehind 25 = .ok (.istore_n 2, 1) := by decide +kernel
theorem dX9_liveBehind_26 : decode cX9_liveBehind 26 = .ok (.aload_n 0, 1) := by decide +kernel
theorem dX9_liveBehind_27 : decode cX9_liveBehind 27 = .ok (.getfield 14, 3) := by decide +kernel
theorem dX9_liveBehind_30 : decode cX9_liveBehind 30 = .ok (.iload_n 1, 1) := by decide +kernel
theorem dX9_liveBehind_31 : decode cX9_liveBehind 31 = .ok (.invokevirtual 94, 3) := by decide +kernel
theorem dX9_liveBehind_34 : decode cX9_liveBehind 34 = .ok (.istore_n 3, 1) := by decide +kernel
theorem dX9_liveBehind_35 : decode cX9_liveBehind 35 = .ok (.iconst 0, 1) := by decide +kernel
theorem dX9_liveBehind_36 : decode cX9_liveBehind 36 = .ok (.istore 4, 2) := by decide +kernel
theorem dX9_liveBehind_38 : decode cX9_liveBehind 38 = .ok (.iload 4, 2) := by decide +kernel
theorem dX9_liveBehind_40 : decode cX9_liveBehind 40 = .ok (.iload_n 3, 1) := by decide +kernel
theorem dX9_liveBehind_41 : decode cX9_liveBehind 41 = .ok (.if_icmp .ge 26, 3) := by decide +kernel
theorem dX9_liveBehind_44 : decode cX9_liveBehind 44 = .ok (.iload_n 2, 1) := by decide +kernel
theorem dX9_liveBehind_45 : decode cX9_liveBehind 45 = .ok (.aload_n 0, 1) := by decide +kernel
theorem dX9_liveBehind_46 : decode cX9_liveBehind 46 = .ok (.aload_n 0, 1) := by decide +kernel
theorem dX9_liveBehind_47 : decode cX9_liveBehind 47 = .ok (.getfield 14, 3) := by decide +kernel
theorem dX9_liveBehind_50 : decode cX9_liveBehind 50 = .ok (.iload_n 1, 1) := by decide +kernel
theorem dX9_liveBehind_51 : decode cX9_liveBehind 51 = .ok (.iload 4, 2) := by decide +kernel
theorem dX9_liveBehind_53 : decode cX9_liveBehind 53 = .ok (.invokevirtual 97, 3) := by decide +kernel
theorem dX9_liveBehind_56 : decode cX9_liveBehind 56 = .ok (.invokevirtual 266, 3) := by decide +kernel
theorem dX9_liveBehind_59 : decode cX9_liveBehind 59 = .ok (.ior, 1) := by decide +kernel
theorem dX9_liveBehind_60 : decode cX9_liveBehind 60 = .ok (.istore_n 2, 1) := by decide +kernel
theorem dX9_liveBehind_61 : decode cX9_liveBehind 61 = .ok (.iinc 4 1, 3) := by decide +kernel
theorem dX9_liveBehind_64 : decode cX9_liveBehind 64 = .ok (.goto (-26), 3) := by decide +kernel
theorem dX9_liveBehind_67 : decode cX9_liveBehind 67 = .ok (.iload_n 2, 1) := by decide +kernel
theorem dX9_liveBehind_68 : decode cX9_liveBehind 68 = .ok (.ireturn, 1) := by decide +kernel
theorem dX9_localBits_0 : decode cX9_localBits 0 = .ok (.aload_n 0, 1) := by decide +kernel
theorem dX9_localBits_1 : decode cX9_localBits 1 = .ok (.getfield 14, 3) := by decide +kernel
theorem dX9_localBits_4 : decode cX9_localBits 4 = .ok (.iload_n 1, 1) := by decide +kernel
theorem dX9_localBits_5 : decode cX9_localBits 5 = .ok (.invokevirtual 71, 3) := by decide +kernel
theorem dX9_localBits_8 : decode cX9_localBits 8 = .ok (.invokestatic 245, 3) := by decide +kernel
theorem dX9_localBits_11 : decode cX9_localBits 11 = .ok (.iconst 2, 1) := by decide +kernel
theorem dX9_localBits_12 : decode cX9_localBits 12 = .ok (.if_icmp .ne 7, 3) := by decide +kernel
theorem dX9_localBits_15 : decode cX9_localBits 15 = .ok (.iconst 3, 1) := by decide +kernel
theorem dX9_localBits_16 : decode cX9_localBits 16 = .ok (.goto 4, 3) := by decide +kernel
theorem dX9_localBits_19 : decode cX9_localBits 19 = .ok (.iconst 1, 1) := by decide +kernel
theorem dX9_localBits_20 : decode cX9_localBits 20 = .ok (.aload_n 0, 1) := by decide +kernel
theorem dX9_localBits_21 : decode cX9_localBits 21 = .ok (.getfield 14, 3) := by decide +kernel
theorem dX9_localBits_24 : decode cX9_localBits 24 = .ok (.iload_n 1, 1) := by decide +kernel
theorem dX9_localBits_25 : decode cX9_localBits 25 = .ok (.invokevirtual 248, 3) := by decide +kernel
theorem dX9_localBits_28 : decode cX9_localBits 28 = .ok (.ishl, 1) := by decide +kernel
theorem dX9_localBits_29 : decode cX9_localBits 29 = .ok (.ireturn, 1) := by decide +kernel
theorem dX9_makeBetter_0 : decode cX9_makeBetter 0 = .ok (.aload_n 0, 1) := by decide +kernel
theorem dX9_makeBetter_1 : decode cX9_makeBetter 1 = .ok (.aload_n 1, 1) := by decide +kernel
theorem dX9_makeBetter_2 : decode cX9_makeBetter 2 = .ok (.invokevirtual 50, 3) := by decide +kernel
theorem dX9_makeBetter_5 : decode cX9_makeBetter 5 = .ok (.aload_n 0, 1) := by decide +kernel
theorem dX9_makeBetter_6 : decode cX9_makeBetter 6 = .ok (.getfield 14, 3) := by decide +kernel
theorem dX9_makeBetter_9 : decode cX9_makeBetter 9 = .ok (.aload_n 1, 1) := by decide +kernel
theorem dX9_makeBetter_10 : decode cX9_makeBetter 10 = .ok (.invokevirtual 125, 3) := by decide +kernel
theorem dX9_makeBetter_13 : decode cX9_makeBetter 13 = .ok (.iconst 1, 1) := by decide +kernel
theorem dX9_makeBetter_14 : decode cX9_makeBetter 14 = .ok (.istore_n 3, 1) := by decide +kernel
theorem dX9_makeBetter_15 : decode cX9_makeBetter 15 = .ok (.iconst 0, 1) := by decide +kernel
theorem dX9_makeBetter_16 : decode cX9_makeBetter 16 = .ok (.istore 4, 2) := by decide +kernel
theorem dX9_makeBetter_18 : decode cX9_makeBetter 18 = .ok (.iload_n 3, 1) := by decide +kernel
theorem dX9_makeBetter_19 : decode cX9_makeBetter 19 = .ok (.ifCond .eq 67, 3) := by decide +kernel
theorem dX9_makeBetter_22 : decode cX9_makeBetter 22 = .ok (.iload 4, 2) := by decide +kernel
theorem dX9_makeBetter_24 : decode cX9_makeBetter 24 = .ok (.bipush 50, 2) := by decide +kernel
theorem dX9_makeBetter_26 : decode cX9_makeBetter 26 = .ok (.if_icmp .ge 60, 3) := by decide +kernel
theorem dX9_makeBetter_29 : decode cX9_makeBetter 29 = .ok (.iconst 0, 1) := by decide +kernel
theorem dX9_makeBetter_30 : decode cX9_makeBetter 30 = .ok (.istore_n 3, 1) := by decide +kernel
theorem dX9_makeBetter_31 : decode cX9_makeBetter 31 = .ok (.iconst 1, 1) := by decide +kernel
theorem dX9_makeBetter_32 : decode cX9_makeBetter 32 = .ok (.istore 5, 2) := by decide +kernel
theorem dX9_makeBetter_34 : decode cX9_makeBetter 34 = .ok (.iload 5, 2) := by decide +kernel
theorem dX9_makeBetter_36 : decode cX9_makeBetter 36 = .ok (.bipush 11, 2) := by decide +kernel
theorem dX9_makeBetter_38 : decode cX9_makeBetter 38 = .ok (.if_icmp .gt 42, 3) := by decide +kernel
theorem dX9_makeBetter_41 : decode cX9_makeBetter 41 = .ok (.iload_n 2, 1) := by decide +kernel
theorem dX9_makeBetter_42 : decode cX9_makeBetter 42 = .ok (.iload 5, 2) := by decide +kernel
theorem dX9_makeBetter_44 : decode cX9_makeBetter 44 = .ok (.iconst 1, 1) := by decide +kernel
theorem dX9_makeBetter_45 : decode cX9_makeBetter 45 = .ok (.isub, 1) := by decide +kernel
theorem dX9_makeBetter_46 : decode cX9_makeBetter 46 = .ok (.ishr, 1) := by decide +kernel
theorem dX9_makeBetter_47 : decode cX9_makeBetter 47 = .ok (.iconst 1, 1) := by decide +kernel
theorem dX9_makeBetter_48 : decode cX9_makeBetter 48 = .ok (.iand, 1) := by decide +kernel
theorem dX9_makeBetter_49 : decode cX9_makeBetter 49 = .ok (.ifCond .eq 25, 3) := by decide +kernel
theorem dX9_makeBetter_52 : decode cX9_makeBetter 52 = .ok (.iload_n 3, 1) := by decide +kernel
theorem dX9_makeBetter_53 : decode cX9_makeBetter 53 = .ok (.iload 5, 2) := by decide +kernel
theorem dX9_makeBetter_55 : decode cX9_makeBetter 55 = .ok (.iconst 1, 1) := by decide +kernel
theorem dX9_makeBetter_56 : decode cX9_makeBetter 56 = .ok (.if_icmp .ne 10, 3) := by decide +kernel
theorem dX9_makeBetter_59 : decode cX9_makeBetter 59 = .ok (.aload_n 0, 1) := by decide +kernel
theorem dX9_makeBetter_60 : decode cX9_makeBetter 60 = .ok (.invokevirtual 128, 3) := by decide +kernel
theorem dX9_makeBetter_63 : decode cX9_makeBetter 63 = .ok (.goto 9, 3) := by decide +kernel
theorem dX9_makeBetter_66 : decode cX9_makeBetter 66 = .ok (.aload_n 0, 1) := by decide +kernel
theorem dX9_makeBetter_67 : decode cX9_makeBetter 67 = .ok (.iload 5, 2) := by decide +kernel
theorem dX9_makeBetter_69 : decode cX9_makeBetter 69 = .ok (.invokevirtual 132, 3) := by decide +kernel
theorem dX9_makeBetter_72 : decode cX9_makeBetter 72 = .ok (.ior, 1) := by decide +kernel
theorem dX9_makeBetter_73 : decode cX9_makeBetter 73 = .ok (.istore_n 3, 1) := by decide +kernel
theorem dX9_makeBetter_74 : decode cX9_makeBetter 74 = .ok (.iinc 5 1, 3) := by decide +kernel
theorem dX9_makeBetter_77 : decode cX9_makeBetter 77 = .ok (.goto (-43), 3) := by decide +kernel
theorem dX9_makeBetter_80 : decode cX9_makeBetter 80 = .ok (.iinc 4 1, 3) := by decide +kernel
theorem dX9_makeBetter_83 : decode cX9_makeBetter 83 = .ok (.goto (-65), 3) := by decide +kernel
theorem dX9_makeBetter_86 : decode cX9_makeBetter 86 = .ok (.return_, 1) := by decide +kernel
theorem dX9_makeRoom_0 : decode cX9_makeRoom 0 = .ok (.aload_n 0, 1) := by decide +kernel
theorem dX9_makeRoom_1 : decode cX9_makeRoom 1 = .ok (.getfield 14, 3) := by decide +kernel

theorem dX7_namesHold_3 : decode cX7_namesHold 3 = .ok (.aload_n 0, 1) := by decide +kernel
theorem dX7_namesHold_4 : decode cX7_namesHold 4 = .ok (.getfield 134, 3) := by decide +kernel
theorem dX7_namesHold_7 : decode cX7_namesHold 7 = .ok (.aload_n 0, 1) := by decide +kernel
theorem dX7_namesHold_8 : decode cX7_namesHold 8 = .ok (.getfield 131, 3) := by decide +kernel
theorem dX7_namesHold_11 : decode cX7_namesHold 11 = .ok (.iadd, 1) := by decide +kernel
theorem dX7_namesHold_12 : decode cX7_namesHold 12 = .ok (.if_icmp .ge 48, 3) := by decide +kernel
theorem dX7_namesHold_15 : decode cX7_namesHold 15 = .ok (.aload_n 0, 1) := by decide +kernel
theorem dX7_namesHold_16 : decode cX7_namesHold 16 = .ok (.iload_n 1, 1) := by decide +kernel
theorem dX7_namesHold_17 : decode cX7_namesHold 17 = .ok (.invokevirtual 165, 3) := by decide +kernel
theorem dX7_namesHold_20 : decode cX7_namesHold 20 = .ok (.istore_n 2, 1) := by decide +kernel
theorem dX7_namesHold_21 : decode cX7_namesHold 21 = .ok (.aload_n 0, 1) := by decide +kernel
theorem dX7_namesHold_22 : decode cX7_namesHold 22 = .ok (.iload_n 2, 1) := by decide +kernel
theorem dX7_namesHold_23 : decode cX7_namesHold 23 = .ok (.iconst 2, 1) := by decide +kernel
theorem dX7_namesHold_24 : decode cX7_namesHold 24 = .ok (.iadd, 1) := by decide +kernel
theorem dX7_namesHold_25 : decode cX7_namesHold 25 = .ok (.invokevirtual 168, 3) := by decide +kernel
theorem dX7_namesHold_28 : decode cX7_namesHold 28 = .ok (.ifCond .eq 24, 3) := by decide +kernel
theorem dX7_namesHold_31 : decode cX7_namesHold 31 = .ok (.aload_n 0, 1) := by decide +kernel
theorem dX7_namesHold_32 : decode cX7_namesHold 32 = .ok (.iload_n 2, 1) := by decide +kernel
theorem dX7_namesHold_33 : decode cX7_namesHold 33 = .ok (.iconst 4, 1) := by decide +kernel
theorem dX7_namesHold_34 : decode cX7_namesHold 34 = .ok (.iadd, 1) := by decide +kernel
theorem dX7_namesHold_35 : decode cX7_namesHold 35 = .ok (.invokevirtual 168, 3) := by decide +kernel
theorem dX7_namesHold_38 : decode cX7_namesHold 38 = .ok (.ifCond .eq 14, 3) := by decide +kernel
theorem dX7_namesHold_41 : decode cX7_namesHold 41 = .ok (.aload_n 0, 1) := by decide +kernel
theorem dX7_namesHold_42 : decode cX7_namesHold 42 = .ok (.iload_n 2, 1) := by decide +kernel
theorem dX7_namesHold_43 : decode cX7_namesHold 43 = .ok (.bipush 6, 2) := by decide +kernel
theorem dX7_namesHold_45 : decode cX7_namesHold 45 = .ok (.iadd, 1) := by decide +kernel
theorem dX7_namesHold_46 : decode cX7_namesHold 46 = .ok (.invokevirtual 171, 3) := by decide +kernel
theorem dX7_namesHold_49 : decode cX7_namesHold 49 = .ok (.ifCond .ne 5, 3) := by decide +kernel
theorem dX7_namesHold_52 : decode cX7_namesHold 52 = .ok (.iconst 0, 1) := by decide +kernel
theorem dX7_namesHold_53 : decode cX7_namesHold 53 = .ok (.ireturn, 1) := by decide +kernel
theorem dX7_namesHold_54 : decode cX7_namesHold 54 = .ok (.iinc 1 1, 3) := by decide +kernel
theorem dX7_namesHold_57 : decode cX7_namesHold 57 = .ok (.goto (-55), 3) := by decide +kernel
theorem dX7_namesHold_60 : decode cX7_namesHold 60 = .ok (.aload_n 0, 1) := by decide +kernel
theorem dX7_namesHold_61 : decode cX7_namesHold 61 = .ok (.aload_n 0, 1) := by decide +kernel
theorem dX7_namesHold_62 : decode cX7_namesHold 62 = .ok (.getfield 143, 3) := by decide +kernel
theorem dX7_namesHold_65 : decode cX7_namesHold 65 = .ok (.invokevirtual 171, 3) := by decide +kernel
theorem dX7_namesHold_68 : decode cX7_namesHold 68 = .ok (.ireturn, 1) := by decide +kernel
theorem dX7_noTwins_0 : decode cX7_noTwins 0 = .ok (.iconst 0, 1) := by decide +kernel
theorem dX7_noTwins_1 : decode cX7_noTwins 1 = .ok (.istore_n 1, 1) := by decide +kernel
theorem dX7_noTwins_2 : decode cX7_noTwins 2 = .ok (.iload_n 1, 1) := by decide +kernel
theorem dX7_noTwins_3 : decode cX7_noTwins 3 = .ok (.aload_n 0, 1) := by decide +kernel
theorem dX7_noTwins_4 : decode cX7_noTwins 4 = .ok (.getfield 134, 3) := by decide +kernel
theorem dX7_noTwins_7 : decode cX7_noTwins 7 = .ok (.aload_n 0, 1) := by decide +kernel
theorem dX7_noTwins_8 : decode cX7_noTwins 8 = .ok (.getfield 131, 3) := by decide +kernel
theorem dX7_noTwins_11 : decode cX7_noTwins 11 = .ok (.iadd, 1) := by decide +kernel
theorem dX7_noTwins_12 : decode cX7_noTwins 12 = .ok (.if_icmp .ge 70, 3) := by decide +kernel
theorem dX7_noTwins_15 : decode cX7_noTwins 15 = .ok (.iload_n 1, 1) := by decide +kernel
theorem dX7_noTwins_16 : decode cX7_noTwins 16 = .ok (.aload_n 0, 1) := by decide +kernel
theorem dX7_noTwins_17 : decode cX7_noTwins 17 = .ok (.getfield 134, 3) := by decide +kernel
theorem dX7_noTwins_20 : decode cX7_noTwins 20 = .ok (.if_icmp .ge 7, 3) := by decide +kernel
theorem dX7_noTwins_23 : decode cX7_noTwins 23 = .ok (.iconst 0, 1) := by decide +kernel
theorem dX7_noTwins_24 : decode cX7_noTwins 24 = .ok (.goto 7, 3) := by decide +kernel
theorem dX7_noTwins_27 : decode cX7_noTwins 27 = .ok (.aload_n 0, 1) := by decide +kernel
theorem dX7_noTwins_28 : decode cX7_noTwins 28 = .ok (.getfield 134, 3) := by decide +kernel
theorem dX7_noTwins_31 : decode cX7_noTwins 31 = .ok (.istore_n 2, 1) := by decide +kernel
theorem dX7_noTwins_32 : decode cX7_noTwins 32 = .ok (.iload_n 2, 1) := by decide +kernel
theorem dX7_noTwins_33 : decode cX7_noTwins 33 = .ok (.istore_n 3, 1) := by decide +kernel
theorem dX7_noTwins_34 : decode cX7_noTwins 34 = .ok (.iload_n 3, 1) := by decide +kernel
theorem dX7_noTwins_35 : decode cX7_noTwins 35 = .ok (.iload_n 1, 1) := by decide +kernel
theorem dX7_noTwins_36 : decode cX7_noTwins 36 = .ok (.if_icmp .ge 40, 3) := by decide +kernel
theorem dX7_noTwins_39 : decode cX7_noTwins 39 = .ok (.aload_n 0, 1) := by decide +kernel
theorem dX7_noTwins_40 : decode cX7_noTwins 40 = .ok (.aload_n 0, 1) := by decide +kernel
theorem dX7_noTwins_41 : decode cX7_noTwins 41 = .ok (.iload_n 3, 1) := by decide +kernel
theorem dX7_noTwins_42 : decode cX7_noTwins 42 = .ok (.invokevirtual 212, 3) := by decide +kernel
theorem dX7_noTwins_45 : decode cX7_noTwins 45 = .ok (.aload_n 0, 1) := by decide +kernel
theorem dX7_noTwins_46 : decode cX7_noTwins 46 = .ok (.iload_n 1, 1) := by decide +kernel
theorem dX7_noTwins_47 : decode cX7_noTwins 47 = .ok (.invokevirtual 212, 3) := by decide +kernel
theorem dX7_noTwins_50 : decode cX7_noTwins 50 = .ok (.invokevirtual 215, 3) := by decide +kernel
theorem dX7_noTwins_53 : decode cX7_noTwins 53 = .ok (.ifCond .eq 17, 3) := by decide +kernel
theorem dX7_noTwins_56 : decode cX7_noTwins 56 = .ok (.aload_n 0, 1) := by decide +kernel
theorem dX7_noTwins_57 : decode cX7_noTwins 57 = .ok (.bipush 11, 2) := by decide +kernel
theorem dX7_noTwins_59 : decode cX7_noTwins 59 = .ok (.aload_n 0, 1) := by decide +kernel
theorem dX7_noTwins_60 : decode cX7_noTwins 60 = .ok (.iload_n 1, 1) := by decide +kernel
theorem dX7_noTwins_61 : decode cX7_noTwins 61 = .ok (.invokevirtual 165, 3) := by decide +kernel
theorem dX7_noTwins_64 : decode cX7_noTwins 64 = .ok (.iconst 2, 1) := by decide +kernel
theorem dX7_noTwins_65 : decode cX7_noTwins 65 = .ok (.iadd, 1) := by decide +kernel
theorem dX7_noTwins_66 : decode cX7_noTwins 66 = .ok (.invokevirtual 87, 3) := by decide +kernel
theorem dX7_noTwins_69 : decode cX7_noTwins 69 = .ok (.ireturn, 1) := by decide +kernel
theorem dX7_noTwins_70 : decode cX7_noTwins 70 = .ok (.iinc 3 1, 3) := by decide +kernel
theorem dX7_noTwins_73 : decode cX7_noTwins 73 = .ok (.goto (-39), 3) := by decide +kernel
theorem dX7_noTwins_76 : decode cX7_noTwins 76 = .ok (.iinc 1 1, 3) := by decide +kernel
theorem dX7_noTwins_79 : decode cX7_noTwins 79 = .ok (.goto (-77), 3) := by decide +kernel
theorem dX7_noTwins_82 : decode cX7_noTwins 82 = .ok (.iconst 1, 1) := by decide +kernel
theorem dX7_noTwins_83 : decode cX7_noTwins 83 = .ok (.ireturn, 1) := by decide +kernel
theorem dX7_poolFits_0 : decode cX7_poolFits 0 = .ok (.aload_n 0, 1) := by decide +kernel
theorem dX7_poolFits_1 : decode cX7_poolFits 1 = .ok (.iconst 2, 1) := by decide +kernel
theorem dX7_poolFits_2 : decode cX7_poolFits 2 = .ok (.invokevirtual 103, 3) := by decide +kernel
theorem dX7_poolFits_5 : decode cX7_poolFits 5 = .ok (.ifCond .ne 5, 3) := by decide +kernel
theorem dX7_poolFits_8 : decode cX7_poolFits 8 = .ok (.iconst 0, 1) := by decide +kernel
theorem dX7_poolFits_9 : decode cX7_poolFits 9 = .ok (.ireturn, 1) := by decide +kernel
theorem dX7_poolFits_10 : decode cX7_poolFits 10 = .ok (.aload_n 0, 1) := by decide +kernel
theorem dX7_poolFits_11 : decode cX7_poolFits 11 = .ok (.aload_n 0, 1) := by decide +kernel
theorem dX7_poolFits_12 : decode cX7_poolFits 12 = .ok (.aload_n 0, 1) := by decide +kernel
theorem dX7_poolFits_13 : decode cX7_poolFits 13 = .ok (.getfield 44, 3) := by decide +kernel
theorem dX7_poolFits_16 : decode cX7_poolFits 16 = .ok (.invokevirtual 107, 3) := by decide +kernel
theorem dX7_poolFits_19 : decode cX7_poolFits 19 = .ok (.putfield 110, 3) := by decide +kernel
theorem dX7_poolFits_22 : decode cX7_poolFits 22 = .ok (.aload_n 0, 1) := by decide +kernel
theorem dX7_poolFits_23 : decode cX7_poolFits 23 = .ok (.getfield 110, 3) := by decide +kernel
theorem dX7_poolFits_26 : decode cX7_poolFits 26 = .ok (.iconst 1, 1) := by decide +kernel
theorem dX7_poolFits_27 : decode cX7_poolFits 27 = .ok (.if_icmp .lt 13, 3) := by decide +kernel
theorem dX7_poolFits_30 : decode cX7_poolFits 30 = .ok (.aload_n 0, 1) := by decide +kernel
theorem dX7_poolFits_31 : decode cX7_poolFits 31 = .ok (.getfield 110, 3) := by decide +kernel
theorem dX7_poolFits_34 : decode cX7_poolFits 34 = .ok (.sipush 500, 3) := by decide +kernel
theorem dX7_poolFits_37 : decode cX7_poolFits 37 = .ok (.if_icmp .le 13, 3) := by decide +kernel
theorem dX7_poolFits_40 : decode cX7_poolFits 40 = .ok (.aload_n 0, 1) := by decide +kernel
theorem dX7_poolFits_41 : decode cX7_poolFits 41 = .ok (.iconst 5, 1) := by decide +kernel
theorem dX7_poolFits_42 : decode cX7_poolFits 42 = .ok (.aload_n 0, 1) := by decide +kernel
theorem dX7_poolFits_43 : decode cX7_poolFits 43 = .ok (.getfield 44, 3) := by decide +kernel
theorem dX7_poolFits_46 : decode cX7_poolFits 46 = .ok (.invokevirtual 87, 3) := by decide +kernel
theorem dX7_poolFits_49 : decode cX7_poolFits 49 = .ok (.ireturn, 1) := by decide +kernel
theorem dX7_poolFits_50 : decode cX7_poolFits 50 = .ok (.aload_n 0, 1) := by decide +kernel
theorem dX7_poolFits_51 : decode cX7_poolFits 51 = .ok (.dup, 1) := by decide +kernel
theorem dX7_poolFits_52 : decode cX7_poolFits 52 = .ok (.getfield 44, 3) := by decide +kernel
theorem dX7_poolFits_55 : decode cX7_poolFits 55 = .ok (.iconst 2, 1) := by decide +kernel
theorem dX7_poolFits_56 : decode cX7_poolFits 56 = .ok (.iadd, 1) := by decide +kernel
theorem dX7_poolFits_57 : decode cX7_poolFits 57 = .ok (.putfield 44, 3) := by decide +kernel
theorem dX7_poolFits_60 : decode cX7_poolFits 60 = .ok (.aload_n 0, 1) := by decide +kernel
theorem dX7_poolFits_61 : decode cX7_poolFits 61 = .ok (.getfield 19, 3) := by decide +kernel
theorem dX7_poolFits_64 : decode cX7_poolFits 64 = .ok (.iconst 0, 1) := by decide +kernel
theorem dX7_poolFits_65 : decode cX7_poolFits 65 = .ok (.invokestatic 113, 3) := by decide +kernel
theorem dX7_poolFits_68 : decode cX7_poolFits 68 = .ok (.iconst 1, 1) := by decide +kernel
theorem dX7_poolFits_69 : decode cX7_poolFits 69 = .ok (.istore_n 1, 1) := by decide +kernel
theorem dX7_poolFits_70 : decode cX7_poolFits 70 = .ok (.iload_n 1, 1) := by decide +kernel
theorem dX7_poolFits_71 : decode cX7_poolFits 71 = .ok (.aload_n 0, 1) := by decide +kernel
theorem dX7_poolFits_72 : decode cX7_poolFits 72 = .ok (.getfield 110, 3) := by decide +kernel
theorem dX7_poolFits_75 : decode cX7_poolFits 75 = .ok (.if_icmp .ge 78, 3) := by decide +kernel
theorem dX7_poolFits_78 : decode cX7_poolFits 78 = .ok (.iload_n 1, 1) := by decide +kernel
theorem dX7_poolFits_79 : decode cX7_poolFits 79 = .ok (.aload_n 0, 1) := by decide +kernel
theorem dX7_poolFits_80 : decode cX7_poolFits 80 = .ok (.getfield 19, 3) := by decide +kernel
theorem dX7_poolFits_83 : decode cX7_poolFits 83 = .ok (.arraylength, 1) := by decide +kernel
theorem dX7_poolFits_84 : decode cX7_poolFits 84 = .ok (.if_icmp .ge 69, 3) := by decide +kernel
theorem dX7_poolFits_87 : decode cX7_poolFits 87 = .ok (.aload_n 0, 1) := by decide +kernel
theorem dX7_poolFits_88 : decode cX7_poolFits 88 = .ok (.invokevirtual 119, 3) := by decide +kernel
theorem dX7_poolFits_91 : decode cX7_poolFits 91 = .ok (.ifCond .ne 5, 3) := by decide +kernel
theorem dX7_poolFits_94 : decode cX7_poolFits 94 = .ok (.iconst 0, 1) := by decide +kernel
theorem dX7_poolFits_95 : decode cX7_poolFits 95 = .ok (.ireturn, 1) := by decide +kernel
theorem dX7_poolFits_96 : decode cX7_poolFits 96 = .ok (.aload_n 0, 1) := by decide +kernel
theorem dX7_poolFits_97 : decode cX7_poolFits 97 = .ok (.getfield 19, 3) := by decide +kernel
theorem dX7_poolFits_100 : decode cX7_poolFits 100 = .ok (.iload_n 1, 1) := by decide +kernel
theorem dX7_poolFits_101 : decode cX7_poolFits 101 = .ok (.aload_n 0, 1) := by decide +kernel
theorem dX7_poolFits_102 : decode cX7_poolFits 102 = .ok (.getfield 44, 3) := by decide +kernel
theorem dX7_poolFits_105 : decode cX7_poolFits 105 = .ok (.iastore, 1) := by decide +kernel
theorem dX7_poolFits_106 : decode cX7_poolFits 106 = .ok (.iload_n 1, 1) := by decide +kernel
theorem dX7_poolFits_107 : decode cX7_poolFits 107 = .ok (.aload_n 0, 1) := by decide +kernel
theorem dX7_poolFits_108 : decode cX7_poolFits 108 = .ok (.aload_n 0, 1) := by decide +kernel
theorem dX7_poolFits_109 : decode cX7_poolFits 109 = .ok (.getfield 44, 3) := by decide +kernel
theorem dX7_poolFits_112 : decode cX7_poolFits 112 = .ok (.invokevirtual 100, 3) := by decide +kernel
theorem dX7_poolFits_115 : decode cX7_poolFits 115 = .ok (.iconst 5, 1) := by decide +kernel
theorem dX7_poolFits_116 : decode cX7_poolFits 116 = .ok (.if_icmp .ne 7, 3) := by decide +kernel
theorem dX7_poolFits_119 : decode cX7_poolFits 119 = .ok (.iconst 1, 1) := by decide +kernel

theorem dX7_nameFits_16 : decode cX7_nameFits 16 = .ok (.iadd, 1) := by decide +kernel
theorem dX7_nameFits_17 : decode cX7_nameFits 17 = .ok (.invokevirtual 107, 3) := by decide +kernel
theorem dX7_nameFits_20 : decode cX7_nameFits 20 = .ok (.istore_n 1, 1) := by decide +kernel
theorem dX7_nameFits_21 : decode cX7_nameFits 21 = .ok (.iload_n 1, 1) := by decide +kernel
theorem dX7_nameFits_22 : decode cX7_nameFits 22 = .ok (.iconst 1, 1) := by decide +kernel
theorem dX7_nameFits_23 : decode cX7_nameFits 23 = .ok (.if_icmp .lt 9, 3) := by decide +kernel
theorem dX7_nameFits_26 : decode cX7_nameFits 26 = .ok (.iload_n 1, 1) := by decide +kernel
theorem dX7_nameFits_27 : decode cX7_nameFits 27 = .ok (.bipush 100, 2) := by decide +kernel
theorem dX7_nameFits_29 : decode cX7_nameFits 29 = .ok (.if_icmp .le 13, 3) := by decide +kernel
theorem dX7_nameFits_32 : decode cX7_nameFits 32 = .ok (.aload_n 0, 1) := by decide +kernel
theorem dX7_nameFits_33 : decode cX7_nameFits 33 = .ok (.iconst 4, 1) := by decide +kernel
theorem dX7_nameFits_34 : decode cX7_nameFits 34 = .ok (.aload_n 0, 1) := by decide +kernel
theorem dX7_nameFits_35 : decode cX7_nameFits 35 = .ok (.getfield 44, 3) := by decide +kernel
theorem dX7_nameFits_38 : decode cX7_nameFits 38 = .ok (.invokevirtual 87, 3) := by decide +kernel
theorem dX7_nameFits_41 : decode cX7_nameFits 41 = .ok (.ireturn, 1) := by decide +kernel
theorem dX7_nameFits_42 : decode cX7_nameFits 42 = .ok (.aload_n 0, 1) := by decide +kernel
theorem dX7_nameFits_43 : decode cX7_nameFits 43 = .ok (.getfield 44, 3) := by decide +kernel
theorem dX7_nameFits_46 : decode cX7_nameFits 46 = .ok (.iconst 3, 1) := by decide +kernel
theorem dX7_nameFits_47 : decode cX7_nameFits 47 = .ok (.iadd, 1) := by decide +kernel
theorem dX7_nameFits_48 : decode cX7_nameFits 48 = .ok (.istore_n 2, 1) := by decide +kernel
theorem dX7_nameFits_49 : decode cX7_nameFits 49 = .ok (.iload_n 2, 1) := by decide +kernel
theorem dX7_nameFits_50 : decode cX7_nameFits 50 = .ok (.aload_n 0, 1) := by decide +kernel
theorem dX7_nameFits_51 : decode cX7_nameFits 51 = .ok (.getfield 44, 3) := by decide +kernel
theorem dX7_nameFits_54 : decode cX7_nameFits 54 = .ok (.iconst 3, 1) := by decide +kernel
theorem dX7_nameFits_55 : decode cX7_nameFits 55 = .ok (.iadd, 1) := by decide +kernel
theorem dX7_nameFits_56 : decode cX7_nameFits 56 = .ok (.iload_n 1, 1) := by decide +kernel
theorem dX7_nameFits_57 : decode cX7_nameFits 57 = .ok (.iadd, 1) := by decide +kernel
theorem dX7_nameFits_58 : decode cX7_nameFits 58 = .ok (.if_icmp .ge 47, 3) := by decide +kernel
theorem dX7_nameFits_61 : decode cX7_nameFits 61 = .ok (.iload_n 2, 1) := by decide +kernel
theorem dX7_nameFits_62 : decode cX7_nameFits 62 = .ok (.aload_n 0, 1) := by decide +kernel
theorem dX7_nameFits_63 : decode cX7_nameFits 63 = .ok (.getfield 38, 3) := by decide +kernel
theorem dX7_nameFits_66 : decode cX7_nameFits 66 = .ok (.if_icmp .ge 39, 3) := by decide +kernel
theorem dX7_nameFits_69 : decode cX7_nameFits 69 = .ok (.aload_n 0, 1) := by decide +kernel
theorem dX7_nameFits_70 : decode cX7_nameFits 70 = .ok (.iload_n 2, 1) := by decide +kernel
theorem dX7_nameFits_71 : decode cX7_nameFits 71 = .ok (.invokevirtual 100, 3) := by decide +kernel
theorem dX7_nameFits_74 : decode cX7_nameFits 74 = .ok (.bipush 33, 2) := by decide +kernel
theorem dX7_nameFits_76 : decode cX7_nameFits 76 = .ok (.if_icmp .lt 13, 3) := by decide +kernel
theorem dX7_nameFits_79 : decode cX7_nameFits 79 = .ok (.aload_n 0, 1) := by decide +kernel
theorem dX7_nameFits_80 : decode cX7_nameFits 80 = .ok (.iload_n 2, 1) := by decide +kernel
theorem dX7_nameFits_81 : decode cX7_nameFits 81 = .ok (.invokevirtual 100, 3) := by decide +kernel
theorem dX7_nameFits_84 : decode cX7_nameFits 84 = .ok (.bipush 126, 2) := by decide +kernel
theorem dX7_nameFits_86 : decode cX7_nameFits 86 = .ok (.if_icmp .le 13, 3) := by decide +kernel
theorem dX7_nameFits_89 : decode cX7_nameFits 89 = .ok (.aload_n 0, 1) := by decide +kernel
theorem dX7_nameFits_90 : decode cX7_nameFits 90 = .ok (.iconst 4, 1) := by decide +kernel
theorem dX7_nameFits_91 : decode cX7_nameFits 91 = .ok (.aload_n 0, 1) := by decide +kernel
theorem dX7_nameFits_92 : decode cX7_nameFits 92 = .ok (.getfield 44, 3) := by decide +kernel
theorem dX7_nameFits_95 : decode cX7_nameFits 95 = .ok (.invokevirtual 87, 3) := by decide +kernel
theorem dX7_nameFits_98 : decode cX7_nameFits 98 = .ok (.ireturn, 1) := by decide +kernel
theorem dX7_nameFits_99 : decode cX7_nameFits 99 = .ok (.iinc 2 1, 3) := by decide +kernel
theorem dX7_nameFits_102 : decode cX7_nameFits 102 = .ok (.goto (-53), 3) := by decide +kernel
theorem dX7_nameFits_105 : decode cX7_nameFits 105 = .ok (.aload_n 0, 1) := by decide +kernel
theorem dX7_nameFits_106 : decode cX7_nameFits 106 = .ok (.iconst 3, 1) := by decide +kernel
theorem dX7_nameFits_107 : decode cX7_nameFits 107 = .ok (.iload_n 1, 1) := by decide +kernel
theorem dX7_nameFits_108 : decode cX7_nameFits 108 = .ok (.iadd, 1) := by decide +kernel
theorem dX7_nameFits_109 : decode cX7_nameFits 109 = .ok (.invokevirtual 103, 3) := by decide +kernel
theorem dX7_nameFits_112 : decode cX7_nameFits 112 = .ok (.ireturn, 1) := by decide +kernel
theorem dX7_nameLength_0 : decode cX7_nameLength 0 = .ok (.aload_n 0, 1) := by decide +kernel
theorem dX7_nameLength_1 : decode cX7_nameLength 1 = .ok (.aload_n 0, 1) := by decide +kernel
theorem dX7_nameLength_2 : decode cX7_nameLength 2 = .ok (.iload_n 1, 1) := by decide +kernel
theorem dX7_nameLength_3 : decode cX7_nameLength 3 = .ok (.invokevirtual 150, 3) := by decide +kernel
theorem dX7_nameLength_6 : decode cX7_nameLength 6 = .ok (.iconst 1, 1) := by decide +kernel
theorem dX7_nameLength_7 : decode cX7_nameLength 7 = .ok (.iadd, 1) := by decide +kernel
theorem dX7_nameLength_8 : decode cX7_nameLength 8 = .ok (.invokevirtual 107, 3) := by decide +kernel
theorem dX7_nameLength_11 : decode cX7_nameLength 11 = .ok (.ireturn, 1) := by decide +kernel
theorem dX7_nameOf_0 : decode cX7_nameOf 0 = .ok (.aload_n 0, 1) := by decide +kernel
theorem dX7_nameOf_1 : decode cX7_nameOf 1 = .ok (.aload_n 0, 1) := by decide +kernel
theorem dX7_nameOf_2 : decode cX7_nameOf 2 = .ok (.iload_n 1, 1) := by decide +kernel
theorem dX7_nameOf_3 : decode cX7_nameOf 3 = .ok (.invokevirtual 165, 3) := by decide +kernel
theorem dX7_nameOf_6 : decode cX7_nameOf 6 = .ok (.iconst 2, 1) := by decide +kernel
theorem dX7_nameOf_7 : decode cX7_nameOf 7 = .ok (.iadd, 1) := by decide +kernel
theorem dX7_nameOf_8 : decode cX7_nameOf 8 = .ok (.invokevirtual 107, 3) := by decide +kernel
theorem dX7_nameOf_11 : decode cX7_nameOf 11 = .ok (.ireturn, 1) := by decide +kernel
theorem dX7_nameSign_0 : decode cX7_nameSign 0 = .ok (.aload_n 0, 1) := by decide +kernel
theorem dX7_nameSign_1 : decode cX7_nameSign 1 = .ok (.aload_n 0, 1) := by decide +kernel
theorem dX7_nameSign_2 : decode cX7_nameSign 2 = .ok (.iload_n 1, 1) := by decide +kernel
theorem dX7_nameSign_3 : decode cX7_nameSign 3 = .ok (.invokevirtual 150, 3) := by decide +kernel
theorem dX7_nameSign_6 : decode cX7_nameSign 6 = .ok (.iconst 3, 1) := by decide +kernel
theorem dX7_nameSign_7 : decode cX7_nameSign 7 = .ok (.iadd, 1) := by decide +kernel
theorem dX7_nameSign_8 : decode cX7_nameSign 8 = .ok (.iload_n 2, 1) := by decide +kernel
theorem dX7_nameSign_9 : decode cX7_nameSign 9 = .ok (.iadd, 1) := by decide +kernel
theorem dX7_nameSign_10 : decode cX7_nameSign 10 = .ok (.invokevirtual 100, 3) := by decide +kernel
theorem dX7_nameSign_13 : decode cX7_nameSign 13 = .ok (.ireturn, 1) := by decide +kernel
theorem dX7_namesHold_0 : decode cX7_namesHold 0 = .ok (.iconst 0, 1) := by decide +kernel
theorem dX7_namesHold_1 : decode cX7_namesHold 1 = .ok (.istore_n 1, 1) := by decide +kernel
theorem dX7_namesHold_2 : decode cX7_namesHold 2 = .ok (.iload_n 1, 1) := by decide +kernel
theorem dX7_namesHold_3 : decode cX7_namesHold 3 = .ok (.aload_n 0, 1) := by decide +kernel
theorem dX7_namesHold_4 : decode cX7_namesHold 4 = .ok (.getfield 134, 3) := by decide +kernel
theorem dX7_namesHold_7 : decode cX7_namesHold 7 = .ok (.aload_n 0, 1) := by decide +kernel
theorem dX7_namesHold_8 : decode cX7_namesHold 8 = .ok (.getfield 131, 3) := by decide +kernel
theorem dX7_namesHold_11 : decode cX7_namesHold 11 = .ok (.iadd, 1) := by decide +kernel
theorem dX7_namesHold_12 : decode cX7_namesHold 12 = .ok (.if_icmp .ge 48, 3) := by decide +kernel
theorem dX7_namesHold_15 : decode cX7_namesHold 15 = .ok (.aload_n 0, 1) := by decide +kernel
theorem dX7_namesHold_16 : decode cX7_namesHold 16 = .ok (.iload_n 1, 1) := by decide +kernel
theorem dX7_namesHold_17 : decode cX7_namesHold 17 = .ok (.invokevirtual 165, 3) := by decide +kernel
theorem dX7_namesHold_20 : decode cX7_namesHold 20 = .ok (.istore_n 2, 1) := by decide +kernel
theorem dX7_namesHold_21 : decode cX7_namesHold 21 = .ok (.aload_n 0, 1) := by decide +kernel
theorem dX7_namesHold_22 : decode cX7_namesHold 22 = .ok (.iload_n 2, 1) := by decide +kernel
theorem dX7_namesHold_23 : decode cX7_namesHold 23 = .ok (.iconst 2, 1) := by decide +kernel
theorem dX7_namesHold_24 : decode cX7_namesHold 24 = .ok (.iadd, 1) := by decide +kernel
theorem dX7_namesHold_25 : decode cX7_namesHold 25 = .ok (.invokevirtual 168, 3) := by decide +kernel
theorem dX7_namesHold_28 : decode cX7_namesHold 28 = .ok (.ifCond .eq 24, 3) := by decide +kernel
theorem dX7_namesHold_31 : decode cX7_namesHold 31 = .ok (.aload_n 0, 1) := by decide +kernel
theorem dX7_namesHold_32 : decode cX7_namesHold 32 = .ok (.iload_n 2, 1) := by decide +kernel
theorem dX7_namesHold_33 : decode cX7_namesHold 33 = .ok (.iconst 4, 1) := by decide +kernel
theorem dX7_namesHold_34 : decode cX7_namesHold 34 = .ok (.iadd, 1) := by decide +kernel
theorem dX7_namesHold_35 : decode cX7_namesHold 35 = .ok (.invokevirtual 168, 3) := by decide +kernel
theorem dX7_namesHold_38 : decode cX7_namesHold 38 = .ok (.ifCond .eq 14, 3) := by decide +kernel
theorem dX7_namesHold_41 : decode cX7_namesHold 41 = .ok (.aload_n 0, 1) := by decide +kernel
theorem dX7_namesHold_42 : decode cX7_namesHold 42 = .ok (.iload_n 2, 1) := by decide +kernel
theorem dX7_namesHold_43 : decode cX7_namesHold 43 = .ok (.bipush 6, 2) := by decide +kernel
theorem dX7_namesHold_45 : decode cX7_namesHold 45 = .ok (.iadd, 1) := by decide +kernel
theorem dX7_namesHold_46 : decode cX7_namesHold 46 = .ok (.invokevirtual 171, 3) := by decide +kernel
theorem dX7_namesHold_49 : decode cX7_namesHold 49 = .ok (.ifCond .ne 5, 3) := by decide +kernel
theorem dX7_namesHold_52 : decode cX7_namesHold 52 = .ok (.iconst 0, 1) := by decide +kernel
theorem dX7_namesHold_53 : decode cX7_namesHold 53 = .ok (.ireturn, 1) := by decide +kernel
theorem dX7_namesHold_54 : decode cX7_namesHold 54 = .ok (.iinc 1 1, 3) := by decide +kernel
theorem dX7_namesHold_57 : decode cX7_namesHold 57 = .ok (.goto (-55), 3) := by decide +kernel
theorem dX7_namesHold_60 : decode cX7_namesHold 60 = .ok (.aload_n 0, 1) := by decide +kernel
theorem dX7_namesHold_61 : decode cX7_namesHold 61 = .ok (.aload_n 0, 1) := by decide +kernel
theorem dX7_namesHold_62 : decode cX7_namesHold 62 = .ok (.getfield 143, 3) := by decide +kernel
theorem dX7_namesHold_65 : decode cX7_namesHold 65 = .ok (.invokevirtual 171, 3) := by decide +kernel
theorem dX7_namesHold_68 : decode cX7_namesHold 68 = .ok (.ireturn, 1) := by decide +kernel
theorem dX7_noTwins_0 : decode cX7_noTwins 0 = .ok (.iconst 0, 1) := by decide +kernel
theorem dX7_noTwins_1 : decode cX7_noTwins 1 = .ok (.istore_n 1, 1) := by decide +kernel
theorem dX7_noTwins_2 : decode cX7_noTwins 2 = .ok (.iload_n 1, 1) := by decide +kernel
theorem dX7_noTwins_3 : decode cX7_noTwins 3 = .ok (.aload_n 0, 1) := by decide +kernel
theorem dX7_noTwins_4 : decode cX7_noTwins 4 = .ok (.getfield 134, 3) := by decide +kernel
theorem dX7_noTwins_7 : decode cX7_noTwins 7 = .ok (.aload_n 0, 1) := by decide +kernel
theorem dX7_noTwins_8 : decode cX7_noTwins 8 = .ok (.getfield 131, 3) := by decide +kernel
theorem dX7_noTwins_11 : decode cX7_noTwins 11 = .ok (.iadd, 1) := by decide +kernel
theorem dX7_noTwins_12 : decode cX7_noTwins 12 = .ok (.if_icmp .ge 70, 3) := by decide +kernel
theorem dX7_noTwins_15 : decode cX7_noTwins 15 = .ok (.iload_n 1, 1) := by decide +kernel
theorem dX7_noTwins_16 : decode cX7_noTwins 16 = .ok (.aload_n 0, 1) := by decide +kernel
theorem dX7_noTwins_17 : decode cX7_noTwins 17 = .ok (.getfield 134, 3) := by decide +kernel
theorem dX7_noTwins_20 : decode cX7_noTwins 20 = .ok (.if_icmp .ge 7, 3) := by decide +kernel
theorem dX7_noTwins_23 : decode cX7_noTwins 23 = .ok (.iconst 0, 1) := by decide +kernel
theorem dX7_noTwins_24 : decode cX7_noTwins 24 = .ok (.goto 7, 3) := by decide +kernel
theorem dX7_noTwins_27 : decode cX7_noTwins 27 = .ok (.aload_n 0, 1) := by decide +kernel
theorem dX7_noTwins_28 : decode cX7_noTwins 28 = .ok (.getfield 134, 3) := by decide +kernel
theorem dX7_noTwins_31 : decode cX7_noTwins 31 = .ok (.istore_n 2, 1) := by decide +kernel
theorem dX7_noTwins_32 : decode cX7_noTwins 32 = .ok (.iload_n 2, 1) := by decide +kernel
theorem dX7_noTwins_33 : decode cX7_noTwins 33 = .ok (.istore_n 3, 1) := by decide +kernel
theorem dX7_noTwins_34 : decode cX7_noTwins 34 = .ok (.iload_n 3, 1) := by decide +kernel
theorem dX7_noTwins_35 : decode cX7_noTwins 35 = .ok (.iload_n 1, 1) := by decide +kernel
theorem dX7_noTwins_36 : decode cX7_noTwins 36 = .ok (.if_icmp .ge 40, 3) := by decide +kernel
theorem dX7_noTwins_39 : decode cX7_noTwins 39 = .ok (.aload_n 0, 1) := by decide +kernel
theorem dX7_noTwins_40 : decode cX7_noTwins 40 = .ok (.aload_n 0, 1) := by decide +kernel
theorem dX7_noTwins_41 : decode cX7_noTwins 41 = .ok (.iload_n 3, 1) := by decide +kernel
theorem dX7_noTwins_42 : decode cX7_noTwins 42 = .ok (.invokevirtual 212, 3) := by decide +kernel
theorem dX7_noTwins_45 : decode cX7_noTwins 45 = .ok (.aload_n 0, 1) := by decide +kernel

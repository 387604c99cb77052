theorem dX7_membersFit_42 : decode cX7_membersFit 42 = .ok (.iconst 2, 1) := by decide +kernel
theorem dX7_membersFit_43 : decode cX7_membersFit 43 = .ok (.iadd, 1) := by decide +kernel
theorem dX7_membersFit_44 : decode cX7_membersFit 44 = .ok (.putfield 44, 3) := by decide +kernel
theorem dX7_membersFit_47 : decode cX7_membersFit 47 = .ok (.iload_n 1, 1) := by decide +kernel
theorem dX7_membersFit_48 : decode cX7_membersFit 48 = .ok (.istore_n 3, 1) := by decide +kernel
theorem dX7_membersFit_49 : decode cX7_membersFit 49 = .ok (.iload_n 3, 1) := by decide +kernel
theorem dX7_membersFit_50 : decode cX7_membersFit 50 = .ok (.iload_n 1, 1) := by decide +kernel
theorem dX7_membersFit_51 : decode cX7_membersFit 51 = .ok (.iload_n 2, 1) := by decide +kernel
theorem dX7_membersFit_52 : decode cX7_membersFit 52 = .ok (.iadd, 1) := by decide +kernel
theorem dX7_membersFit_53 : decode cX7_membersFit 53 = .ok (.if_icmp .ge 59, 3) := by decide +kernel
theorem dX7_membersFit_56 : decode cX7_membersFit 56 = .ok (.iload_n 3, 1) := by decide +kernel
theorem dX7_membersFit_57 : decode cX7_membersFit 57 = .ok (.aload_n 0, 1) := by decide +kernel
theorem dX7_membersFit_58 : decode cX7_membersFit 58 = .ok (.getfield 23, 3) := by decide +kernel
theorem dX7_membersFit_61 : decode cX7_membersFit 61 = .ok (.arraylength, 1) := by decide +kernel
theorem dX7_membersFit_62 : decode cX7_membersFit 62 = .ok (.if_icmp .ge 50, 3) := by decide +kernel
theorem dX7_membersFit_65 : decode cX7_membersFit 65 = .ok (.aload_n 0, 1) := by decide +kernel
theorem dX7_membersFit_66 : decode cX7_membersFit 66 = .ok (.getfield 23, 3) := by decide +kernel
theorem dX7_membersFit_69 : decode cX7_membersFit 69 = .ok (.iload_n 3, 1) := by decide +kernel
theorem dX7_membersFit_70 : decode cX7_membersFit 70 = .ok (.aload_n 0, 1) := by decide +kernel
theorem dX7_membersFit_71 : decode cX7_membersFit 71 = .ok (.getfield 44, 3) := by decide +kernel
theorem dX7_membersFit_74 : decode cX7_membersFit 74 = .ok (.iastore, 1) := by decide +kernel
theorem dX7_membersFit_75 : decode cX7_membersFit 75 = .ok (.aload_n 0, 1) := by decide +kernel
theorem dX7_membersFit_76 : decode cX7_membersFit 76 = .ok (.bipush 6, 2) := by decide +kernel
theorem dX7_membersFit_78 : decode cX7_membersFit 78 = .ok (.invokevirtual 103, 3) := by decide +kernel
theorem dX7_membersFit_81 : decode cX7_membersFit 81 = .ok (.ifCond .ne 5, 3) := by decide +kernel
theorem dX7_membersFit_84 : decode cX7_membersFit 84 = .ok (.iconst (-1), 1) := by decide +kernel
theorem dX7_membersFit_85 : decode cX7_membersFit 85 = .ok (.ireturn, 1) := by decide +kernel
theorem dX7_membersFit_86 : decode cX7_membersFit 86 = .ok (.aload_n 0, 1) := by decide +kernel
theorem dX7_membersFit_87 : decode cX7_membersFit 87 = .ok (.dup, 1) := by decide +kernel
theorem dX7_membersFit_88 : decode cX7_membersFit 88 = .ok (.getfield 44, 3) := by decide +kernel
theorem dX7_membersFit_91 : decode cX7_membersFit 91 = .ok (.bipush 6, 2) := by decide +kernel
theorem dX7_membersFit_93 : decode cX7_membersFit 93 = .ok (.iadd, 1) := by decide +kernel
theorem dX7_membersFit_94 : decode cX7_membersFit 94 = .ok (.putfield 44, 3) := by decide +kernel
theorem dX7_membersFit_97 : decode cX7_membersFit 97 = .ok (.aload_n 0, 1) := by decide +kernel
theorem dX7_membersFit_98 : decode cX7_membersFit 98 = .ok (.invokevirtual 140, 3) := by decide +kernel
theorem dX7_membersFit_101 : decode cX7_membersFit 101 = .ok (.ifCond .ne 5, 3) := by decide +kernel
theorem dX7_membersFit_104 : decode cX7_membersFit 104 = .ok (.iconst (-1), 1) := by decide +kernel
theorem dX7_membersFit_105 : decode cX7_membersFit 105 = .ok (.ireturn, 1) := by decide +kernel
theorem dX7_membersFit_106 : decode cX7_membersFit 106 = .ok (.iinc 3 1, 3) := by decide +kernel
theorem dX7_membersFit_109 : decode cX7_membersFit 109 = .ok (.goto (-60), 3) := by decide +kernel
theorem dX7_membersFit_112 : decode cX7_membersFit 112 = .ok (.iload_n 2, 1) := by decide +kernel
theorem dX7_membersFit_113 : decode cX7_membersFit 113 = .ok (.ireturn, 1) := by decide +kernel
theorem dX7_methodsFit_0 : decode cX7_methodsFit 0 = .ok (.aload_n 0, 1) := by decide +kernel
theorem dX7_methodsFit_1 : decode cX7_methodsFit 1 = .ok (.aload_n 0, 1) := by decide +kernel
theorem dX7_methodsFit_2 : decode cX7_methodsFit 2 = .ok (.aload_n 0, 1) := by decide +kernel
theorem dX7_methodsFit_3 : decode cX7_methodsFit 3 = .ok (.getfield 134, 3) := by decide +kernel
theorem dX7_methodsFit_6 : decode cX7_methodsFit 6 = .ok (.invokevirtual 137, 3) := by decide +kernel
theorem dX7_methodsFit_9 : decode cX7_methodsFit 9 = .ok (.putfield 131, 3) := by decide +kernel
theorem dX7_methodsFit_12 : decode cX7_methodsFit 12 = .ok (.aload_n 0, 1) := by decide +kernel
theorem dX7_methodsFit_13 : decode cX7_methodsFit 13 = .ok (.getfield 131, 3) := by decide +kernel
theorem dX7_methodsFit_16 : decode cX7_methodsFit 16 = .ok (.ifCond .lt 7, 3) := by decide +kernel
theorem dX7_methodsFit_19 : decode cX7_methodsFit 19 = .ok (.iconst 1, 1) := by decide +kernel
theorem dX7_methodsFit_20 : decode cX7_methodsFit 20 = .ok (.goto 4, 3) := by decide +kernel
theorem dX7_methodsFit_23 : decode cX7_methodsFit 23 = .ok (.iconst 0, 1) := by decide +kernel
theorem dX7_methodsFit_24 : decode cX7_methodsFit 24 = .ok (.ireturn, 1) := by decide +kernel
theorem dX7_nameFits_0 : decode cX7_nameFits 0 = .ok (.aload_n 0, 1) := by decide +kernel
theorem dX7_nameFits_1 : decode cX7_nameFits 1 = .ok (.iconst 3, 1) := by decide +kernel
theorem dX7_nameFits_2 : decode cX7_nameFits 2 = .ok (.invokevirtual 103, 3) := by decide +kernel
theorem dX7_nameFits_5 : decode cX7_nameFits 5 = .ok (.ifCond .ne 5, 3) := by decide +kernel
theorem dX7_nameFits_8 : decode cX7_nameFits 8 = .ok (.iconst 0, 1) := by decide +kernel
theorem dX7_nameFits_9 : decode cX7_nameFits 9 = .ok (.ireturn, 1) := by decide +kernel
theorem dX7_nameFits_10 : decode cX7_nameFits 10 = .ok (.aload_n 0, 1) := by decide +kernel
theorem dX7_nameFits_11 : decode cX7_nameFits 11 = .ok (.aload_n 0, 1) := by decide +kernel
theorem dX7_nameFits_12 : decode cX7_nameFits 12 = .ok (.getfield 44, 3) := by decide +kernel
theorem dX7_nameFits_15 : decode cX7_nameFits 15 = .ok (.iconst 1, 1) := by decide +kernel
theorem dX7_nameFits_16 : decode cX7_nameFits 16 = .ok (.iadd, 1) := by decide +kernel
theorem dX7_nameFits_17 : decode cX7_nameFits 17 = .ok (.invokevirtual 107, 3) := by decide +kernel
theorem dX7_nameFits_20 : decode cX7_nameFits 20 = .ok (.istore_n 1, 1) := by decide +kernel
theorem dX7_nameFits_21 : decode cX7_nameFits 21 = .ok (.iload_n 1, 1) := by decide +kernel
theorem dX7_nameFits_22 : decode cX7_nameFits 22 = .ok (.iconst 1, 1) := by decide +kernel
theorem dX7_nameFits_23 : decode cX7_nameFits 23 = .ok (.if_icmp .lt 9, 3) := by decide +kernel
theorem dX7_nameFits_26 : decode cX7_nameFits 26 = .ok (.iload_n 1, 1) := by decide +kernel
theorem dX7_nameFits_27 : decode cX7_nameFits 27 = .ok (.bipush 100, 2) := by decide +kernel
theorem dX7_nameFits_29 : decode cX7_nameFits 29 = .ok (.if_icmp .le 13, 3) := by decide +kernel
theorem dX7_nameFits_32 : decode cX7_nameFits 32 = .ok (.aload_n 0, 1) := by decide +kernel
theorem dX7_nameFits_33 : decode cX7_nameFits 33 = .ok (.iconst 4, 1) := by decide +kernel
theorem dX7_nameFits_34 : decode cX7_nameFits 34 = .ok (.aload_n 0, 1) := by decide +kernel
theorem dX7_nameFits_35 : decode cX7_nameFits 35 = .ok (.getfield 44, 3) := by decide +kernel
theorem dX7_nameFits_38 : decode cX7_nameFits 38 = .ok (.invokevirtual 87, 3) := by decide +kernel
theorem dX7_nameFits_41 : decode cX7_nameFits 41 = .ok (.ireturn, 1) := by decide +kernel
theorem dX7_nameFits_42 : decode cX7_nameFits 42 = .ok (.aload_n 0, 1) := by decide +kernel
theorem dX7_nameFits_43 : decode cX7_nameFits 43 = .ok (.getfield 44, 3) := by decide +kernel
theorem dX7_nameFits_46 : decode cX7_nameFits 46 = .ok (.iconst 3, 1) := by decide +kernel
theorem dX7_nameFits_47 : decode cX7_nameFits 47 = .ok (.iadd, 1) := by decide +kernel
theorem dX7_nameFits_48 : decode cX7_nameFits 48 = .ok (.istore_n 2, 1) := by decide +kernel
theorem dX7_nameFits_49 : decode cX7_nameFits 49 = .ok (.iload_n 2, 1) := by decide +kernel
theorem dX7_nameFits_50 : decode cX7_nameFits 50 = .ok (.aload_n 0, 1) := by decide +kernel
theorem dX7_nameFits_51 : decode cX7_nameFits 51 = .ok (.getfield 44, 3) := by decide +kernel
theorem dX7_nameFits_54 : decode cX7_nameFits 54 = .ok (.iconst 3, 1) := by decide +kernel
theorem dX7_nameFits_55 : decode cX7_nameFits 55 = .ok (.iadd, 1) := by decide +kernel
theorem dX7_nameFits_56 : decode cX7_nameFits 56 = .ok (.iload_n 1, 1) := by decide +kernel
theorem dX7_nameFits_57 : decode cX7_nameFits 57 = .ok (.iadd, 1) := by decide +kernel
theorem dX7_nameFits_58 : decode cX7_nameFits 58 = .ok (.if_icmp .ge 47, 3) := by decide +kernel
theorem dX7_nameFits_61 : decode cX7_nameFits 61 = .ok (.iload_n 2, 1) := by decide +kernel
theorem dX7_nameFits_62 : decode cX7_nameFits 62 = .ok (.aload_n 0, 1) := by decide +kernel
theorem dX7_nameFits_63 : decode cX7_nameFits 63 = .ok (.getfield 38, 3) := by decide +kernel
theorem dX7_nameFits_66 : decode cX7_nameFits 66 = .ok (.if_icmp .ge 39, 3) := by decide +kernel
theorem dX7_nameFits_69 : decode cX7_nameFits 69 = .ok (.aload_n 0, 1) := by decide +kernel
theorem dX7_nameFits_70 : decode cX7_nameFits 70 = .ok (.iload_n 2, 1) := by decide +kernel
theorem dX7_nameFits_71 : decode cX7_nameFits 71 = .ok (.invokevirtual 100, 3) := by decide +kernel
theorem dX7_nameFits_74 : decode cX7_nameFits 74 = .ok (.bipush 33, 2) := by decide +kernel
theorem dX7_nameFits_76 : decode cX7_nameFits 76 = .ok (.if_icmp .lt 13, 3) := by decide +kernel
theorem dX7_nameFits_79 : decode cX7_nameFits 79 = .ok (.aload_n 0, 1) := by decide +kernel
theorem dX7_nameFits_80 : decode cX7_nameFits 80 = .ok (.iload_n 2, 1) := by decide +kernel
theorem dX7_nameFits_81 : decode cX7_nameFits 81 = .ok (.invokevirtual 100, 3) := by decide +kernel
theorem dX7_nameFits_84 : decode cX7_nameFits 84 = .ok (.bipush 126, 2) := by decide +kernel
theorem dX7_nameFits_86 : decode cX7_nameFits 86 = .ok (.if_icmp .le 13, 3) := by decide +kernel
theorem dX7_nameFits_89 : decode cX7_nameFits 89 = .ok (.aload_n 0, 1) := by decide +kernel
theorem dX7_nameFits_90 : decode cX7_nameFits 90 = .ok (.iconst 4, 1) := by decide +kernel
theorem dX7_nameFits_91 : decode cX7_nameFits 91 = .ok (.aload_n 0, 1) := by decide +kernel
theorem dX7_nameFits_92 : decode cX7_nameFits 92 = .ok (.getfield 44, 3) := by decide +kernel
theorem dX7_nameFits_95 : decode cX7_nameFits 95 = .ok (.invokevirtual 87, 3) := by decide +kernel
theorem dX7_nameFits_98 : decode cX7_nameFits 98 = .ok (.ireturn, 1) := by decide +kernel
theorem dX7_nameFits_99 : decode cX7_nameFits 99 = .ok (.iinc 2 1, 3) := by decide +kernel
theorem dX7_nameFits_102 : decode cX7_nameFits 102 = .ok (.goto (-53), 3) := by decide +kernel
theorem dX7_nameFits_105 : decode cX7_nameFits 105 = .ok (.aload_n 0, 1) := by decide +kernel
theorem dX7_nameFits_106 : decode cX7_nameFits 106 = .ok (.iconst 3, 1) := by decide +kernel
theorem dX7_nameFits_107 : decode cX7_nameFits 107 = .ok (.iload_n 1, 1) := by decide +kernel
theorem dX7_nameFits_108 : decode cX7_nameFits 108 = .ok (.iadd, 1) := by decide +kernel
theorem dX7_nameFits_109 : decode cX7_nameFits 109 = .ok (.invokevirtual 103, 3) := by decide +kernel
theorem dX7_nameFits_112 : decode cX7_nameFits 112 = .ok (.ireturn, 1) := by decide +kernel
theorem dX7_nameLength_0 : decode cX7_nameLength 0 = .ok (.aload_n 0, 1) := by decide +kernel
theorem dX7_nameLength_1 : decode cX7_nameLength 1 = .ok (.aload_n 0, 1) := by decide +kernel
theorem dX7_nameLength_2 : decode cX7_nameLength 2 = .ok (.iload_n 1, 1) := by decide +kernel
theorem dX7_nameLength_3 : decode cX7_nameLength 3 = .ok (.invokevirtual 150, 3) := by decide +kernel
theorem dX7_nameLength_6 : decode cX7_nameLength 6 = .ok (.iconst 1, 1) := by decide +kernel
theorem dX7_nameLength_7 : decode cX7_nameLength 7 = .ok (.iadd, 1) := by decide +kernel
theorem dX7_nameLength_8 : decode cX7_nameLength 8 = .ok (.invokevirtual 107, 3) := by decide +kernel
theorem dX7_nameLength_11 : decode cX7_nameLength 11 = .ok (.ireturn, 1) := by decide +kernel
theorem dX7_nameOf_0 : decode cX7_nameOf 0 = .ok (.aload_n 0, 1) := by decide +kernel
theorem dX7_nameOf_1 : decode cX7_nameOf 1 = .ok (.aload_n 0, 1) := by decide +kernel
theorem dX7_nameOf_2 : decode cX7_nameOf 2 = .ok (.iload_n 1, 1) := by decide +kernel
theorem dX7_nameOf_3 : decode cX7_nameOf 3 = .ok (.invokevirtual 165, 3) := by decide +kernel
theorem dX7_nameOf_6 : decode cX7_nameOf 6 = .ok (.iconst 2, 1) := by decide +kernel
theorem dX7_nameOf_7 : decode cX7_nameOf 7 = .ok (.iadd, 1) := by decide +kernel
theorem dX7_nameOf_8 : decode cX7_nameOf 8 = .ok (.invokevirtual 107, 3) := by decide +kernel
theorem dX7_nameOf_11 : decode cX7_nameOf 11 = .ok (.ireturn, 1) := by decide +kernel
theorem dX7_nameSign_0 : decode cX7_nameSign 0 = .ok (.aload_n 0, 1) := by decide +kernel
theorem dX7_nameSign_1 : decode cX7_nameSign 1 = .ok (.aload_n 0, 1) := by decide +kernel
theorem dX7_nameSign_2 : decode cX7_nameSign 2 = .ok (.iload_n 1, 1) := by decide +kernel
theorem dX7_nameSign_3 : decode cX7_nameSign 3 = .ok (.invokevirtual 150, 3) := by decide +kernel
theorem dX7_nameSign_6 : decode cX7_nameSign 6 = .ok (.iconst 3, 1) := by decide +kernel
theorem dX7_nameSign_7 : decode cX7_nameSign 7 = .ok (.iadd, 1) := by decide +kernel
theorem dX7_nameSign_8 : decode cX7_nameSign 8 = .ok (.iload_n 2, 1) := by decide +kernel
theorem dX7_nameSign_9 : decode cX7_nameSign 9 = .ok (.iadd, 1) := by decide +kernel
theorem dX7_nameSign_10 : decode cX7_nameSign 10 = .ok (.invokevirtual 100, 3) := by decide +kernel
theorem dX7_nameSign_13 : decode cX7_nameSign 13 = .ok (.ireturn, 1) := by decide +kernel
theorem dX7_namesHold_0 : decode cX7_namesHold 0 = .ok (.iconst 0, 1) := by decide +kernel
theorem dX7_namesHold_1 : decode cX7_namesHold 1 = .ok (.istore_n 1, 1) := by decide +kernel
theorem dX7_namesHold_2 : decode cX7_namesHold 2 = .ok (.iload_n 1, 1) := by decide +kernel

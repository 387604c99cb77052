theorem dX7_attributeNamesHold_29 : decode cX7_attributeNamesHold 29 = .ok (.iload_n 3, 1) := by decide +kernel
theorem dX7_attributeNamesHold_30 : decode cX7_attributeNamesHold 30 = .ok (.bipush 6, 2) := by decide +kernel
theorem dX7_attributeNamesHold_32 : decode cX7_attributeNamesHold 32 = .ok (.aload_n 0, 1) := by decide +kernel
theorem dX7_attributeNamesHold_33 : decode cX7_attributeNamesHold 33 = .ok (.iload_n 3, 1) := by decide +kernel
theorem dX7_attributeNamesHold_34 : decode cX7_attributeNamesHold 34 = .ok (.iconst 2, 1) := by decide +kernel
theorem dX7_attributeNamesHold_35 : decode cX7_attributeNamesHold 35 = .ok (.iadd, 1) := by decide +kernel
theorem dX7_attributeNamesHold_36 : decode cX7_attributeNamesHold 36 = .ok (.invokevirtual 91, 3) := by decide +kernel
theorem dX7_attributeNamesHold_39 : decode cX7_attributeNamesHold 39 = .ok (.iadd, 1) := by decide +kernel
theorem dX7_attributeNamesHold_40 : decode cX7_attributeNamesHold 40 = .ok (.iadd, 1) := by decide +kernel
theorem dX7_attributeNamesHold_41 : decode cX7_attributeNamesHold 41 = .ok (.istore_n 3, 1) := by decide +kernel
theorem dX7_attributeNamesHold_42 : decode cX7_attributeNamesHold 42 = .ok (.iinc 4 1, 3) := by decide +kernel
theorem dX7_attributeNamesHold_45 : decode cX7_attributeNamesHold 45 = .ok (.goto (-32), 3) := by decide +kernel
theorem dX7_attributeNamesHold_48 : decode cX7_attributeNamesHold 48 = .ok (.iconst 1, 1) := by decide +kernel
theorem dX7_attributeNamesHold_49 : decode cX7_attributeNamesHold 49 = .ok (.ireturn, 1) := by decide +kernel
theorem dX7_attributesFit_0 : decode cX7_attributesFit 0 = .ok (.aload_n 0, 1) := by decide +kernel
theorem dX7_attributesFit_1 : decode cX7_attributesFit 1 = .ok (.iconst 2, 1) := by decide +kernel
theorem dX7_attributesFit_2 : decode cX7_attributesFit 2 = .ok (.invokevirtual 103, 3) := by decide +kernel
theorem dX7_attributesFit_5 : decode cX7_attributesFit 5 = .ok (.ifCond .ne 5, 3) := by decide +kernel
theorem dX7_attributesFit_8 : decode cX7_attributesFit 8 = .ok (.iconst 0, 1) := by decide +kernel
theorem dX7_attributesFit_9 : decode cX7_attributesFit 9 = .ok (.ireturn, 1) := by decide +kernel
theorem dX7_attributesFit_10 : decode cX7_attributesFit 10 = .ok (.aload_n 0, 1) := by decide +kernel
theorem dX7_attributesFit_11 : decode cX7_attributesFit 11 = .ok (.aload_n 0, 1) := by decide +kernel
theorem dX7_attributesFit_12 : decode cX7_attributesFit 12 = .ok (.getfield 44, 3) := by decide +kernel
theorem dX7_attributesFit_15 : decode cX7_attributesFit 15 = .ok (.invokevirtual 107, 3) := by decide +kernel
theorem dX7_attributesFit_18 : decode cX7_attributesFit 18 = .ok (.istore_n 1, 1) := by decide +kernel
theorem dX7_attributesFit_19 : decode cX7_attributesFit 19 = .ok (.aload_n 0, 1) := by decide +kernel
theorem dX7_attributesFit_20 : decode cX7_attributesFit 20 = .ok (.dup, 1) := by decide +kernel
theorem dX7_attributesFit_21 : decode cX7_attributesFit 21 = .ok (.getfield 44, 3) := by decide +kernel
theorem dX7_attributesFit_24 : decode cX7_attributesFit 24 = .ok (.iconst 2, 1) := by decide +kernel
theorem dX7_attributesFit_25 : decode cX7_attributesFit 25 = .ok (.iadd, 1) := by decide +kernel
theorem dX7_attributesFit_26 : decode cX7_attributesFit 26 = .ok (.putfield 44, 3) := by decide +kernel
theorem dX7_attributesFit_29 : decode cX7_attributesFit 29 = .ok (.iconst 0, 1) := by decide +kernel
theorem dX7_attributesFit_30 : decode cX7_attributesFit 30 = .ok (.istore_n 2, 1) := by decide +kernel
theorem dX7_attributesFit_31 : decode cX7_attributesFit 31 = .ok (.iload_n 2, 1) := by decide +kernel
theorem dX7_attributesFit_32 : decode cX7_attributesFit 32 = .ok (.iload_n 1, 1) := by decide +kernel
theorem dX7_attributesFit_33 : decode cX7_attributesFit 33 = .ok (.if_icmp .ge 78, 3) := by decide +kernel
theorem dX7_attributesFit_36 : decode cX7_attributesFit 36 = .ok (.aload_n 0, 1) := by decide +kernel
theorem dX7_attributesFit_37 : decode cX7_attributesFit 37 = .ok (.bipush 6, 2) := by decide +kernel
theorem dX7_attributesFit_39 : decode cX7_attributesFit 39 = .ok (.invokevirtual 103, 3) := by decide +kernel
theorem dX7_attributesFit_42 : decode cX7_attributesFit 42 = .ok (.ifCond .ne 5, 3) := by decide +kernel
theorem dX7_attributesFit_45 : decode cX7_attributesFit 45 = .ok (.iconst 0, 1) := by decide +kernel
theorem dX7_attributesFit_46 : decode cX7_attributesFit 46 = .ok (.ireturn, 1) := by decide +kernel
theorem dX7_attributesFit_47 : decode cX7_attributesFit 47 = .ok (.aload_n 0, 1) := by decide +kernel
theorem dX7_attributesFit_48 : decode cX7_attributesFit 48 = .ok (.aload_n 0, 1) := by decide +kernel
theorem dX7_attributesFit_49 : decode cX7_attributesFit 49 = .ok (.getfield 44, 3) := by decide +kernel
theorem dX7_attributesFit_52 : decode cX7_attributesFit 52 = .ok (.iconst 2, 1) := by decide +kernel
theorem dX7_attributesFit_53 : decode cX7_attributesFit 53 = .ok (.iadd, 1) := by decide +kernel
theorem dX7_attributesFit_54 : decode cX7_attributesFit 54 = .ok (.invokevirtual 146, 3) := by decide +kernel
theorem dX7_attributesFit_57 : decode cX7_attributesFit 57 = .ok (.lstore_n 3, 1) := by decide +kernel
theorem dX7_attributesFit_58 : decode cX7_attributesFit 58 = .ok (.aload_n 0, 1) := by decide +kernel
theorem dX7_attributesFit_59 : decode cX7_attributesFit 59 = .ok (.dup, 1) := by decide +kernel
theorem dX7_attributesFit_60 : decode cX7_attributesFit 60 = .ok (.getfield 44, 3) := by decide +kernel
theorem dX7_attributesFit_63 : decode cX7_attributesFit 63 = .ok (.bipush 6, 2) := by decide +kernel
theorem dX7_attributesFit_65 : decode cX7_attributesFit 65 = .ok (.iadd, 1) := by decide +kernel
theorem dX7_attributesFit_66 : decode cX7_attributesFit 66 = .ok (.putfield 44, 3) := by decide +kernel
theorem dX7_attributesFit_69 : decode cX7_attributesFit 69 = .ok (.lload_n 3, 1) := by decide +kernel
theorem dX7_attributesFit_70 : decode cX7_attributesFit 70 = .ok (.aload_n 0, 1) := by decide +kernel
theorem dX7_attributesFit_71 : decode cX7_attributesFit 71 = .ok (.getfield 38, 3) := by decide +kernel
theorem dX7_attributesFit_74 : decode cX7_attributesFit 74 = .ok (.aload_n 0, 1) := by decide +kernel
theorem dX7_attributesFit_75 : decode cX7_attributesFit 75 = .ok (.getfield 44, 3) := by decide +kernel
theorem dX7_attributesFit_78 : decode cX7_attributesFit 78 = .ok (.isub, 1) := by decide +kernel
theorem dX7_attributesFit_79 : decode cX7_attributesFit 79 = .ok (.i2l, 1) := by decide +kernel
theorem dX7_attributesFit_80 : decode cX7_attributesFit 80 = .ok (.lcmp, 1) := by decide +kernel
theorem dX7_attributesFit_81 : decode cX7_attributesFit 81 = .ok (.ifCond .le 13, 3) := by decide +kernel
theorem dX7_attributesFit_84 : decode cX7_attributesFit 84 = .ok (.aload_n 0, 1) := by decide +kernel
theorem dX7_attributesFit_85 : decode cX7_attributesFit 85 = .ok (.iconst 2, 1) := by decide +kernel
theorem dX7_attributesFit_86 : decode cX7_attributesFit 86 = .ok (.aload_n 0, 1) := by decide +kernel
theorem dX7_attributesFit_87 : decode cX7_attributesFit 87 = .ok (.getfield 38, 3) := by decide +kernel
theorem dX7_attributesFit_90 : decode cX7_attributesFit 90 = .ok (.invokevirtual 87, 3) := by decide +kernel
theorem dX7_attributesFit_93 : decode cX7_attributesFit 93 = .ok (.ireturn, 1) := by decide +kernel
theorem dX7_attributesFit_94 : decode cX7_attributesFit 94 = .ok (.aload_n 0, 1) := by decide +kernel
theorem dX7_attributesFit_95 : decode cX7_attributesFit 95 = .ok (.dup, 1) := by decide +kernel
theorem dX7_attributesFit_96 : decode cX7_attributesFit 96 = .ok (.getfield 44, 3) := by decide +kernel
theorem dX7_attributesFit_99 : decode cX7_attributesFit 99 = .ok (.lload_n 3, 1) := by decide +kernel
theorem dX7_attributesFit_100 : decode cX7_attributesFit 100 = .ok (.l2i, 1) := by decide +kernel
theorem dX7_attributesFit_101 : decode cX7_attributesFit 101 = .ok (.iadd, 1) := by decide +kernel
theorem dX7_attributesFit_102 : decode cX7_attributesFit 102 = .ok (.putfield 44, 3) := by decide +kernel
theorem dX7_attributesFit_105 : decode cX7_attributesFit 105 = .ok (.iinc 2 1, 3) := by decide +kernel
theorem dX7_attributesFit_108 : decode cX7_attributesFit 108 = .ok (.goto (-77), 3) := by decide +kernel
theorem dX7_attributesFit_111 : decode cX7_attributesFit 111 = .ok (.iconst 1, 1) := by decide +kernel
theorem dX7_attributesFit_112 : decode cX7_attributesFit 112 = .ok (.ireturn, 1) := by decide +kernel
theorem dX7_breaks_0 : decode cX7_breaks 0 = .ok (.aload_n 0, 1) := by decide +kernel
theorem dX7_breaks_1 : decode cX7_breaks 1 = .ok (.iload_n 1, 1) := by decide +kernel
theorem dX7_breaks_2 : decode cX7_breaks 2 = .ok (.putfield 41, 3) := by decide +kernel
theorem dX7_breaks_5 : decode cX7_breaks 5 = .ok (.aload_n 0, 1) := by decide +kernel
theorem dX7_breaks_6 : decode cX7_breaks 6 = .ok (.iload_n 2, 1) := by decide +kernel
theorem dX7_breaks_7 : decode cX7_breaks 7 = .ok (.putfield 15, 3) := by decide +kernel
theorem dX7_breaks_10 : decode cX7_breaks 10 = .ok (.iconst 0, 1) := by decide +kernel
theorem dX7_breaks_11 : decode cX7_breaks 11 = .ok (.ireturn, 1) := by decide +kernel
theorem dX7_codesHold_0 : decode cX7_codesHold 0 = .ok (.iconst 0, 1) := by decide +kernel
theorem dX7_codesHold_1 : decode cX7_codesHold 1 = .ok (.istore_n 1, 1) := by decide +kernel
theorem dX7_codesHold_2 : decode cX7_codesHold 2 = .ok (.iload_n 1, 1) := by decide +kernel
theorem dX7_codesHold_3 : decode cX7_codesHold 3 = .ok (.aload_n 0, 1) := by decide +kernel
theorem dX7_codesHold_4 : decode cX7_codesHold 4 = .ok (.getfield 131, 3) := by decide +kernel
theorem dX7_codesHold_7 : decode cX7_codesHold 7 = .ok (.if_icmp .ge 133, 3) := by decide +kernel
theorem dX7_codesHold_10 : decode cX7_codesHold 10 = .ok (.iload_n 1, 1) := by decide +kernel
theorem dX7_codesHold_11 : decode cX7_codesHold 11 = .ok (.aload_n 0, 1) := by decide +kernel
theorem dX7_codesHold_12 : decode cX7_codesHold 12 = .ok (.getfield 26, 3) := by decide +kernel
theorem dX7_codesHold_15 : decode cX7_codesHold 15 = .ok (.arraylength, 1) := by decide +kernel
theorem dX7_codesHold_16 : decode cX7_codesHold 16 = .ok (.if_icmp .ge 124, 3) := by decide +kernel
theorem dX7_codesHold_19 : decode cX7_codesHold 19 = .ok (.aload_n 0, 1) := by decide +kernel
theorem dX7_codesHold_20 : decode cX7_codesHold 20 = .ok (.aload_n 0, 1) := by decide +kernel
theorem dX7_codesHold_21 : decode cX7_codesHold 21 = .ok (.getfield 134, 3) := by decide +kernel
theorem dX7_codesHold_24 : decode cX7_codesHold 24 = .ok (.iload_n 1, 1) := by decide +kernel
theorem dX7_codesHold_25 : decode cX7_codesHold 25 = .ok (.iadd, 1) := by decide +kernel
theorem dX7_codesHold_26 : decode cX7_codesHold 26 = .ok (.invokevirtual 165, 3) := by decide +kernel
theorem dX7_codesHold_29 : decode cX7_codesHold 29 = .ok (.istore_n 2, 1) := by decide +kernel
theorem dX7_codesHold_30 : decode cX7_codesHold 30 = .ok (.aload_n 0, 1) := by decide +kernel
theorem dX7_codesHold_31 : decode cX7_codesHold 31 = .ok (.iload_n 2, 1) := by decide +kernel
theorem dX7_codesHold_32 : decode cX7_codesHold 32 = .ok (.bipush 6, 2) := by decide +kernel
theorem dX7_codesHold_34 : decode cX7_codesHold 34 = .ok (.iadd, 1) := by decide +kernel
theorem dX7_codesHold_35 : decode cX7_codesHold 35 = .ok (.invokevirtual 107, 3) := by decide +kernel
theorem dX7_codesHold_38 : decode cX7_codesHold 38 = .ok (.istore_n 3, 1) := by decide +kernel
theorem dX7_codesHold_39 : decode cX7_codesHold 39 = .ok (.iload_n 2, 1) := by decide +kernel
theorem dX7_codesHold_40 : decode cX7_codesHold 40 = .ok (.bipush 8, 2) := by decide +kernel
theorem dX7_codesHold_42 : decode cX7_codesHold 42 = .ok (.iadd, 1) := by decide +kernel
theorem dX7_codesHold_43 : decode cX7_codesHold 43 = .ok (.istore 4, 2) := by decide +kernel
theorem dX7_codesHold_45 : decode cX7_codesHold 45 = .ok (.iconst 0, 1) := by decide +kernel
theorem dX7_codesHold_46 : decode cX7_codesHold 46 = .ok (.istore 5, 2) := by decide +kernel
theorem dX7_codesHold_48 : decode cX7_codesHold 48 = .ok (.iconst 0, 1) := by decide +kernel
theorem dX7_codesHold_49 : decode cX7_codesHold 49 = .ok (.istore 6, 2) := by decide +kernel
theorem dX7_codesHold_51 : decode cX7_codesHold 51 = .ok (.iload 6, 2) := by decide +kernel
theorem dX7_codesHold_53 : decode cX7_codesHold 53 = .ok (.iload_n 3, 1) := by decide +kernel
theorem dX7_codesHold_54 : decode cX7_codesHold 54 = .ok (.if_icmp .ge 66, 3) := by decide +kernel
theorem dX7_codesHold_57 : decode cX7_codesHold 57 = .ok (.iload 4, 2) := by decide +kernel
theorem dX7_codesHold_59 : decode cX7_codesHold 59 = .ok (.bipush 6, 2) := by decide +kernel
theorem dX7_codesHold_61 : decode cX7_codesHold 61 = .ok (.iadd, 1) := by decide +kernel
theorem dX7_codesHold_62 : decode cX7_codesHold 62 = .ok (.aload_n 0, 1) := by decide +kernel
theorem dX7_codesHold_63 : decode cX7_codesHold 63 = .ok (.iload 4, 2) := by decide +kernel
theorem dX7_codesHold_65 : decode cX7_codesHold 65 = .ok (.iconst 2, 1) := by decide +kernel
theorem dX7_codesHold_66 : decode cX7_codesHold 66 = .ok (.iadd, 1) := by decide +kernel
theorem dX7_codesHold_67 : decode cX7_codesHold 67 = .ok (.invokevirtual 91, 3) := by decide +kernel
theorem dX7_codesHold_70 : decode cX7_codesHold 70 = .ok (.iadd, 1) := by decide +kernel
theorem dX7_codesHold_71 : decode cX7_codesHold 71 = .ok (.istore 7, 2) := by decide +kernel
theorem dX7_codesHold_73 : decode cX7_codesHold 73 = .ok (.aload_n 0, 1) := by decide +kernel
theorem dX7_codesHold_74 : decode cX7_codesHold 74 = .ok (.aload_n 0, 1) := by decide +kernel
theorem dX7_codesHold_75 : decode cX7_codesHold 75 = .ok (.iload 4, 2) := by decide +kernel
theorem dX7_codesHold_77 : decode cX7_codesHold 77 = .ok (.invokevirtual 107, 3) := by decide +kernel
theorem dX7_codesHold_80 : decode cX7_codesHold 80 = .ok (.ldc 218, 2) := by decide +kernel
theorem dX7_codesHold_82 : decode cX7_codesHold 82 = .ok (.invokevirtual 220, 3) := by decide +kernel
theorem dX7_codesHold_85 : decode cX7_codesHold 85 = .ok (.ifCond .eq 25, 3) := by decide +kernel
theorem dX7_codesHold_88 : decode cX7_codesHold 88 = .ok (.iinc 5 1, 3) := by decide +kernel
theorem dX7_codesHold_91 : decode cX7_codesHold 91 = .ok (.aload_n 0, 1) := by decide +kernel
theorem dX7_codesHold_92 : decode cX7_codesHold 92 = .ok (.getfield 26, 3) := by decide +kernel
theorem dX7_codesHold_95 : decode cX7_codesHold 95 = .ok (.iload_n 1, 1) := by decide +kernel
theorem dX7_codesHold_96 : decode cX7_codesHold 96 = .ok (.iload 4, 2) := by decide +kernel
theorem dX7_codesHold_98 : decode cX7_codesHold 98 = .ok (.bipush 6, 2) := by decide +kernel
theorem dX7_codesHold_100 : decode cX7_codesHold 100 = .ok (.iadd, 1) := by decide +kernel
theorem dX7_codesHold_101 : decode cX7_codesHold 101 = .ok (.iastore, 1) := by decide +kernel
theorem dX7_codesHold_102 : decode cX7_codesHold 102 = .ok (.aload_n 0, 1) := by decide +kernel

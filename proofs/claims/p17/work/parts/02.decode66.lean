theorem dX7_attributesFit_85 : decode cX7_attributesFit 85 = .ok (.iconst 2, 1) := by decide +kernel
theorem dX7_attributesFit_86 : decode cX7_attributesFit 86 = .ok (.aload_n 0, 1) := by decide +kernel
theorem dX7_attributesFit_87 : decode cX7_attributesFit 87 = .ok (.getfield 38, 3) := by decide +kernel
theorem dX7_attributesFit_90 : decode cX7_attributesFit 90 = .ok (.invokevirtual 87, 3) := by decide +kernel
theorem dX7_attributesFit_93 : decode cX7_attributesFit 93 = .ok (.ireturn, 1) := by decide +kernel
theorem dX7_attributesFit_94 : decode cX7_attributesFit 94 = .ok (.aload_n 0, 1) := by decide +kernel
theorem dX7_attributesFit_95 : decode cX7_attributesFit 95 = .ok (.dup, 1) := by decide +kernel
theorem dX7_attributesFit_96 : decode cX7_attributesFit 96 = .ok (.getfield 44, 3) := by decide +kernel
theorem dX7_attributesFit_99 : decode cX7_attributesFit 99 = .ok (.lload_n 3, 1) := by decide +kernel
theorem dX7_attributesFit_100 : decode cX7_attributesFit 100 = .ok (.l2i, 1) := by decide +kernel
theorem dX7_attributesFit_101 : decode cX7_attributesFit 101 = .ok (.iadd, 1) := by decide +kernel
theorem dX7_attributesFit_102 : decode cX7_attributesFit 102 = .ok (.putfield 44, 3) := by decide +kernel
theorem dX7_attributesFit_105 : decode cX7_attributesFit 105 = .ok (.iinc 2 1, 3) := by decide +kernel
theorem dX7_attributesFit_108 : decode cX7_attributesFit 108 = .ok (.goto (-77), 3) := by decide +kernel
theorem dX7_attributesFit_111 : decode cX7_attributesFit 111 = .ok (.iconst 1, 1) := by decide +kernel
theorem dX7_attributesFit_112 : decode cX7_attributesFit 112 = .ok (.ireturn, 1) := by decide +kernel
theorem dX7_breaks_0 : decode cX7_breaks 0 = .ok (.aload_n 0, 1) := by decide +kernel
theorem dX7_breaks_1 : decode cX7_breaks 1 = .ok (.iload_n 1, 1) := by decide +kernel
theorem dX7_breaks_2 : decode cX7_breaks 2 = .ok (.putfield 41, 3) := by decide +kernel
theorem dX7_breaks_5 : decode cX7_breaks 5 = .ok (.aload_n 0, 1) := by decide +kernel
theorem dX7_breaks_6 : decode cX7_breaks 6 = .ok (.iload_n 2, 1) := by decide +kernel
theorem dX7_breaks_7 : decode cX7_breaks 7 = .ok (.putfield 15, 3) := by decide +kernel
theorem dX7_breaks_10 : decode cX7_breaks 10 = .ok (.iconst 0, 1) := by decide +kernel
theorem dX7_breaks_11 : decode cX7_breaks 11 = .ok (.ireturn, 1) := by decide +kernel
theorem dX7_codesHold_0 : decode cX7_codesHold 0 = .ok (.iconst 0, 1) := by decide +kernel
theorem dX7_codesHold_1 : decode cX7_codesHold 1 = .ok (.istore_n 1, 1) := by decide +kernel
theorem dX7_codesHold_2 : decode cX7_codesHold 2 = .ok (.iload_n 1, 1) := by decide +kernel
theorem dX7_codesHold_3 : decode cX7_codesHold 3 = .ok (.aload_n 0, 1) := by decide +kernel
theorem dX7_codesHold_4 : decode cX7_codesHold 4 = .ok (.getfield 131, 3) := by decide +kernel
theorem dX7_codesHold_7 : decode cX7_codesHold 7 = .ok (.if_icmp .ge 133, 3) := by decide +kernel
theorem dX7_codesHold_10 : decode cX7_codesHold 10 = .ok (.iload_n 1, 1) := by decide +kernel
theorem dX7_codesHold_11 : decode cX7_codesHold 11 = .ok (.aload_n 0, 1) := by decide +kernel
theorem dX7_codesHold_12 : decode cX7_codesHold 12 = .ok (.getfield 26, 3) := by decide +kernel
theorem dX7_codesHold_15 : decode cX7_codesHold 15 = .ok (.arraylength, 1) := by decide +kernel
theorem dX7_codesHold_16 : decode cX7_codesHold 16 = .ok (.if_icmp .ge 124, 3) := by decide +kernel
theorem dX7_codesHold_19 : decode cX7_codesHold 19 = .ok (.aload_n 0, 1) := by decide +kernel
theorem dX7_codesHold_20 : decode cX7_codesHold 20 = .ok (.aload_n 0, 1) := by decide +kernel
theorem dX7_codesHold_21 : decode cX7_codesHold 21 = .ok (.getfield 134, 3) := by decide +kernel
theorem dX7_codesHold_24 : decode cX7_codesHold 24 = .ok (.iload_n 1, 1) := by decide +kernel
theorem dX7_codesHold_25 : decode cX7_codesHold 25 = .ok (.iadd, 1) := by decide +kernel
theorem dX7_codesHold_26 : decode cX7_codesHold 26 = .ok (.invokevirtual 165, 3) := by decide +kernel
theorem dX7_codesHold_29 : decode cX7_codesHold 29 = .ok (.istore_n 2, 1) := by decide +kernel
theorem dX7_codesHold_30 : decode cX7_codesHold 30 = .ok (.aload_n 0, 1) := by decide +kernel
theorem dX7_codesHold_31 : decode cX7_codesHold 31 = .ok (.iload_n 2, 1) := by decide +kernel
theorem dX7_codesHold_32 : decode cX7_codesHold 32 = .ok (.bipush 6, 2) := by decide +kernel
theorem dX7_codesHold_34 : decode cX7_codesHold 34 = .ok (.iadd, 1) := by decide +kernel
theorem dX7_codesHold_35 : decode cX7_codesHold 35 = .ok (.invokevirtual 107, 3) := by decide +kernel
theorem dX7_codesHold_38 : decode cX7_codesHold 38 = .ok (.istore_n 3, 1) := by decide +kernel
theorem dX7_codesHold_39 : decode cX7_codesHold 39 = .ok (.iload_n 2, 1) := by decide +kernel
theorem dX7_codesHold_40 : decode cX7_codesHold 40 = .ok (.bipush 8, 2) := by decide +kernel
theorem dX7_codesHold_42 : decode cX7_codesHold 42 = .ok (.iadd, 1) := by decide +kernel
theorem dX7_codesHold_43 : decode cX7_codesHold 43 = .ok (.istore 4, 2) := by decide +kernel
theorem dX7_codesHold_45 : decode cX7_codesHold 45 = .ok (.iconst 0, 1) := by decide +kernel
theorem dX7_codesHold_46 : decode cX7_codesHold 46 = .ok (.istore 5, 2) := by decide +kernel
theorem dX7_codesHold_48 : decode cX7_codesHold 48 = .ok (.iconst 0, 1) := by decide +kernel
theorem dX7_codesHold_49 : decode cX7_codesHold 49 = .ok (.istore 6, 2) := by decide +kernel
theorem dX7_codesHold_51 : decode cX7_codesHold 51 = .ok (.iload 6, 2) := by decide +kernel
theorem dX7_codesHold_53 : decode cX7_codesHold 53 = .ok (.iload_n 3, 1) := by decide +kernel
theorem dX7_codesHold_54 : decode cX7_codesHold 54 = .ok (.if_icmp .ge 66, 3) := by decide +kernel
theorem dX7_codesHold_57 : decode cX7_codesHold 57 = .ok (.iload 4, 2) := by decide +kernel
theorem dX7_codesHold_59 : decode cX7_codesHold 59 = .ok (.bipush 6, 2) := by decide +kernel
theorem dX7_codesHold_61 : decode cX7_codesHold 61 = .ok (.iadd, 1) := by decide +kernel
theorem dX7_codesHold_62 : decode cX7_codesHold 62 = .ok (.aload_n 0, 1) := by decide +kernel
theorem dX7_codesHold_63 : decode cX7_codesHold 63 = .ok (.iload 4, 2) := by decide +kernel
theorem dX7_codesHold_65 : decode cX7_codesHold 65 = .ok (.iconst 2, 1) := by decide +kernel
theorem dX7_codesHold_66 : decode cX7_codesHold 66 = .ok (.iadd, 1) := by decide +kernel
theorem dX7_codesHold_67 : decode cX7_codesHold 67 = .ok (.invokevirtual 91, 3) := by decide +kernel
theorem dX7_codesHold_70 : decode cX7_codesHold 70 = .ok (.iadd, 1) := by decide +kernel
theorem dX7_codesHold_71 : decode cX7_codesHold 71 = .ok (.istore 7, 2) := by decide +kernel
theorem dX7_codesHold_73 : decode cX7_codesHold 73 = .ok (.aload_n 0, 1) := by decide +kernel
theorem dX7_codesHold_74 : decode cX7_codesHold 74 = .ok (.aload_n 0, 1) := by decide +kernel
theorem dX7_codesHold_75 : decode cX7_codesHold 75 = .ok (.iload 4, 2) := by decide +kernel
theorem dX7_codesHold_77 : decode cX7_codesHold 77 = .ok (.invokevirtual 107, 3) := by decide +kernel
theorem dX7_codesHold_80 : decode cX7_codesHold 80 = .ok (.ldc 218, 2) := by decide +kernel
theorem dX7_codesHold_82 : decode cX7_codesHold 82 = .ok (.invokevirtual 220, 3) := by decide +kernel
theorem dX7_codesHold_85 : decode cX7_codesHold 85 = .ok (.ifCond .eq 25, 3) := by decide +kernel
theorem dX7_codesHold_88 : decode cX7_codesHold 88 = .ok (.iinc 5 1, 3) := by decide +kernel
theorem dX7_codesHold_91 : decode cX7_codesHold 91 = .ok (.aload_n 0, 1) := by decide +kernel
theorem dX7_codesHold_92 : decode cX7_codesHold 92 = .ok (.getfield 26, 3) := by decide +kernel
theorem dX7_codesHold_95 : decode cX7_codesHold 95 = .ok (.iload_n 1, 1) := by decide +kernel
theorem dX7_codesHold_96 : decode cX7_codesHold 96 = .ok (.iload 4, 2) := by decide +kernel
theorem dX7_codesHold_98 : decode cX7_codesHold 98 = .ok (.bipush 6, 2) := by decide +kernel
theorem dX7_codesHold_100 : decode cX7_codesHold 100 = .ok (.iadd, 1) := by decide +kernel
theorem dX7_codesHold_101 : decode cX7_codesHold 101 = .ok (.iastore, 1) := by decide +kernel
theorem dX7_codesHold_102 : decode cX7_codesHold 102 = .ok (.aload_n 0, 1) := by decide +kernel
theorem dX7_codesHold_103 : decode cX7_codesHold 103 = .ok (.getfield 29, 3) := by decide +kernel
theorem dX7_codesHold_106 : decode cX7_codesHold 106 = .ok (.iload_n 1, 1) := by decide +kernel
theorem dX7_codesHold_107 : decode cX7_codesHold 107 = .ok (.iload 7, 2) := by decide +kernel
theorem dX7_codesHold_109 : decode cX7_codesHold 109 = .ok (.iastore, 1) := by decide +kernel
theorem dX7_codesHold_110 : decode cX7_codesHold 110 = .ok (.iload 7, 2) := by decide +kernel
theorem dX7_codesHold_112 : decode cX7_codesHold 112 = .ok (.istore 4, 2) := by decide +kernel
theorem dX7_codesHold_114 : decode cX7_codesHold 114 = .ok (.iinc 6 1, 3) := by decide +kernel
theorem dX7_codesHold_117 : decode cX7_codesHold 117 = .ok (.goto (-66), 3) := by decide +kernel
theorem dX7_codesHold_120 : decode cX7_codesHold 120 = .ok (.iload 5, 2) := by decide +kernel
theorem dX7_codesHold_122 : decode cX7_codesHold 122 = .ok (.iconst 1, 1) := by decide +kernel
theorem dX7_codesHold_123 : decode cX7_codesHold 123 = .ok (.if_icmp .eq 11, 3) := by decide +kernel
theorem dX7_codesHold_126 : decode cX7_codesHold 126 = .ok (.aload_n 0, 1) := by decide +kernel
theorem dX7_codesHold_127 : decode cX7_codesHold 127 = .ok (.bipush 12, 2) := by decide +kernel
theorem dX7_codesHold_129 : decode cX7_codesHold 129 = .ok (.iload_n 2, 1) := by decide +kernel
theorem dX7_codesHold_130 : decode cX7_codesHold 130 = .ok (.invokevirtual 87, 3) := by decide +kernel
theorem dX7_codesHold_133 : decode cX7_codesHold 133 = .ok (.ireturn, 1) := by decide +kernel
theorem dX7_codesHold_134 : decode cX7_codesHold 134 = .ok (.iinc 1 1, 3) := by decide +kernel
theorem dX7_codesHold_137 : decode cX7_codesHold 137 = .ok (.goto (-135), 3) := by decide +kernel
theorem dX7_codesHold_140 : decode cX7_codesHold 140 = .ok (.iconst 1, 1) := by decide +kernel
theorem dX7_codesHold_141 : decode cX7_codesHold 141 = .ok (.ireturn, 1) := by decide +kernel
theorem dX7_entriesPoint_0 : decode cX7_entriesPoint 0 = .ok (.iconst 1, 1) := by decide +kernel
theorem dX7_entriesPoint_1 : decode cX7_entriesPoint 1 = .ok (.istore_n 1, 1) := by decide +kernel
theorem dX7_entriesPoint_2 : decode cX7_entriesPoint 2 = .ok (.iload_n 1, 1) := by decide +kernel
theorem dX7_entriesPoint_3 : decode cX7_entriesPoint 3 = .ok (.aload_n 0, 1) := by decide +kernel
theorem dX7_entriesPoint_4 : decode cX7_entriesPoint 4 = .ok (.getfield 110, 3) := by decide +kernel
theorem dX7_entriesPoint_7 : decode cX7_entriesPoint 7 = .ok (.if_icmp .ge 29, 3) := by decide +kernel
theorem dX7_entriesPoint_10 : decode cX7_entriesPoint 10 = .ok (.aload_n 0, 1) := by decide +kernel
theorem dX7_entriesPoint_11 : decode cX7_entriesPoint 11 = .ok (.iload_n 1, 1) := by decide +kernel
theorem dX7_entriesPoint_12 : decode cX7_entriesPoint 12 = .ok (.invokevirtual 153, 3) := by decide +kernel
theorem dX7_entriesPoint_15 : decode cX7_entriesPoint 15 = .ok (.ifCond .ne 15, 3) := by decide +kernel
theorem dX7_entriesPoint_18 : decode cX7_entriesPoint 18 = .ok (.aload_n 0, 1) := by decide +kernel
theorem dX7_entriesPoint_19 : decode cX7_entriesPoint 19 = .ok (.bipush 6, 2) := by decide +kernel
theorem dX7_entriesPoint_21 : decode cX7_entriesPoint 21 = .ok (.aload_n 0, 1) := by decide +kernel
theorem dX7_entriesPoint_22 : decode cX7_entriesPoint 22 = .ok (.iload_n 1, 1) := by decide +kernel
theorem dX7_entriesPoint_23 : decode cX7_entriesPoint 23 = .ok (.invokevirtual 150, 3) := by decide +kernel
theorem dX7_entriesPoint_26 : decode cX7_entriesPoint 26 = .ok (.invokevirtual 87, 3) := by decide +kernel
theorem dX7_entriesPoint_29 : decode cX7_entriesPoint 29 = .ok (.ireturn, 1) := by decide +kernel
theorem dX7_entriesPoint_30 : decode cX7_entriesPoint 30 = .ok (.iinc 1 1, 3) := by decide +kernel
theorem dX7_entriesPoint_33 : decode cX7_entriesPoint 33 = .ok (.goto (-31), 3) := by decide +kernel
theorem dX7_entriesPoint_36 : decode cX7_entriesPoint 36 = .ok (.iconst 1, 1) := by decide +kernel
theorem dX7_entriesPoint_37 : decode cX7_entriesPoint 37 = .ok (.ireturn, 1) := by decide +kernel
theorem dX7_entryAt_0 : decode cX7_entryAt 0 = .ok (.iload_n 1, 1) := by decide +kernel
theorem dX7_entryAt_1 : decode cX7_entryAt 1 = .ok (.iconst 1, 1) := by decide +kernel
theorem dX7_entryAt_2 : decode cX7_entryAt 2 = .ok (.if_icmp .lt 20, 3) := by decide +kernel
theorem dX7_entryAt_5 : decode cX7_entryAt 5 = .ok (.iload_n 1, 1) := by decide +kernel
theorem dX7_entryAt_6 : decode cX7_entryAt 6 = .ok (.aload_n 0, 1) := by decide +kernel
theorem dX7_entryAt_7 : decode cX7_entryAt 7 = .ok (.getfield 110, 3) := by decide +kernel
theorem dX7_entryAt_10 : decode cX7_entryAt 10 = .ok (.if_icmp .ge 12, 3) := by decide +kernel
theorem dX7_entryAt_13 : decode cX7_entryAt 13 = .ok (.iload_n 1, 1) := by decide +kernel
theorem dX7_entryAt_14 : decode cX7_entryAt 14 = .ok (.aload_n 0, 1) := by decide +kernel
theorem dX7_entryAt_15 : decode cX7_entryAt 15 = .ok (.getfield 19, 3) := by decide +kernel
theorem dX7_entryAt_18 : decode cX7_entryAt 18 = .ok (.arraylength, 1) := by decide +kernel
theorem dX7_entryAt_19 : decode cX7_entryAt 19 = .ok (.if_icmp .lt 7, 3) := by decide +kernel
theorem dX7_entryAt_22 : decode cX7_entryAt 22 = .ok (.iconst 0, 1) := by decide +kernel
theorem dX7_entryAt_23 : decode cX7_entryAt 23 = .ok (.goto 9, 3) := by decide +kernel
theorem dX7_entryAt_26 : decode cX7_entryAt 26 = .ok (.aload_n 0, 1) := by decide +kernel
theorem dX7_entryAt_27 : decode cX7_entryAt 27 = .ok (.getfield 19, 3) := by decide +kernel
theorem dX7_entryAt_30 : decode cX7_entryAt 30 = .ok (.iload_n 1, 1) := by decide +kernel
theorem dX7_entryAt_31 : decode cX7_entryAt 31 = .ok (.iaload, 1) := by decide +kernel
theorem dX7_entryAt_32 : decode cX7_entryAt 32 = .ok (.ireturn, 1) := by decide +kernel
theorem dX7_entryFits_0 : decode cX7_entryFits 0 = .ok (.aload_n 0, 1) := by decide +kernel
theorem dX7_entryFits_1 : decode cX7_entryFits 1 = .ok (.iconst 1, 1) := by decide +kernel
theorem dX7_entryFits_2 : decode cX7_entryFits 2 = .ok (.invokevirtual 103, 3) := by decide +kernel
theorem dX7_entryFits_5 : decode cX7_entryFits 5 = .ok (.ifCond .ne 5, 3) := by decide +kernel
theorem dX7_entryFits_8 : decode cX7_entryFits 8 = .ok (.iconst 0, 1) := by decide +kernel

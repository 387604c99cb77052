theorem dX14_chosen_23 : decode cX14_chosen 23 = .ok (.iload_n 3, 1) := by decide +kernel
theorem dX14_chosen_24 : decode cX14_chosen 24 = .ok (.imul, 1) := by decide +kernel
theorem dX14_chosen_25 : decode cX14_chosen 25 = .ok (.iadd, 1) := by decide +kernel
theorem dX14_chosen_26 : decode cX14_chosen 26 = .ok (.iaload, 1) := by decide +kernel
theorem dX14_chosen_27 : decode cX14_chosen 27 = .ok (.iload_n 2, 1) := by decide +kernel
theorem dX14_chosen_28 : decode cX14_chosen 28 = .ok (.if_icmp .ne 20, 3) := by decide +kernel
theorem dX14_chosen_31 : decode cX14_chosen 31 = .ok (.aload_n 0, 1) := by decide +kernel
theorem dX14_chosen_32 : decode cX14_chosen 32 = .ok (.getfield 668, 3) := by decide +kernel
theorem dX14_chosen_35 : decode cX14_chosen 35 = .ok (.aload_n 0, 1) := by decide +kernel
theorem dX14_chosen_36 : decode cX14_chosen 36 = .ok (.iload_n 1, 1) := by decide +kernel
theorem dX14_chosen_37 : decode cX14_chosen 37 = .ok (.invokevirtual 697, 3) := by decide +kernel
theorem dX14_chosen_40 : decode cX14_chosen 40 = .ok (.iconst 2, 1) := by decide +kernel
theorem dX14_chosen_41 : decode cX14_chosen 41 = .ok (.iadd, 1) := by decide +kernel
theorem dX14_chosen_42 : decode cX14_chosen 42 = .ok (.iconst 2, 1) := by decide +kernel
theorem dX14_chosen_43 : decode cX14_chosen 43 = .ok (.iload_n 3, 1) := by decide +kernel
theorem dX14_chosen_44 : decode cX14_chosen 44 = .ok (.imul, 1) := by decide +kernel
theorem dX14_chosen_45 : decode cX14_chosen 45 = .ok (.iadd, 1) := by decide +kernel
theorem dX14_chosen_46 : decode cX14_chosen 46 = .ok (.iaload, 1) := by decide +kernel
theorem dX14_chosen_47 : decode cX14_chosen 47 = .ok (.ireturn, 1) := by decide +kernel
theorem dX14_chosen_48 : decode cX14_chosen 48 = .ok (.iinc 3 1, 3) := by decide +kernel
theorem dX14_chosen_51 : decode cX14_chosen 51 = .ok (.goto (-49), 3) := by decide +kernel
theorem dX14_chosen_54 : decode cX14_chosen 54 = .ok (.aload_n 0, 1) := by decide +kernel
theorem dX14_chosen_55 : decode cX14_chosen 55 = .ok (.getfield 668, 3) := by decide +kernel
theorem dX14_chosen_58 : decode cX14_chosen 58 = .ok (.aload_n 0, 1) := by decide +kernel
theorem dX14_chosen_59 : decode cX14_chosen 59 = .ok (.iload_n 1, 1) := by decide +kernel
theorem dX14_chosen_60 : decode cX14_chosen 60 = .ok (.invokevirtual 697, 3) := by decide +kernel
theorem dX14_chosen_63 : decode cX14_chosen 63 = .ok (.iaload, 1) := by decide +kernel
theorem dX14_chosen_64 : decode cX14_chosen 64 = .ok (.ireturn, 1) := by decide +kernel
theorem dX14_classNumber_0 : decode cX14_classNumber 0 = .ok (.aload_n 0, 1) := by decide +kernel
theorem dX14_classNumber_1 : decode cX14_classNumber 1 = .ok (.bipush 7, 2) := by decide +kernel
theorem dX14_classNumber_3 : decode cX14_classNumber 3 = .ok (.aload_n 0, 1) := by decide +kernel
theorem dX14_classNumber_4 : decode cX14_classNumber 4 = .ok (.aload_n 1, 1) := by decide +kernel
theorem dX14_classNumber_5 : decode cX14_classNumber 5 = .ok (.invokevirtual 877, 3) := by decide +kernel
theorem dX14_classNumber_8 : decode cX14_classNumber 8 = .ok (.iconst 0, 1) := by decide +kernel
theorem dX14_classNumber_9 : decode cX14_classNumber 9 = .ok (.lconst 0, 1) := by decide +kernel
theorem dX14_classNumber_10 : decode cX14_classNumber 10 = .ok (.ldc_w 721, 3) := by decide +kernel
theorem dX14_classNumber_13 : decode cX14_classNumber 13 = .ok (.invokevirtual 873, 3) := by decide +kernel
theorem dX14_classNumber_16 : decode cX14_classNumber 16 = .ok (.ireturn, 1) := by decide +kernel
theorem dX14_classes_0 : decode cX14_classes 0 = .ok (.aload_n 0, 1) := by decide +kernel
theorem dX14_classes_1 : decode cX14_classes 1 = .ok (.aload_n 0, 1) := by decide +kernel
theorem dX14_classes_2 : decode cX14_classes 2 = .ok (.aload_n 0, 1) := by decide +kernel
theorem dX14_classes_3 : decode cX14_classes 3 = .ok (.aload_n 0, 1) := by decide +kernel
theorem dX14_classes_4 : decode cX14_classes 4 = .ok (.getfield 344, 3) := by decide +kernel
theorem dX14_classes_7 : decode cX14_classes 7 = .ok (.iconst 2, 1) := by decide +kernel
theorem dX14_classes_8 : decode cX14_classes 8 = .ok (.iadd, 1) := by decide +kernel
theorem dX14_classes_9 : decode cX14_classes 9 = .ok (.invokevirtual 316, 3) := by decide +kernel
theorem dX14_classes_12 : decode cX14_classes 12 = .ok (.bipush 7, 2) := by decide +kernel
theorem dX14_classes_14 : decode cX14_classes 14 = .ok (.invokevirtual 380, 3) := by decide +kernel
theorem dX14_classes_17 : decode cX14_classes 17 = .ok (.bipush 8, 2) := by decide +kernel
theorem dX14_classes_19 : decode cX14_classes 19 = .ok (.aload_n 0, 1) := by decide +kernel
theorem dX14_classes_20 : decode cX14_classes 20 = .ok (.getfield 344, 3) := by decide +kernel
theorem dX14_classes_23 : decode cX14_classes 23 = .ok (.iconst 2, 1) := by decide +kernel
theorem dX14_classes_24 : decode cX14_classes 24 = .ok (.iadd, 1) := by decide +kernel
theorem dX14_classes_25 : decode cX14_classes 25 = .ok (.invokevirtual 325, 3) := by decide +kernel
theorem dX14_classes_28 : decode cX14_classes 28 = .ok (.aload_n 0, 1) := by decide +kernel
theorem dX14_classes_29 : decode cX14_classes 29 = .ok (.aload_n 0, 1) := by decide +kernel
theorem dX14_classes_30 : decode cX14_classes 30 = .ok (.aload_n 0, 1) := by decide +kernel
theorem dX14_classes_31 : decode cX14_classes 31 = .ok (.aload_n 0, 1) := by decide +kernel
theorem dX14_classes_32 : decode cX14_classes 32 = .ok (.getfield 344, 3) := by decide +kernel
theorem dX14_classes_35 : decode cX14_classes 35 = .ok (.iconst 4, 1) := by decide +kernel
theorem dX14_classes_36 : decode cX14_classes 36 = .ok (.iadd, 1) := by decide +kernel
theorem dX14_classes_37 : decode cX14_classes 37 = .ok (.invokevirtual 316, 3) := by decide +kernel
theorem dX14_classes_40 : decode cX14_classes 40 = .ok (.bipush 7, 2) := by decide +kernel
theorem dX14_classes_42 : decode cX14_classes 42 = .ok (.invokevirtual 380, 3) := by decide +kernel
theorem dX14_classes_45 : decode cX14_classes 45 = .ok (.bipush 8, 2) := by decide +kernel
theorem dX14_classes_47 : decode cX14_classes 47 = .ok (.aload_n 0, 1) := by decide +kernel
theorem dX14_classes_48 : decode cX14_classes 48 = .ok (.getfield 344, 3) := by decide +kernel
theorem dX14_classes_51 : decode cX14_classes 51 = .ok (.iconst 4, 1) := by decide +kernel
theorem dX14_classes_52 : decode cX14_classes 52 = .ok (.iadd, 1) := by decide +kernel
theorem dX14_classes_53 : decode cX14_classes 53 = .ok (.invokevirtual 325, 3) := by decide +kernel
theorem dX14_classes_56 : decode cX14_classes 56 = .ok (.aload_n 0, 1) := by decide +kernel
theorem dX14_classes_57 : decode cX14_classes 57 = .ok (.aload_n 0, 1) := by decide +kernel
theorem dX14_classes_58 : decode cX14_classes 58 = .ok (.aload_n 0, 1) := by decide +kernel
theorem dX14_classes_59 : decode cX14_classes 59 = .ok (.getfield 344, 3) := by decide +kernel
theorem dX14_classes_62 : decode cX14_classes 62 = .ok (.bipush 6, 2) := by decide +kernel
theorem dX14_classes_64 : decode cX14_classes 64 = .ok (.iadd, 1) := by decide +kernel
theorem dX14_classes_65 : decode cX14_classes 65 = .ok (.invokevirtual 316, 3) := by decide +kernel
theorem dX14_classes_68 : decode cX14_classes 68 = .ok (.ifCond .ne 7, 3) := by decide +kernel
theorem dX14_classes_71 : decode cX14_classes 71 = .ok (.iconst 1, 1) := by decide +kernel
theorem dX14_classes_72 : decode cX14_classes 72 = .ok (.goto 4, 3) := by decide +kernel
theorem dX14_classes_75 : decode cX14_classes 75 = .ok (.iconst 0, 1) := by decide +kernel
theorem dX14_classes_76 : decode cX14_classes 76 = .ok (.bipush 8, 2) := by decide +kernel
theorem dX14_classes_78 : decode cX14_classes 78 = .ok (.aload_n 0, 1) := by decide +kernel
theorem dX14_classes_79 : decode cX14_classes 79 = .ok (.getfield 344, 3) := by decide +kernel
theorem dX14_classes_82 : decode cX14_classes 82 = .ok (.bipush 6, 2) := by decide +kernel
theorem dX14_classes_84 : decode cX14_classes 84 = .ok (.iadd, 1) := by decide +kernel
theorem dX14_classes_85 : decode cX14_classes 85 = .ok (.invokevirtual 325, 3) := by decide +kernel
theorem dX14_classes_88 : decode cX14_classes 88 = .ok (.return_, 1) := by decide +kernel
theorem dX14_closing_0 : decode cX14_closing 0 = .ok (.iconst 0, 1) := by decide +kernel
theorem dX14_closing_1 : decode cX14_closing 1 = .ok (.istore_n 1, 1) := by decide +kernel
theorem dX14_closing_2 : decode cX14_closing 2 = .ok (.aload_n 0, 1) := by decide +kernel
theorem dX14_closing_3 : decode cX14_closing 3 = .ok (.iload_n 1, 1) := by decide +kernel
theorem dX14_closing_4 : decode cX14_closing 4 = .ok (.invokevirtual 408, 3) := by decide +kernel
theorem dX14_closing_7 : decode cX14_closing 7 = .ok (.bipush 41, 2) := by decide +kernel
theorem dX14_closing_9 : decode cX14_closing 9 = .ok (.if_icmp .eq 9, 3) := by decide +kernel
theorem dX14_closing_12 : decode cX14_closing 12 = .ok (.iinc 1 1, 3) := by decide +kernel
theorem dX14_closing_15 : decode cX14_closing 15 = .ok (.goto (-13), 3) := by decide +kernel
theorem dX14_closing_18 : decode cX14_closing 18 = .ok (.iload_n 1, 1) := by decide +kernel
theorem dX14_closing_19 : decode cX14_closing 19 = .ok (.ireturn, 1) := by decide +kernel
theorem dX14_codeFour_0 : decode cX14_codeFour 0 = .ok (.aload_n 0, 1) := by decide +kernel
theorem dX14_codeFour_1 : decode cX14_codeFour 1 = .ok (.aload_n 0, 1) := by decide +kernel
theorem dX14_codeFour_2 : decode cX14_codeFour 2 = .ok (.getfield 427, 3) := by decide +kernel
theorem dX14_codeFour_5 : decode cX14_codeFour 5 = .ok (.iload_n 1, 1) := by decide +kernel
theorem dX14_codeFour_6 : decode cX14_codeFour 6 = .ok (.iadd, 1) := by decide +kernel
theorem dX14_codeFour_7 : decode cX14_codeFour 7 = .ok (.invokevirtual 373, 3) := by decide +kernel
theorem dX14_codeFour_10 : decode cX14_codeFour 10 = .ok (.ireturn, 1) := by decide +kernel
theorem dX14_codeItems_0 : decode cX14_codeItems 0 = .ok (.aload_n 0, 1) := by decide +kernel
theorem dX14_codeItems_1 : decode cX14_codeItems 1 = .ok (.aload_n 0, 1) := by decide +kernel
theorem dX14_codeItems_2 : decode cX14_codeItems 2 = .ok (.getfield 358, 3) := by decide +kernel
theorem dX14_codeItems_5 : decode cX14_codeItems 5 = .ok (.iload_n 1, 1) := by decide +kernel
theorem dX14_codeItems_6 : decode cX14_codeItems 6 = .ok (.iadd, 1) := by decide +kernel
theorem dX14_codeItems_7 : decode cX14_codeItems 7 = .ok (.invokevirtual 418, 3) := by decide +kernel
theorem dX14_codeItems_10 : decode cX14_codeItems 10 = .ok (.istore_n 2, 1) := by decide +kernel
theorem dX14_codeItems_11 : decode cX14_codeItems 11 = .ok (.aload_n 0, 1) := by decide +kernel
theorem dX14_codeItems_12 : decode cX14_codeItems 12 = .ok (.iload_n 2, 1) := by decide +kernel
theorem dX14_codeItems_13 : decode cX14_codeItems 13 = .ok (.bipush 6, 2) := by decide +kernel
theorem dX14_codeItems_15 : decode cX14_codeItems 15 = .ok (.iadd, 1) := by decide +kernel
theorem dX14_codeItems_16 : decode cX14_codeItems 16 = .ok (.putfield 319, 3) := by decide +kernel
theorem dX14_codeItems_19 : decode cX14_codeItems 19 = .ok (.aload_n 0, 1) := by decide +kernel
theorem dX14_codeItems_20 : decode cX14_codeItems 20 = .ok (.aload_n 0, 1) := by decide +kernel
theorem dX14_codeItems_21 : decode cX14_codeItems 21 = .ok (.getfield 319, 3) := by decide +kernel
theorem dX14_codeItems_24 : decode cX14_codeItems 24 = .ok (.i2l, 1) := by decide +kernel
theorem dX14_codeItems_25 : decode cX14_codeItems 25 = .ok (.aload_n 0, 1) := by decide +kernel
theorem dX14_codeItems_26 : decode cX14_codeItems 26 = .ok (.iload_n 2, 1) := by decide +kernel
theorem dX14_codeItems_27 : decode cX14_codeItems 27 = .ok (.iconst 2, 1) := by decide +kernel
theorem dX14_codeItems_28 : decode cX14_codeItems 28 = .ok (.iadd, 1) := by decide +kernel
theorem dX14_codeItems_29 : decode cX14_codeItems 29 = .ok (.invokevirtual 373, 3) := by decide +kernel
theorem dX14_codeItems_32 : decode cX14_codeItems 32 = .ok (.i2l, 1) := by decide +kernel
theorem dX14_codeItems_33 : decode cX14_codeItems 33 = .ok (.ldc2_w 378, 3) := by decide +kernel
theorem dX14_codeItems_36 : decode cX14_codeItems 36 = .ok (.land, 1) := by decide +kernel
theorem dX14_codeItems_37 : decode cX14_codeItems 37 = .ok (.ladd, 1) := by decide +kernel
theorem dX14_codeItems_38 : decode cX14_codeItems 38 = .ok (.l2i, 1) := by decide +kernel
theorem dX14_codeItems_39 : decode cX14_codeItems 39 = .ok (.putfield 421, 3) := by decide +kernel
theorem dX14_codeItems_42 : decode cX14_codeItems 42 = .ok (.aload_n 0, 1) := by decide +kernel
theorem dX14_codeItems_43 : decode cX14_codeItems 43 = .ok (.aload_n 0, 1) := by decide +kernel
theorem dX14_codeItems_44 : decode cX14_codeItems 44 = .ok (.aload_n 0, 1) := by decide +kernel
theorem dX14_codeItems_45 : decode cX14_codeItems 45 = .ok (.getfield 47, 3) := by decide +kernel
theorem dX14_codeItems_48 : decode cX14_codeItems 48 = .ok (.aload_n 0, 1) := by decide +kernel
theorem dX14_codeItems_49 : decode cX14_codeItems 49 = .ok (.getfield 358, 3) := by decide +kernel
theorem dX14_codeItems_52 : decode cX14_codeItems 52 = .ok (.iload_n 1, 1) := by decide +kernel
theorem dX14_codeItems_53 : decode cX14_codeItems 53 = .ok (.iadd, 1) := by decide +kernel
theorem dX14_codeItems_54 : decode cX14_codeItems 54 = .ok (.iaload, 1) := by decide +kernel
theorem dX14_codeItems_55 : decode cX14_codeItems 55 = .ok (.iconst 4, 1) := by decide +kernel
theorem dX14_codeItems_56 : decode cX14_codeItems 56 = .ok (.iadd, 1) := by decide +kernel
theorem dX14_codeItems_57 : decode cX14_codeItems 57 = .ok (.invokevirtual 316, 3) := by decide +kernel
theorem dX14_codeItems_60 : decode cX14_codeItems 60 = .ok (.invokevirtual 398, 3) := by decide +kernel
theorem dX14_codeItems_63 : decode cX14_codeItems 63 = .ok (.istore_n 3, 1) := by decide +kernel
theorem dX14_codeItems_64 : decode cX14_codeItems 64 = .ok (.aload_n 0, 1) := by decide +kernel
theorem dX14_codeItems_65 : decode cX14_codeItems 65 = .ok (.ldc2_w 332, 3) := by decide +kernel
theorem dX14_codeItems_68 : decode cX14_codeItems 68 = .ok (.invokevirtual 424, 3) := by decide +kernel
theorem dX14_codeItems_71 : decode cX14_codeItems 71 = .ok (.istore 4, 2) := by decide +kernel
theorem dX14_codeItems_73 : decode cX14_codeItems 73 = .ok (.aload_n 0, 1) := by decide +kernel
theorem dX14_codeItems_74 : decode cX14_codeItems 74 = .ok (.getfield 56, 3) := by decide +kernel
theorem dX14_codeItems_77 : decode cX14_codeItems 77 = .ok (.iload_n 1, 1) := by decide +kernel
theorem dX14_codeItems_78 : decode cX14_codeItems 78 = .ok (.aload_n 0, 1) := by decide +kernel
theorem dX14_codeItems_79 : decode cX14_codeItems 79 = .ok (.iload 4, 2) := by decide +kernel
theorem dX14_codeItems_81 : decode cX14_codeItems 81 = .ok (.invokevirtual 316, 3) := by decide +kernel
theorem dX14_codeItems_84 : decode cX14_codeItems 84 = .ok (.iastore, 1) := by decide +kernel
theorem dX14_codeItems_85 : decode cX14_codeItems 85 = .ok (.aload_n 0, 1) := by decide +kernel
theorem dX14_codeItems_86 : decode cX14_codeItems 86 = .ok (.aload_n 0, 1) := by decide +kernel
theorem dX14_codeItems_87 : decode cX14_codeItems 87 = .ok (.getfield 56, 3) := by decide +kernel
theorem dX14_codeItems_90 : decode cX14_codeItems 90 = .ok (.iload_n 1, 1) := by decide +kernel
theorem dX14_codeItems_91 : decode cX14_codeItems 91 = .ok (.iaload, 1) := by decide +kernel
theorem dX14_codeItems_92 : decode cX14_codeItems 92 = .ok (.bipush 24, 2) := by decide +kernel
theorem dX14_codeItems_94 : decode cX14_codeItems 94 = .ok (.if_icmp .gt 7, 3) := by decide +kernel
theorem dX14_codeItems_97 : decode cX14_codeItems 97 = .ok (.iconst 1, 1) := by decide +kernel
theorem dX14_codeItems_98 : decode cX14_codeItems 98 = .ok (.goto 4, 3) := by decide +kernel
theorem dX14_codeItems_101 : decode cX14_codeItems 101 = .ok (.iconst 0, 1) := by decide +kernel
theorem dX14_codeItems_102 : decode cX14_codeItems 102 = .ok (.bipush 13, 2) := by decide +kernel
theorem dX14_codeItems_104 : decode cX14_codeItems 104 = .ok (.iload 4, 2) := by decide +kernel
theorem dX14_codeItems_106 : decode cX14_codeItems 106 = .ok (.invokevirtual 325, 3) := by decide +kernel
theorem dX14_codeItems_109 : decode cX14_codeItems 109 = .ok (.aload_n 0, 1) := by decide +kernel
theorem dX14_codeItems_110 : decode cX14_codeItems 110 = .ok (.ldc2_w 332, 3) := by decide +kernel
theorem dX14_codeItems_113 : decode cX14_codeItems 113 = .ok (.invokevirtual 424, 3) := by decide +kernel
theorem dX14_codeItems_116 : decode cX14_codeItems 116 = .ok (.istore 4, 2) := by decide +kernel
theorem dX14_codeItems_118 : decode cX14_codeItems 118 = .ok (.aload_n 0, 1) := by decide +kernel
theorem dX14_codeItems_119 : decode cX14_codeItems 119 = .ok (.getfield 59, 3) := by decide +kernel
theorem dX14_codeItems_122 : decode cX14_codeItems 122 = .ok (.iload_n 1, 1) := by decide +kernel
theorem dX14_codeItems_123 : decode cX14_codeItems 123 = .ok (.aload_n 0, 1) := by decide +kernel
theorem dX14_codeItems_124 : decode cX14_codeItems 124 = .ok (.iload 4, 2) := by decide +kernel
theorem dX14_codeItems_126 : decode cX14_codeItems 126 = .ok (.invokevirtual 316, 3) := by decide +kernel
theorem dX14_codeItems_129 : decode cX14_codeItems 129 = .ok (.iastore, 1) := by decide +kernel
theorem dX14_codeItems_130 : decode cX14_codeItems 130 = .ok (.aload_n 0, 1) := by decide +kernel
theorem dX14_codeItems_131 : decode cX14_codeItems 131 = .ok (.aload_n 0, 1) := by decide +kernel
theorem dX14_codeItems_132 : decode cX14_codeItems 132 = .ok (.getfield 59, 3) := by decide +kernel
theorem dX14_codeItems_135 : decode cX14_codeItems 135 = .ok (.iload_n 1, 1) := by decide +kernel
theorem dX14_codeItems_136 : decode cX14_codeItems 136 = .ok (.iaload, 1) := by decide +kernel
theorem dX14_codeItems_137 : decode cX14_codeItems 137 = .ok (.bipush 24, 2) := by decide +kernel
theorem dX14_codeItems_139 : decode cX14_codeItems 139 = .ok (.if_icmp .gt 17, 3) := by decide +kernel
theorem dX14_codeItems_142 : decode cX14_codeItems 142 = .ok (.aload_n 0, 1) := by decide +kernel
theorem dX14_codeItems_143 : decode cX14_codeItems 143 = .ok (.getfield 59, 3) := by decide +kernel
theorem dX14_codeItems_146 : decode cX14_codeItems 146 = .ok (.iload_n 1, 1) := by decide +kernel
theorem dX14_codeItems_147 : decode cX14_codeItems 147 = .ok (.iaload, 1) := by decide +kernel
theorem dX14_codeItems_148 : decode cX14_codeItems 148 = .ok (.iload_n 3, 1) := by decide +kernel
theorem dX14_codeItems_149 : decode cX14_codeItems 149 = .ok (.if_icmp .lt 7, 3) := by decide +kernel
theorem dX14_codeItems_152 : decode cX14_codeItems 152 = .ok (.iconst 1, 1) := by decide +kernel
theorem dX14_codeItems_153 : decode cX14_codeItems 153 = .ok (.goto 4, 3) := by decide +kernel
theorem dX14_codeItems_156 : decode cX14_codeItems 156 = .ok (.iconst 0, 1) := by decide +kernel
theorem dX14_codeItems_157 : decode cX14_codeItems 157 = .ok (.bipush 13, 2) := by decide +kernel
theorem dX14_codeItems_159 : decode cX14_codeItems 159 = .ok (.iload 4, 2) := by decide +kernel
theorem dX14_codeItems_161 : decode cX14_codeItems 161 = .ok (.invokevirtual 325, 3) := by decide +kernel
theorem dX14_codeItems_164 : decode cX14_codeItems 164 = .ok (.aload_n 0, 1) := by decide +kernel
theorem dX14_codeItems_165 : decode cX14_codeItems 165 = .ok (.ldc2_w 371, 3) := by decide +kernel
theorem dX14_codeItems_168 : decode cX14_codeItems 168 = .ok (.invokevirtual 424, 3) := by decide +kernel
theorem dX14_codeItems_171 : decode cX14_codeItems 171 = .ok (.istore 4, 2) := by decide +kernel
theorem dX14_codeItems_173 : decode cX14_codeItems 173 = .ok (.aload_n 0, 1) := by decide +kernel
theorem dX14_codeItems_174 : decode cX14_codeItems 174 = .ok (.iload 4, 2) := by decide +kernel
theorem dX14_codeItems_176 : decode cX14_codeItems 176 = .ok (.invokevirtual 373, 3) := by decide +kernel
theorem dX14_codeItems_179 : decode cX14_codeItems 179 = .ok (.istore 5, 2) := by decide +kernel
theorem dX14_codeItems_181 : decode cX14_codeItems 181 = .ok (.aload_n 0, 1) := by decide +kernel
theorem dX14_codeItems_182 : decode cX14_codeItems 182 = .ok (.iload 5, 2) := by decide +kernel
theorem dX14_codeItems_184 : decode cX14_codeItems 184 = .ok (.iconst 1, 1) := by decide +kernel
theorem dX14_codeItems_185 : decode cX14_codeItems 185 = .ok (.if_icmp .lt 15, 3) := by decide +kernel
theorem dX14_codeItems_188 : decode cX14_codeItems 188 = .ok (.iload 5, 2) := by decide +kernel
theorem dX14_codeItems_190 : decode cX14_codeItems 190 = .ok (.sipush 1200, 3) := by decide +kernel
theorem dX14_codeItems_193 : decode cX14_codeItems 193 = .ok (.if_icmp .gt 7, 3) := by decide +kernel
theorem dX14_codeItems_196 : decode cX14_codeItems 196 = .ok (.iconst 1, 1) := by decide +kernel
theorem dX14_codeItems_197 : decode cX14_codeItems 197 = .ok (.goto 4, 3) := by decide +kernel
theorem dX14_codeItems_200 : decode cX14_codeItems 200 = .ok (.iconst 0, 1) := by decide +kernel
theorem dX14_codeItems_201 : decode cX14_codeItems 201 = .ok (.bipush 13, 2) := by decide +kernel
theorem dX14_codeItems_203 : decode cX14_codeItems 203 = .ok (.iload 4, 2) := by decide +kernel
theorem dX14_codeItems_205 : decode cX14_codeItems 205 = .ok (.invokevirtual 325, 3) := by decide +kernel
theorem dX14_codeItems_208 : decode cX14_codeItems 208 = .ok (.aload_n 0, 1) := by decide +kernel
theorem dX14_codeItems_209 : decode cX14_codeItems 209 = .ok (.getfield 62, 3) := by decide +kernel
theorem dX14_codeItems_212 : decode cX14_codeItems 212 = .ok (.iload_n 1, 1) := by decide +kernel
theorem dX14_codeItems_213 : decode cX14_codeItems 213 = .ok (.aload_n 0, 1) := by decide +kernel
theorem dX14_codeItems_214 : decode cX14_codeItems 214 = .ok (.iload 5, 2) := by decide +kernel
theorem dX14_codeItems_216 : decode cX14_codeItems 216 = .ok (.i2l, 1) := by decide +kernel
theorem dX14_codeItems_217 : decode cX14_codeItems 217 = .ok (.invokevirtual 424, 3) := by decide +kernel
theorem dX14_codeItems_220 : decode cX14_codeItems 220 = .ok (.iastore, 1) := by decide +kernel
theorem dX14_codeItems_221 : decode cX14_codeItems 221 = .ok (.aload_n 0, 1) := by decide +kernel
theorem dX14_codeItems_222 : decode cX14_codeItems 222 = .ok (.getfield 65, 3) := by decide +kernel
theorem dX14_codeItems_225 : decode cX14_codeItems 225 = .ok (.iload_n 1, 1) := by decide +kernel
theorem dX14_codeItems_226 : decode cX14_codeItems 226 = .ok (.iload 5, 2) := by decide +kernel
theorem dX14_codeItems_228 : decode cX14_codeItems 228 = .ok (.iastore, 1) := by decide +kernel
theorem dX14_codeItems_229 : decode cX14_codeItems 229 = .ok (.aload_n 0, 1) := by decide +kernel
theorem dX14_codeItems_230 : decode cX14_codeItems 230 = .ok (.ldc2_w 332, 3) := by decide +kernel
theorem dX14_codeItems_233 : decode cX14_codeItems 233 = .ok (.invokevirtual 424, 3) := by decide +kernel
theorem dX14_codeItems_236 : decode cX14_codeItems 236 = .ok (.istore 4, 2) := by decide +kernel
theorem dX14_codeItems_238 : decode cX14_codeItems 238 = .ok (.aload_n 0, 1) := by decide +kernel
theorem dX14_codeItems_239 : decode cX14_codeItems 239 = .ok (.getfield 71, 3) := by decide +kernel
theorem dX14_codeItems_242 : decode cX14_codeItems 242 = .ok (.iload_n 1, 1) := by decide +kernel
theorem dX14_codeItems_243 : decode cX14_codeItems 243 = .ok (.aload_n 0, 1) := by decide +kernel
theorem dX14_codeItems_244 : decode cX14_codeItems 244 = .ok (.iload 4, 2) := by decide +kernel
theorem dX14_codeItems_246 : decode cX14_codeItems 246 = .ok (.invokevirtual 316, 3) := by decide +kernel
theorem dX14_codeItems_249 : decode cX14_codeItems 249 = .ok (.iastore, 1) := by decide +kernel
theorem dX14_codeItems_250 : decode cX14_codeItems 250 = .ok (.aload_n 0, 1) := by decide +kernel
theorem dX14_codeItems_251 : decode cX14_codeItems 251 = .ok (.aload_n 0, 1) := by decide +kernel
theorem dX14_codeItems_252 : decode cX14_codeItems 252 = .ok (.getfield 71, 3) := by decide +kernel
theorem dX14_codeItems_255 : decode cX14_codeItems 255 = .ok (.iload_n 1, 1) := by decide +kernel
theorem dX14_codeItems_256 : decode cX14_codeItems 256 = .ok (.iaload, 1) := by decide +kernel
theorem dX14_codeItems_257 : decode cX14_codeItems 257 = .ok (.bipush 16, 2) := by decide +kernel
theorem dX14_codeItems_259 : decode cX14_codeItems 259 = .ok (.if_icmp .gt 7, 3) := by decide +kernel
theorem dX14_codeItems_262 : decode cX14_codeItems 262 = .ok (.iconst 1, 1) := by decide +kernel
theorem dX14_codeItems_263 : decode cX14_codeItems 263 = .ok (.goto 4, 3) := by decide +kernel
theorem dX14_codeItems_266 : decode cX14_codeItems 266 = .ok (.iconst 0, 1) := by decide +kernel
theorem dX14_codeItems_267 : decode cX14_codeItems 267 = .ok (.bipush 13, 2) := by decide +kernel
theorem dX14_codeItems_269 : decode cX14_codeItems 269 = .ok (.iload 4, 2) := by decide +kernel
theorem dX14_codeItems_271 : decode cX14_codeItems 271 = .ok (.invokevirtual 325, 3) := by decide +kernel
theorem dX14_codeItems_274 : decode cX14_codeItems 274 = .ok (.aload_n 0, 1) := by decide +kernel
theorem dX14_codeItems_275 : decode cX14_codeItems 275 = .ok (.getfield 68, 3) := by decide +kernel
theorem dX14_codeItems_278 : decode cX14_codeItems 278 = .ok (.iload_n 1, 1) := by decide +kernel
theorem dX14_codeItems_279 : decode cX14_codeItems 279 = .ok (.aload_n 0, 1) := by decide +kernel
theorem dX14_codeItems_280 : decode cX14_codeItems 280 = .ok (.getfield 319, 3) := by decide +kernel
theorem dX14_codeItems_283 : decode cX14_codeItems 283 = .ok (.iastore, 1) := by decide +kernel
theorem dX14_codeItems_284 : decode cX14_codeItems 284 = .ok (.iconst 0, 1) := by decide +kernel
theorem dX14_codeItems_285 : decode cX14_codeItems 285 = .ok (.istore 6, 2) := by decide +kernel
theorem dX14_codeItems_287 : decode cX14_codeItems 287 = .ok (.iload 6, 2) := by decide +kernel
theorem dX14_codeItems_289 : decode cX14_codeItems 289 = .ok (.aload_n 0, 1) := by decide +kernel
theorem dX14_codeItems_290 : decode cX14_codeItems 290 = .ok (.getfield 71, 3) := by decide +kernel
theorem dX14_codeItems_293 : decode cX14_codeItems 293 = .ok (.iload_n 1, 1) := by decide +kernel
theorem dX14_codeItems_294 : decode cX14_codeItems 294 = .ok (.iaload, 1) := by decide +kernel
theorem dX14_codeItems_295 : decode cX14_codeItems 295 = .ok (.if_icmp .ge 17, 3) := by decide +kernel
theorem dX14_codeItems_298 : decode cX14_codeItems 298 = .ok (.aload_n 0, 1) := by decide +kernel
theorem dX14_codeItems_299 : decode cX14_codeItems 299 = .ok (.ldc2_w 376, 3) := by decide +kernel
theorem dX14_codeItems_302 : decode cX14_codeItems 302 = .ok (.invokevirtual 424, 3) := by decide +kernel
theorem dX14_codeItems_305 : decode cX14_codeItems 305 = .ok (.pop, 1) := by decide +kernel
theorem dX14_codeItems_306 : decode cX14_codeItems 306 = .ok (.iinc 6 1, 3) := by decide +kernel
theorem dX14_codeItems_309 : decode cX14_codeItems 309 = .ok (.goto (-22), 3) := by decide +kernel
theorem dX14_codeItems_312 : decode cX14_codeItems 312 = .ok (.aload_n 0, 1) := by decide +kernel
theorem dX14_codeItems_313 : decode cX14_codeItems 313 = .ok (.aload_n 0, 1) := by decide +kernel
theorem dX14_codeItems_314 : decode cX14_codeItems 314 = .ok (.ldc2_w 332, 3) := by decide +kernel
theorem dX14_codeItems_317 : decode cX14_codeItems 317 = .ok (.invokevirtual 424, 3) := by decide +kernel
theorem dX14_codeItems_320 : decode cX14_codeItems 320 = .ok (.invokevirtual 316, 3) := by decide +kernel
theorem dX14_codeItems_323 : decode cX14_codeItems 323 = .ok (.istore 6, 2) := by decide +kernel
theorem dX14_codeItems_325 : decode cX14_codeItems 325 = .ok (.iconst 0, 1) := by decide +kernel
theorem dX14_codeItems_326 : decode cX14_codeItems 326 = .ok (.istore 7, 2) := by decide +kernel
theorem dX14_codeItems_328 : decode cX14_codeItems 328 = .ok (.iload 7, 2) := by decide +kernel
theorem dX14_codeItems_330 : decode cX14_codeItems 330 = .ok (.iload 6, 2) := by decide +kernel
theorem dX14_codeItems_332 : decode cX14_codeItems 332 = .ok (.if_icmp .ge 42, 3) := by decide +kernel
theorem dX14_codeItems_335 : decode cX14_codeItems 335 = .ok (.aload_n 0, 1) := by decide +kernel
theorem dX14_codeItems_336 : decode cX14_codeItems 336 = .ok (.ldc2_w 332, 3) := by decide +kernel
theorem dX14_codeItems_339 : decode cX14_codeItems 339 = .ok (.invokevirtual 424, 3) := by decide +kernel
theorem dX14_codeItems_342 : decode cX14_codeItems 342 = .ok (.pop, 1) := by decide +kernel
theorem dX14_codeItems_343 : decode cX14_codeItems 343 = .ok (.aload_n 0, 1) := by decide +kernel
theorem dX14_codeItems_344 : decode cX14_codeItems 344 = .ok (.ldc2_w 371, 3) := by decide +kernel
theorem dX14_codeItems_347 : decode cX14_codeItems 347 = .ok (.invokevirtual 424, 3) := by decide +kernel
theorem dX14_codeItems_350 : decode cX14_codeItems 350 = .ok (.istore 8, 2) := by decide +kernel
theorem dX14_codeItems_352 : decode cX14_codeItems 352 = .ok (.aload_n 0, 1) := by decide +kernel
theorem dX14_codeItems_353 : decode cX14_codeItems 353 = .ok (.aload_n 0, 1) := by decide +kernel
theorem dX14_codeItems_354 : decode cX14_codeItems 354 = .ok (.iload 8, 2) := by decide +kernel
theorem dX14_codeItems_356 : decode cX14_codeItems 356 = .ok (.invokevirtual 373, 3) := by decide +kernel
theorem dX14_codeItems_359 : decode cX14_codeItems 359 = .ok (.i2l, 1) := by decide +kernel
theorem dX14_codeItems_360 : decode cX14_codeItems 360 = .ok (.ldc2_w 378, 3) := by decide +kernel
theorem dX14_codeItems_363 : decode cX14_codeItems 363 = .ok (.land, 1) := by decide +kernel
theorem dX14_codeItems_364 : decode cX14_codeItems 364 = .ok (.invokevirtual 424, 3) := by decide +kernel
theorem dX14_codeItems_367 : decode cX14_codeItems 367 = .ok (.pop, 1) := by decide +kernel
theorem dX14_codeItems_368 : decode cX14_codeItems 368 = .ok (.iinc 7 1, 3) := by decide +kernel
theorem dX14_codeItems_371 : decode cX14_codeItems 371 = .ok (.goto (-43), 3) := by decide +kernel
theorem dX14_codeItems_374 : decode cX14_codeItems 374 = .ok (.aload_n 0, 1) := by decide +kernel
theorem dX14_codeItems_375 : decode cX14_codeItems 375 = .ok (.aload_n 0, 1) := by decide +kernel
theorem dX14_codeItems_376 : decode cX14_codeItems 376 = .ok (.getfield 319, 3) := by decide +kernel
theorem dX14_codeItems_379 : decode cX14_codeItems 379 = .ok (.aload_n 0, 1) := by decide +kernel
theorem dX14_codeItems_380 : decode cX14_codeItems 380 = .ok (.getfield 421, 3) := by decide +kernel
theorem dX14_codeItems_383 : decode cX14_codeItems 383 = .ok (.if_icmp .ne 7, 3) := by decide +kernel
theorem dX14_codeItems_386 : decode cX14_codeItems 386 = .ok (.iconst 1, 1) := by decide +kernel
theorem dX14_codeItems_387 : decode cX14_codeItems 387 = .ok (.goto 4, 3) := by decide +kernel
theorem dX14_codeItems_390 : decode cX14_codeItems 390 = .ok (.iconst 0, 1) := by decide +kernel
theorem dX14_codeItems_391 : decode cX14_codeItems 391 = .ok (.bipush 14, 2) := by decide +kernel
theorem dX14_codeItems_393 : decode cX14_codeItems 393 = .ok (.aload_n 0, 1) := by decide +kernel
theorem dX14_codeItems_394 : decode cX14_codeItems 394 = .ok (.getfield 319, 3) := by decide +kernel
theorem dX14_codeItems_397 : decode cX14_codeItems 397 = .ok (.invokevirtual 325, 3) := by decide +kernel
theorem dX14_codeItems_400 : decode cX14_codeItems 400 = .ok (.return_, 1) := by decide +kernel
theorem dX14_codeOctet_0 : decode cX14_codeOctet 0 = .ok (.aload_n 0, 1) := by decide +kernel
theorem dX14_codeOctet_1 : decode cX14_codeOctet 1 = .ok (.getfield 309, 3) := by decide +kernel
theorem dX14_codeOctet_4 : decode cX14_codeOctet 4 = .ok (.aload_n 0, 1) := by decide +kernel
theorem dX14_codeOctet_5 : decode cX14_codeOctet 5 = .ok (.getfield 427, 3) := by decide +kernel
theorem dX14_codeOctet_8 : decode cX14_codeOctet 8 = .ok (.iload_n 1, 1) := by decide +kernel
theorem dX14_codeOctet_9 : decode cX14_codeOctet 9 = .ok (.iadd, 1) := by decide +kernel
theorem dX14_codeOctet_10 : decode cX14_codeOctet 10 = .ok (.baload, 1) := by decide +kernel
theorem dX14_codeOctet_11 : decode cX14_codeOctet 11 = .ok (.sipush 255, 3) := by decide +kernel
theorem dX14_codeOctet_14 : decode cX14_codeOctet 14 = .ok (.iand, 1) := by decide +kernel
theorem dX14_codeOctet_15 : decode cX14_codeOctet 15 = .ok (.ireturn, 1) := by decide +kernel
theorem dX14_codeOf_0 : decode cX14_codeOf 0 = .ok (.iconst (-1), 1) := by decide +kernel
theorem dX14_codeOf_1 : decode cX14_codeOf 1 = .ok (.istore_n 2, 1) := by decide +kernel
theorem dX14_codeOf_2 : decode cX14_codeOf 2 = .ok (.iconst 0, 1) := by decide +kernel
theorem dX14_codeOf_3 : decode cX14_codeOf 3 = .ok (.istore_n 3, 1) := by decide +kernel
theorem dX14_codeOf_4 : decode cX14_codeOf 4 = .ok (.iload_n 3, 1) := by decide +kernel
theorem dX14_codeOf_5 : decode cX14_codeOf 5 = .ok (.aload_n 0, 1) := by decide +kernel
theorem dX14_codeOf_6 : decode cX14_codeOf 6 = .ok (.getfield 352, 3) := by decide +kernel
theorem dX14_codeOf_9 : decode cX14_codeOf 9 = .ok (.if_icmp .ge 56, 3) := by decide +kernel
theorem dX14_codeOf_12 : decode cX14_codeOf 12 = .ok (.aload_n 0, 1) := by decide +kernel
theorem dX14_codeOf_13 : decode cX14_codeOf 13 = .ok (.getfield 53, 3) := by decide +kernel
theorem dX14_codeOf_16 : decode cX14_codeOf 16 = .ok (.iload_n 3, 1) := by decide +kernel
theorem dX14_codeOf_17 : decode cX14_codeOf 17 = .ok (.iaload, 1) := by decide +kernel
theorem dX14_codeOf_18 : decode cX14_codeOf 18 = .ok (.iload_n 1, 1) := by decide +kernel
theorem dX14_codeOf_19 : decode cX14_codeOf 19 = .ok (.if_icmp .ne 40, 3) := by decide +kernel
theorem dX14_codeOf_22 : decode cX14_codeOf 22 = .ok (.aload_n 0, 1) := by decide +kernel
theorem dX14_codeOf_23 : decode cX14_codeOf 23 = .ok (.aload_n 0, 1) := by decide +kernel
theorem dX14_codeOf_24 : decode cX14_codeOf 24 = .ok (.aload_n 0, 1) := by decide +kernel
theorem dX14_codeOf_25 : decode cX14_codeOf 25 = .ok (.getfield 50, 3) := by decide +kernel
theorem dX14_codeOf_28 : decode cX14_codeOf 28 = .ok (.iload_n 3, 1) := by decide +kernel
theorem dX14_codeOf_29 : decode cX14_codeOf 29 = .ok (.iaload, 1) := by decide +kernel
theorem dX14_codeOf_30 : decode cX14_codeOf 30 = .ok (.invokevirtual 316, 3) := by decide +kernel
theorem dX14_codeOf_33 : decode cX14_codeOf 33 = .ok (.ldc_w 412, 3) := by decide +kernel
theorem dX14_codeOf_36 : decode cX14_codeOf 36 = .ok (.invokevirtual 414, 3) := by decide +kernel
theorem dX14_codeOf_39 : decode cX14_codeOf 39 = .ok (.ifCond .ne 6, 3) := by decide +kernel
theorem dX14_codeOf_42 : decode cX14_codeOf 42 = .ok (.goto 17, 3) := by decide +kernel
theorem dX14_codeOf_45 : decode cX14_codeOf 45 = .ok (.iload_n 2, 1) := by decide +kernel
theorem dX14_codeOf_46 : decode cX14_codeOf 46 = .ok (.ifCond .lt 6, 3) := by decide +kernel
theorem dX14_codeOf_49 : decode cX14_codeOf 49 = .ok (.bipush (-2), 2) := by decide +kernel
theorem dX14_codeOf_51 : decode cX14_codeOf 51 = .ok (.ireturn, 1) := by decide +kernel
theorem dX14_codeOf_52 : decode cX14_codeOf 52 = .ok (.aload_n 0, 1) := by decide +kernel
theorem dX14_codeOf_53 : decode cX14_codeOf 53 = .ok (.getfield 50, 3) := by decide +kernel
theorem dX14_codeOf_56 : decode cX14_codeOf 56 = .ok (.iload_n 3, 1) := by decide +kernel
theorem dX14_codeOf_57 : decode cX14_codeOf 57 = .ok (.iaload, 1) := by decide +kernel
theorem dX14_codeOf_58 : decode cX14_codeOf 58 = .ok (.istore_n 2, 1) := by decide +kernel
theorem dX14_codeOf_59 : decode cX14_codeOf 59 = .ok (.iinc 3 1, 3) := by decide +kernel
theorem dX14_codeOf_62 : decode cX14_codeOf 62 = .ok (.goto (-58), 3) := by decide +kernel
theorem dX14_codeOf_65 : decode cX14_codeOf 65 = .ok (.iload_n 2, 1) := by decide +kernel
theorem dX14_codeOf_66 : decode cX14_codeOf 66 = .ok (.ireturn, 1) := by decide +kernel
theorem dX14_codeTwo_0 : decode cX14_codeTwo 0 = .ok (.aload_n 0, 1) := by decide +kernel
theorem dX14_codeTwo_1 : decode cX14_codeTwo 1 = .ok (.aload_n 0, 1) := by decide +kernel
theorem dX14_codeTwo_2 : decode cX14_codeTwo 2 = .ok (.getfield 427, 3) := by decide +kernel
theorem dX14_codeTwo_5 : decode cX14_codeTwo 5 = .ok (.iload_n 1, 1) := by decide +kernel
theorem dX14_codeTwo_6 : decode cX14_codeTwo 6 = .ok (.iadd, 1) := by decide +kernel
theorem dX14_codeTwo_7 : decode cX14_codeTwo 7 = .ok (.invokevirtual 316, 3) := by decide +kernel
theorem dX14_codeTwo_10 : decode cX14_codeTwo 10 = .ok (.i2s, 1) := by decide +kernel
theorem dX14_codeTwo_11 : decode cX14_codeTwo 11 = .ok (.ireturn, 1) := by decide +kernel
theorem dX14_codes_0 : decode cX14_codes 0 = .ok (.aload_n 0, 1) := by decide +kernel
theorem dX14_codes_1 : decode cX14_codes 1 = .ok (.getfield 358, 3) := by decide +kernel
theorem dX14_codes_4 : decode cX14_codes 4 = .ok (.istore_n 1, 1) := by decide +kernel
theorem dX14_codes_5 : decode cX14_codes 5 = .ok (.iload_n 1, 1) := by decide +kernel
theorem dX14_codes_6 : decode cX14_codes 6 = .ok (.aload_n 0, 1) := by decide +kernel
theorem dX14_codes_7 : decode cX14_codes 7 = .ok (.getfield 349, 3) := by decide +kernel
theorem dX14_codes_10 : decode cX14_codes 10 = .ok (.if_icmp .ge 34, 3) := by decide +kernel
theorem dX14_codes_13 : decode cX14_codes 13 = .ok (.aload_n 0, 1) := by decide +kernel
theorem dX14_codes_14 : decode cX14_codes 14 = .ok (.aload_n 0, 1) := by decide +kernel
theorem dX14_codes_15 : decode cX14_codes 15 = .ok (.iload_n 1, 1) := by decide +kernel
theorem dX14_codes_16 : decode cX14_codes 16 = .ok (.invokevirtual 418, 3) := by decide +kernel
theorem dX14_codes_19 : decode cX14_codes 19 = .ok (.ifCond .lt 7, 3) := by decide +kernel
theorem dX14_codes_22 : decode cX14_codes 22 = .ok (.iconst 1, 1) := by decide +kernel
theorem dX14_codes_23 : decode cX14_codes 23 = .ok (.goto 4, 3) := by decide +kernel
theorem dX14_codes_26 : decode cX14_codes 26 = .ok (.iconst 0, 1) := by decide +kernel
theorem dX14_codes_27 : decode cX14_codes 27 = .ok (.bipush 12, 2) := by decide +kernel
theorem dX14_codes_29 : decode cX14_codes 29 = .ok (.aload_n 0, 1) := by decide +kernel
theorem dX14_codes_30 : decode cX14_codes 30 = .ok (.getfield 47, 3) := by decide +kernel
theorem dX14_codes_33 : decode cX14_codes 33 = .ok (.iload_n 1, 1) := by decide +kernel
theorem dX14_codes_34 : decode cX14_codes 34 = .ok (.iaload, 1) := by decide +kernel
theorem dX14_codes_35 : decode cX14_codes 35 = .ok (.invokevirtual 325, 3) := by decide +kernel
theorem dX14_codes_38 : decode cX14_codes 38 = .ok (.iinc 1 1, 3) := by decide +kernel
theorem dX14_codes_41 : decode cX14_codes 41 = .ok (.goto (-36), 3) := by decide +kernel
theorem dX14_codes_44 : decode cX14_codes 44 = .ok (.return_, 1) := by decide +kernel
theorem dX14_collect_0 : decode cX14_collect 0 = .ok (.aload_n 0, 1) := by decide +kernel
theorem dX14_collect_1 : decode cX14_collect 1 = .ok (.iconst 0, 1) := by decide +kernel
theorem dX14_collect_2 : decode cX14_collect 2 = .ok (.putfield 867, 3) := by decide +kernel
theorem dX14_collect_5 : decode cX14_collect 5 = .ok (.aload_n 0, 1) := by decide +kernel
theorem dX14_collect_6 : decode cX14_collect 6 = .ok (.iconst 1, 1) := by decide +kernel
theorem dX14_collect_7 : decode cX14_collect 7 = .ok (.putfield 870, 3) := by decide +kernel
theorem dX14_collect_10 : decode cX14_collect 10 = .ok (.aload_n 0, 1) := by decide +kernel
theorem dX14_collect_11 : decode cX14_collect 11 = .ok (.ldc_w 412, 3) := by decide +kernel
theorem dX14_collect_14 : decode cX14_collect 14 = .ok (.invokevirtual 877, 3) := by decide +kernel
theorem dX14_collect_17 : decode cX14_collect 17 = .ok (.istore_n 2, 1) := by decide +kernel
theorem dX14_collect_18 : decode cX14_collect 18 = .ok (.aload_n 0, 1) := by decide +kernel
theorem dX14_collect_19 : decode cX14_collect 19 = .ok (.aload_n 1, 1) := by decide +kernel
theorem dX14_collect_20 : decode cX14_collect 20 = .ok (.getfield 585, 3) := by decide +kernel
theorem dX14_collect_23 : decode cX14_collect 23 = .ok (.invokevirtual 880, 3) := by decide +kernel
theorem dX14_collect_26 : decode cX14_collect 26 = .ok (.istore_n 3, 1) := by decide +kernel
theorem dX14_collect_27 : decode cX14_collect 27 = .ok (.aload_n 0, 1) := by decide +kernel
theorem dX14_collect_28 : decode cX14_collect 28 = .ok (.aload_n 1, 1) := by decide +kernel
theorem dX14_collect_29 : decode cX14_collect 29 = .ok (.getfield 589, 3) := by decide +kernel
theorem dX14_collect_32 : decode cX14_collect 32 = .ok (.invokevirtual 880, 3) := by decide +kernel
theorem dX14_collect_35 : decode cX14_collect 35 = .ok (.istore_n 3, 1) := by decide +kernel
theorem dX14_collect_36 : decode cX14_collect 36 = .ok (.iconst 0, 1) := by decide +kernel
theorem dX14_collect_37 : decode cX14_collect 37 = .ok (.istore 4, 2) := by decide +kernel
theorem dX14_collect_39 : decode cX14_collect 39 = .ok (.iload 4, 2) := by decide +kernel
theorem dX14_collect_41 : decode cX14_collect 41 = .ok (.aload_n 1, 1) := by decide +kernel
theorem dX14_collect_42 : decode cX14_collect 42 = .ok (.getfield 594, 3) := by decide +kernel
theorem dX14_collect_45 : decode cX14_collect 45 = .ok (.if_icmp .ge 33, 3) := by decide +kernel
theorem dX14_collect_48 : decode cX14_collect 48 = .ok (.aload_n 0, 1) := by decide +kernel
theorem dX14_collect_49 : decode cX14_collect 49 = .ok (.aload_n 1, 1) := by decide +kernel
theorem dX14_collect_50 : decode cX14_collect 50 = .ok (.getfield 600, 3) := by decide +kernel
theorem dX14_collect_53 : decode cX14_collect 53 = .ok (.iload 4, 2) := by decide +kernel
theorem dX14_collect_55 : decode cX14_collect 55 = .ok (.aaload, 1) := by decide +kernel
theorem dX14_collect_56 : decode cX14_collect 56 = .ok (.invokevirtual 877, 3) := by decide +kernel
theorem dX14_collect_59 : decode cX14_collect 59 = .ok (.istore_n 3, 1) := by decide +kernel
theorem dX14_collect_60 : decode cX14_collect 60 = .ok (.aload_n 0, 1) := by decide +kernel
theorem dX14_collect_61 : decode cX14_collect 61 = .ok (.aload_n 1, 1) := by decide +kernel
theorem dX14_collect_62 : decode cX14_collect 62 = .ok (.getfield 603, 3) := by decide +kernel
theorem dX14_collect_65 : decode cX14_collect 65 = .ok (.iload 4, 2) := by decide +kernel
theorem dX14_collect_67 : decode cX14_collect 67 = .ok (.aaload, 1) := by decide +kernel
theorem dX14_collect_68 : decode cX14_collect 68 = .ok (.invokevirtual 877, 3) := by decide +kernel
theorem dX14_collect_71 : decode cX14_collect 71 = .ok (.istore_n 3, 1) := by decide +kernel
theorem dX14_collect_72 : decode cX14_collect 72 = .ok (.iinc 4 1, 3) := by decide +kernel
theorem dX14_collect_75 : decode cX14_collect 75 = .ok (.goto (-36), 3) := by decide +kernel
theorem dX14_collect_78 : decode cX14_collect 78 = .ok (.iconst 0, 1) := by decide +kernel
theorem dX14_collect_79 : decode cX14_collect 79 = .ok (.istore 4, 2) := by decide +kernel
theorem dX14_collect_81 : decode cX14_collect 81 = .ok (.iload 4, 2) := by decide +kernel
theorem dX14_collect_83 : decode cX14_collect 83 = .ok (.aload_n 1, 1) := by decide +kernel
theorem dX14_collect_84 : decode cX14_collect 84 = .ok (.getfield 597, 3) := by decide +kernel
theorem dX14_collect_87 : decode cX14_collect 87 = .ok (.if_icmp .ge 108, 3) := by decide +kernel
theorem dX14_collect_90 : decode cX14_collect 90 = .ok (.aload_n 0, 1) := by decide +kernel
theorem dX14_collect_91 : decode cX14_collect 91 = .ok (.aload_n 1, 1) := by decide +kernel
theorem dX14_collect_92 : decode cX14_collect 92 = .ok (.getfield 613, 3) := by decide +kernel
theorem dX14_collect_95 : decode cX14_collect 95 = .ok (.iload 4, 2) := by decide +kernel
theorem dX14_collect_97 : decode cX14_collect 97 = .ok (.aaload, 1) := by decide +kernel
theorem dX14_collect_98 : decode cX14_collect 98 = .ok (.invokevirtual 877, 3) := by decide +kernel
theorem dX14_collect_101 : decode cX14_collect 101 = .ok (.istore_n 3, 1) := by decide +kernel
theorem dX14_collect_102 : decode cX14_collect 102 = .ok (.aload_n 0, 1) := by decide +kernel
theorem dX14_collect_103 : decode cX14_collect 103 = .ok (.aload_n 1, 1) := by decide +kernel
theorem dX14_collect_104 : decode cX14_collect 104 = .ok (.getfield 616, 3) := by decide +kernel
theorem dX14_collect_107 : decode cX14_collect 107 = .ok (.iload 4, 2) := by decide +kernel
theorem dX14_collect_109 : decode cX14_collect 109 = .ok (.aaload, 1) := by decide +kernel
theorem dX14_collect_110 : decode cX14_collect 110 = .ok (.invokevirtual 877, 3) := by decide +kernel
theorem dX14_collect_113 : decode cX14_collect 113 = .ok (.istore_n 3, 1) := by decide +kernel
theorem dX14_collect_114 : decode cX14_collect 114 = .ok (.aload_n 0, 1) := by decide +kernel
theorem dX14_collect_115 : decode cX14_collect 115 = .ok (.aload_n 1, 1) := by decide +kernel
theorem dX14_collect_116 : decode cX14_collect 116 = .ok (.iload 4, 2) := by decide +kernel
theorem dX14_collect_118 : decode cX14_collect 118 = .ok (.invokevirtual 834, 3) := by decide +kernel
theorem dX14_collect_121 : decode cX14_collect 121 = .ok (.iconst 0, 1) := by decide +kernel
theorem dX14_collect_122 : decode cX14_collect 122 = .ok (.istore 5, 2) := by decide +kernel
theorem dX14_collect_124 : decode cX14_collect 124 = .ok (.iload 5, 2) := by decide +kernel
theorem dX14_collect_126 : decode cX14_collect 126 = .ok (.aload_n 0, 1) := by decide +kernel
theorem dX14_collect_127 : decode cX14_collect 127 = .ok (.getfield 673, 3) := by decide +kernel
theorem dX14_collect_130 : decode cX14_collect 130 = .ok (.if_icmp .ge 16, 3) := by decide +kernel
theorem dX14_collect_133 : decode cX14_collect 133 = .ok (.aload_n 0, 1) := by decide +kernel
theorem dX14_collect_134 : decode cX14_collect 134 = .ok (.iload 5, 2) := by decide +kernel
theorem dX14_collect_136 : decode cX14_collect 136 = .ok (.invokevirtual 894, 3) := by decide +kernel
theorem dX14_collect_139 : decode cX14_collect 139 = .ok (.istore_n 3, 1) := by decide +kernel
theorem dX14_collect_140 : decode cX14_collect 140 = .ok (.iinc 5 1, 3) := by decide +kernel
theorem dX14_collect_143 : decode cX14_collect 143 = .ok (.goto (-19), 3) := by decide +kernel
theorem dX14_collect_146 : decode cX14_collect 146 = .ok (.iconst 0, 1) := by decide +kernel
theorem dX14_collect_147 : decode cX14_collect 147 = .ok (.istore 5, 2) := by decide +kernel
theorem dX14_collect_149 : decode cX14_collect 149 = .ok (.iload 5, 2) := by decide +kernel
theorem dX14_collect_151 : decode cX14_collect 151 = .ok (.aload_n 0, 1) := by decide +kernel
theorem dX14_collect_152 : decode cX14_collect 152 = .ok (.getfield 679, 3) := by decide +kernel
theorem dX14_collect_155 : decode cX14_collect 155 = .ok (.if_icmp .ge 34, 3) := by decide +kernel
theorem dX14_collect_158 : decode cX14_collect 158 = .ok (.aload_n 0, 1) := by decide +kernel
theorem dX14_collect_159 : decode cX14_collect 159 = .ok (.iload 5, 2) := by decide +kernel
theorem dX14_collect_161 : decode cX14_collect 161 = .ok (.iconst 3, 1) := by decide +kernel
theorem dX14_collect_162 : decode cX14_collect 162 = .ok (.invokevirtual 682, 3) := by decide +kernel
theorem dX14_collect_165 : decode cX14_collect 165 = .ok (.ifCond .lt 18, 3) := by decide +kernel
theorem dX14_collect_168 : decode cX14_collect 168 = .ok (.aload_n 0, 1) := by decide +kernel
theorem dX14_collect_169 : decode cX14_collect 169 = .ok (.aload_n 0, 1) := by decide +kernel
theorem dX14_collect_170 : decode cX14_collect 170 = .ok (.iload 5, 2) := by decide +kernel
theorem dX14_collect_172 : decode cX14_collect 172 = .ok (.iconst 3, 1) := by decide +kernel
theorem dX14_collect_173 : decode cX14_collect 173 = .ok (.invokevirtual 682, 3) := by decide +kernel
theorem dX14_collect_176 : decode cX14_collect 176 = .ok (.invokestatic 528, 3) := by decide +kernel
theorem dX14_collect_179 : decode cX14_collect 179 = .ok (.invokevirtual 880, 3) := by decide +kernel
theorem dX14_collect_182 : decode cX14_collect 182 = .ok (.istore_n 3, 1) := by decide +kernel
theorem dX14_collect_183 : decode cX14_collect 183 = .ok (.iinc 5 1, 3) := by decide +kernel
theorem dX14_collect_186 : decode cX14_collect 186 = .ok (.goto (-37), 3) := by decide +kernel
theorem dX14_collect_189 : decode cX14_collect 189 = .ok (.iinc 4 1, 3) := by decide +kernel
theorem dX14_collect_192 : decode cX14_collect 192 = .ok (.goto (-111), 3) := by decide +kernel
theorem dX14_collect_195 : decode cX14_collect 195 = .ok (.return_, 1) := by decide +kernel
theorem dX14_come_0 : decode cX14_come 0 = .ok (.aload_n 0, 1) := by decide +kernel
theorem dX14_come_1 : decode cX14_come 1 = .ok (.getfield 88, 3) := by decide +kernel
theorem dX14_come_4 : decode cX14_come 4 = .ok (.iload_n 1, 1) := by decide +kernel
theorem dX14_come_5 : decode cX14_come 5 = .ok (.iaload, 1) := by decide +kernel
theorem dX14_come_6 : decode cX14_come 6 = .ok (.iconst 1, 1) := by decide +kernel
theorem dX14_come_7 : decode cX14_come 7 = .ok (.iload_n 2, 1) := by decide +kernel
theorem dX14_come_8 : decode cX14_come 8 = .ok (.ishl, 1) := by decide +kernel
theorem dX14_come_9 : decode cX14_come 9 = .ok (.ior, 1) := by decide +kernel
theorem dX14_come_10 : decode cX14_come 10 = .ok (.istore_n 3, 1) := by decide +kernel
theorem dX14_come_11 : decode cX14_come 11 = .ok (.aload_n 0, 1) := by decide +kernel
theorem dX14_come_12 : decode cX14_come 12 = .ok (.aload_n 0, 1) := by decide +kernel
theorem dX14_come_13 : decode cX14_come 13 = .ok (.getfield 740, 3) := by decide +kernel
theorem dX14_come_16 : decode cX14_come 16 = .ok (.ifCond .ne 13, 3) := by decide +kernel
theorem dX14_come_19 : decode cX14_come 19 = .ok (.iload_n 3, 1) := by decide +kernel
theorem dX14_come_20 : decode cX14_come 20 = .ok (.aload_n 0, 1) := by decide +kernel
theorem dX14_come_21 : decode cX14_come 21 = .ok (.getfield 88, 3) := by decide +kernel
theorem dX14_come_24 : decode cX14_come 24 = .ok (.iload_n 1, 1) := by decide +kernel
theorem dX14_come_25 : decode cX14_come 25 = .ok (.iaload, 1) := by decide +kernel
theorem dX14_come_26 : decode cX14_come 26 = .ok (.if_icmp .eq 7, 3) := by decide +kernel
theorem dX14_come_29 : decode cX14_come 29 = .ok (.iconst 1, 1) := by decide +kernel
theorem dX14_come_30 : decode cX14_come 30 = .ok (.goto 4, 3) := by decide +kernel
theorem dX14_come_33 : decode cX14_come 33 = .ok (.iconst 0, 1) := by decide +kernel
theorem dX14_come_34 : decode cX14_come 34 = .ok (.putfield 740, 3) := by decide +kernel
theorem dX14_come_37 : decode cX14_come 37 = .ok (.aload_n 0, 1) := by decide +kernel
theorem dX14_come_38 : decode cX14_come 38 = .ok (.getfield 88, 3) := by decide +kernel
theorem dX14_come_41 : decode cX14_come 41 = .ok (.iload_n 1, 1) := by decide +kernel
theorem dX14_come_42 : decode cX14_come 42 = .ok (.iload_n 3, 1) := by decide +kernel
theorem dX14_come_43 : decode cX14_come 43 = .ok (.iastore, 1) := by decide +kernel
theorem dX14_come_44 : decode cX14_come 44 = .ok (.return_, 1) := by decide +kernel
theorem dX14_copyHead_0 : decode cX14_copyHead 0 = .ok (.aload_n 0, 1) := by decide +kernel
theorem dX14_copyHead_1 : decode cX14_copyHead 1 = .ok (.getfield 223, 3) := by decide +kernel
theorem dX14_copyHead_4 : decode cX14_copyHead 4 = .ok (.aload_n 1, 1) := by decide +kernel
theorem dX14_copyHead_5 : decode cX14_copyHead 5 = .ok (.getfield 585, 3) := by decide +kernel
theorem dX14_copyHead_8 : decode cX14_copyHead 8 = .ok (.putfield 585, 3) := by decide +kernel
theorem dX14_copyHead_11 : decode cX14_copyHead 11 = .ok (.aload_n 0, 1) := by decide +kernel
theorem dX14_copyHead_12 : decode cX14_copyHead 12 = .ok (.getfield 223, 3) := by decide +kernel
theorem dX14_copyHead_15 : decode cX14_copyHead 15 = .ok (.aload_n 1, 1) := by decide +kernel
theorem dX14_copyHead_16 : decode cX14_copyHead 16 = .ok (.getfield 589, 3) := by decide +kernel
theorem dX14_copyHead_19 : decode cX14_copyHead 19 = .ok (.putfield 589, 3) := by decide +kernel
theorem dX14_copyHead_22 : decode cX14_copyHead 22 = .ok (.aload_n 0, 1) := by decide +kernel
theorem dX14_copyHead_23 : decode cX14_copyHead 23 = .ok (.getfield 223, 3) := by decide +kernel
theorem dX14_copyHead_26 : decode cX14_copyHead 26 = .ok (.aload_n 1, 1) := by decide +kernel
theorem dX14_copyHead_27 : decode cX14_copyHead 27 = .ok (.getfield 594, 3) := by decide +kernel
theorem dX14_copyHead_30 : decode cX14_copyHead 30 = .ok (.putfield 594, 3) := by decide +kernel
theorem dX14_copyHead_33 : decode cX14_copyHead 33 = .ok (.aload_n 0, 1) := by decide +kernel
theorem dX14_copyHead_34 : decode cX14_copyHead 34 = .ok (.getfield 223, 3) := by decide +kernel
theorem dX14_copyHead_37 : decode cX14_copyHead 37 = .ok (.aload_n 1, 1) := by decide +kernel
theorem dX14_copyHead_38 : decode cX14_copyHead 38 = .ok (.getfield 597, 3) := by decide +kernel
theorem dX14_copyHead_41 : decode cX14_copyHead 41 = .ok (.putfield 597, 3) := by decide +kernel
theorem dX14_copyHead_44 : decode cX14_copyHead 44 = .ok (.iconst 0, 1) := by decide +kernel
theorem dX14_copyHead_45 : decode cX14_copyHead 45 = .ok (.istore_n 2, 1) := by decide +kernel
theorem dX14_copyHead_46 : decode cX14_copyHead 46 = .ok (.iload_n 2, 1) := by decide +kernel
theorem dX14_copyHead_47 : decode cX14_copyHead 47 = .ok (.aload_n 1, 1) := by decide +kernel
theorem dX14_copyHead_48 : decode cX14_copyHead 48 = .ok (.getfield 594, 3) := by decide +kernel
theorem dX14_copyHead_51 : decode cX14_copyHead 51 = .ok (.if_icmp .ge 54, 3) := by decide +kernel
theorem dX14_copyHead_54 : decode cX14_copyHead 54 = .ok (.aload_n 0, 1) := by decide +kernel
theorem dX14_copyHead_55 : decode cX14_copyHead 55 = .ok (.getfield 223, 3) := by decide +kernel
theorem dX14_copyHead_58 : decode cX14_copyHead 58 = .ok (.getfield 600, 3) := by decide +kernel
theorem dX14_copyHead_61 : decode cX14_copyHead 61 = .ok (.iload_n 2, 1) := by decide +kernel
theorem dX14_copyHead_62 : decode cX14_copyHead 62 = .ok (.aload_n 1, 1) := by decide +kernel
theorem dX14_copyHead_63 : decode cX14_copyHead 63 = .ok (.getfield 600, 3) := by decide +kernel
theorem dX14_copyHead_66 : decode cX14_copyHead 66 = .ok (.iload_n 2, 1) := by decide +kernel
theorem dX14_copyHead_67 : decode cX14_copyHead 67 = .ok (.aaload, 1) := by decide +kernel
theorem dX14_copyHead_68 : decode cX14_copyHead 68 = .ok (.aastore, 1) := by decide +kernel
theorem dX14_copyHead_69 : decode cX14_copyHead 69 = .ok (.aload_n 0, 1) := by decide +kernel
theorem dX14_copyHead_70 : decode cX14_copyHead 70 = .ok (.getfield 223, 3) := by decide +kernel
theorem dX14_copyHead_73 : decode cX14_copyHead 73 = .ok (.getfield 603, 3) := by decide +kernel
theorem dX14_copyHead_76 : decode cX14_copyHead 76 = .ok (.iload_n 2, 1) := by decide +kernel
theorem dX14_copyHead_77 : decode cX14_copyHead 77 = .ok (.aload_n 1, 1) := by decide +kernel
theorem dX14_copyHead_78 : decode cX14_copyHead 78 = .ok (.getfield 603, 3) := by decide +kernel
theorem dX14_copyHead_81 : decode cX14_copyHead 81 = .ok (.iload_n 2, 1) := by decide +kernel
theorem dX14_copyHead_82 : decode cX14_copyHead 82 = .ok (.aaload, 1) := by decide +kernel
theorem dX14_copyHead_83 : decode cX14_copyHead 83 = .ok (.aastore, 1) := by decide +kernel
theorem dX14_copyHead_84 : decode cX14_copyHead 84 = .ok (.aload_n 0, 1) := by decide +kernel
theorem dX14_copyHead_85 : decode cX14_copyHead 85 = .ok (.getfield 223, 3) := by decide +kernel
theorem dX14_copyHead_88 : decode cX14_copyHead 88 = .ok (.getfield 606, 3) := by decide +kernel
theorem dX14_copyHead_91 : decode cX14_copyHead 91 = .ok (.iload_n 2, 1) := by decide +kernel
theorem dX14_copyHead_92 : decode cX14_copyHead 92 = .ok (.aload_n 1, 1) := by decide +kernel
theorem dX14_copyHead_93 : decode cX14_copyHead 93 = .ok (.getfield 606, 3) := by decide +kernel
theorem dX14_copyHead_96 : decode cX14_copyHead 96 = .ok (.iload_n 2, 1) := by decide +kernel
theorem dX14_copyHead_97 : decode cX14_copyHead 97 = .ok (.aaload, 1) := by decide +kernel
theorem dX14_copyHead_98 : decode cX14_copyHead 98 = .ok (.aastore, 1) := by decide +kernel
theorem dX14_copyHead_99 : decode cX14_copyHead 99 = .ok (.iinc 2 1, 3) := by decide +kernel
theorem dX14_copyHead_102 : decode cX14_copyHead 102 = .ok (.goto (-56), 3) := by decide +kernel
theorem dX14_copyHead_105 : decode cX14_copyHead 105 = .ok (.iconst 0, 1) := by decide +kernel
theorem dX14_copyHead_106 : decode cX14_copyHead 106 = .ok (.istore_n 2, 1) := by decide +kernel
theorem dX14_copyHead_107 : decode cX14_copyHead 107 = .ok (.iload_n 2, 1) := by decide +kernel
theorem dX14_copyHead_108 : decode cX14_copyHead 108 = .ok (.aload_n 1, 1) := by decide +kernel
theorem dX14_copyHead_109 : decode cX14_copyHead 109 = .ok (.getfield 597, 3) := by decide +kernel
theorem dX14_copyHead_112 : decode cX14_copyHead 112 = .ok (.if_icmp .ge 69, 3) := by decide +kernel
theorem dX14_copyHead_115 : decode cX14_copyHead 115 = .ok (.aload_n 0, 1) := by decide +kernel
theorem dX14_copyHead_116 : decode cX14_copyHead 116 = .ok (.getfield 223, 3) := by decide +kernel
theorem dX14_copyHead_119 : decode cX14_copyHead 119 = .ok (.getfield 613, 3) := by decide +kernel
theorem dX14_copyHead_122 : decode cX14_copyHead 122 = .ok (.iload_n 2, 1) := by decide +kernel
theorem dX14_copyHead_123 : decode cX14_copyHead 123 = .ok (.aload_n 1, 1) := by decide +kernel
theorem dX14_copyHead_124 : decode cX14_copyHead 124 = .ok (.getfield 613, 3) := by decide +kernel
theorem dX14_copyHead_127 : decode cX14_copyHead 127 = .ok (.iload_n 2, 1) := by decide +kernel
theorem dX14_copyHead_128 : decode cX14_copyHead 128 = .ok (.aaload, 1) := by decide +kernel
theorem dX14_copyHead_129 : decode cX14_copyHead 129 = .ok (.aastore, 1) := by decide +kernel
theorem dX14_copyHead_130 : decode cX14_copyHead 130 = .ok (.aload_n 0, 1) := by decide +kernel
theorem dX14_copyHead_131 : decode cX14_copyHead 131 = .ok (.getfield 223, 3) := by decide +kernel
theorem dX14_copyHead_134 : decode cX14_copyHead 134 = .ok (.getfield 616, 3) := by decide +kernel
theorem dX14_copyHead_137 : decode cX14_copyHead 137 = .ok (.iload_n 2, 1) := by decide +kernel
theorem dX14_copyHead_138 : decode cX14_copyHead 138 = .ok (.aload_n 1, 1) := by decide +kernel
theorem dX14_copyHead_139 : decode cX14_copyHead 139 = .ok (.getfield 616, 3) := by decide +kernel
theorem dX14_copyHead_142 : decode cX14_copyHead 142 = .ok (.iload_n 2, 1) := by decide +kernel
theorem dX14_copyHead_143 : decode cX14_copyHead 143 = .ok (.aaload, 1) := by decide +kernel
theorem dX14_copyHead_144 : decode cX14_copyHead 144 = .ok (.aastore, 1) := by decide +kernel
theorem dX14_copyHead_145 : decode cX14_copyHead 145 = .ok (.aload_n 0, 1) := by decide +kernel
theorem dX14_copyHead_146 : decode cX14_copyHead 146 = .ok (.getfield 223, 3) := by decide +kernel
theorem dX14_copyHead_149 : decode cX14_copyHead 149 = .ok (.getfield 619, 3) := by decide +kernel
theorem dX14_copyHead_152 : decode cX14_copyHead 152 = .ok (.iload_n 2, 1) := by decide +kernel
theorem dX14_copyHead_153 : decode cX14_copyHead 153 = .ok (.aload_n 1, 1) := by decide +kernel
theorem dX14_copyHead_154 : decode cX14_copyHead 154 = .ok (.getfield 619, 3) := by decide +kernel
theorem dX14_copyHead_157 : decode cX14_copyHead 157 = .ok (.iload_n 2, 1) := by decide +kernel
theorem dX14_copyHead_158 : decode cX14_copyHead 158 = .ok (.aaload, 1) := by decide +kernel
theorem dX14_copyHead_159 : decode cX14_copyHead 159 = .ok (.aastore, 1) := by decide +kernel
theorem dX14_copyHead_160 : decode cX14_copyHead 160 = .ok (.aload_n 0, 1) := by decide +kernel
theorem dX14_copyHead_161 : decode cX14_copyHead 161 = .ok (.getfield 223, 3) := by decide +kernel
theorem dX14_copyHead_164 : decode cX14_copyHead 164 = .ok (.getfield 622, 3) := by decide +kernel
theorem dX14_copyHead_167 : decode cX14_copyHead 167 = .ok (.iload_n 2, 1) := by decide +kernel
theorem dX14_copyHead_168 : decode cX14_copyHead 168 = .ok (.aload_n 1, 1) := by decide +kernel
theorem dX14_copyHead_169 : decode cX14_copyHead 169 = .ok (.getfield 622, 3) := by decide +kernel
theorem dX14_copyHead_172 : decode cX14_copyHead 172 = .ok (.iload_n 2, 1) := by decide +kernel
theorem dX14_copyHead_173 : decode cX14_copyHead 173 = .ok (.aaload, 1) := by decide +kernel
theorem dX14_copyHead_174 : decode cX14_copyHead 174 = .ok (.aastore, 1) := by decide +kernel
theorem dX14_copyHead_175 : decode cX14_copyHead 175 = .ok (.iinc 2 1, 3) := by decide +kernel
theorem dX14_copyHead_178 : decode cX14_copyHead 178 = .ok (.goto (-71), 3) := by decide +kernel
theorem dX14_copyHead_181 : decode cX14_copyHead 181 = .ok (.iconst 0, 1) := by decide +kernel
theorem dX14_copyHead_182 : decode cX14_copyHead 182 = .ok (.istore_n 2, 1) := by decide +kernel
theorem dX14_copyHead_183 : decode cX14_copyHead 183 = .ok (.iload_n 2, 1) := by decide +kernel
theorem dX14_copyHead_184 : decode cX14_copyHead 184 = .ok (.aload_n 1, 1) := by decide +kernel
theorem dX14_copyHead_185 : decode cX14_copyHead 185 = .ok (.getfield 641, 3) := by decide +kernel
theorem dX14_copyHead_188 : decode cX14_copyHead 188 = .ok (.arraylength, 1) := by decide +kernel
theorem dX14_copyHead_189 : decode cX14_copyHead 189 = .ok (.if_icmp .ge 21, 3) := by decide +kernel
theorem dX14_copyHead_192 : decode cX14_copyHead 192 = .ok (.aload_n 0, 1) := by decide +kernel
theorem dX14_copyHead_193 : decode cX14_copyHead 193 = .ok (.getfield 231, 3) := by decide +kernel
theorem dX14_copyHead_196 : decode cX14_copyHead 196 = .ok (.iload_n 2, 1) := by decide +kernel
theorem dX14_copyHead_197 : decode cX14_copyHead 197 = .ok (.aload_n 1, 1) := by decide +kernel
theorem dX14_copyHead_198 : decode cX14_copyHead 198 = .ok (.getfield 641, 3) := by decide +kernel
theorem dX14_copyHead_201 : decode cX14_copyHead 201 = .ok (.iload_n 2, 1) := by decide +kernel
theorem dX14_copyHead_202 : decode cX14_copyHead 202 = .ok (.iaload, 1) := by decide +kernel
theorem dX14_copyHead_203 : decode cX14_copyHead 203 = .ok (.iastore, 1) := by decide +kernel
theorem dX14_copyHead_204 : decode cX14_copyHead 204 = .ok (.iinc 2 1, 3) := by decide +kernel
theorem dX14_copyHead_207 : decode cX14_copyHead 207 = .ok (.goto (-24), 3) := by decide +kernel
theorem dX14_copyHead_210 : decode cX14_copyHead 210 = .ok (.aload_n 0, 1) := by decide +kernel
theorem dX14_copyHead_211 : decode cX14_copyHead 211 = .ok (.getfield 223, 3) := by decide +kernel
theorem dX14_copyHead_214 : decode cX14_copyHead 214 = .ok (.aload_n 0, 1) := by decide +kernel
theorem dX14_copyHead_215 : decode cX14_copyHead 215 = .ok (.getfield 228, 3) := by decide +kernel
theorem dX14_copyHead_218 : decode cX14_copyHead 218 = .ok (.putfield 638, 3) := by decide +kernel
theorem dX14_copyHead_221 : decode cX14_copyHead 221 = .ok (.aload_n 0, 1) := by decide +kernel
theorem dX14_copyHead_222 : decode cX14_copyHead 222 = .ok (.getfield 223, 3) := by decide +kernel
theorem dX14_copyHead_225 : decode cX14_copyHead 225 = .ok (.aload_n 0, 1) := by decide +kernel
theorem dX14_copyHead_226 : decode cX14_copyHead 226 = .ok (.getfield 231, 3) := by decide +kernel
theorem dX14_copyHead_229 : decode cX14_copyHead 229 = .ok (.putfield 641, 3) := by decide +kernel
theorem dX14_copyHead_232 : decode cX14_copyHead 232 = .ok (.aload_n 0, 1) := by decide +kernel
theorem dX14_copyHead_233 : decode cX14_copyHead 233 = .ok (.getfield 223, 3) := by decide +kernel
theorem dX14_copyHead_236 : decode cX14_copyHead 236 = .ok (.aload_n 0, 1) := by decide +kernel
theorem dX14_copyHead_237 : decode cX14_copyHead 237 = .ok (.getfield 234, 3) := by decide +kernel
theorem dX14_copyHead_240 : decode cX14_copyHead 240 = .ok (.putfield 644, 3) := by decide +kernel
theorem dX14_copyHead_243 : decode cX14_copyHead 243 = .ok (.aload_n 0, 1) := by decide +kernel
theorem dX14_copyHead_244 : decode cX14_copyHead 244 = .ok (.iconst 0, 1) := by decide +kernel
theorem dX14_copyHead_245 : decode cX14_copyHead 245 = .ok (.putfield 1249, 3) := by decide +kernel
theorem dX14_copyHead_248 : decode cX14_copyHead 248 = .ok (.aload_n 0, 1) := by decide +kernel
theorem dX14_copyHead_249 : decode cX14_copyHead 249 = .ok (.iconst 0, 1) := by decide +kernel
theorem dX14_copyHead_250 : decode cX14_copyHead 250 = .ok (.putfield 1252, 3) := by decide +kernel
theorem dX14_copyHead_253 : decode cX14_copyHead 253 = .ok (.return_, 1) := by decide +kernel
theorem dX14_count_0 : decode cX14_count 0 = .ok (.aload_n 0, 1) := by decide +kernel
theorem dX14_count_1 : decode cX14_count 1 = .ok (.iload_n 1, 1) := by decide +kernel
theorem dX14_count_2 : decode cX14_count 2 = .ok (.invokevirtual 860, 3) := by decide +kernel
theorem dX14_count_5 : decode cX14_count 5 = .ok (.ifCond .ne 5, 3) := by decide +kernel
theorem dX14_count_8 : decode cX14_count 8 = .ok (.iconst (-1), 1) := by decide +kernel
theorem dX14_count_9 : decode cX14_count 9 = .ok (.ireturn, 1) := by decide +kernel
theorem dX14_count_10 : decode cX14_count 10 = .ok (.aload_n 0, 1) := by decide +kernel
theorem dX14_count_11 : decode cX14_count 11 = .ok (.getfield 647, 3) := by decide +kernel
theorem dX14_count_14 : decode cX14_count 14 = .ok (.bipush 12, 2) := by decide +kernel
theorem dX14_count_16 : decode cX14_count 16 = .ok (.if_icmp .eq 12, 3) := by decide +kernel
theorem dX14_count_19 : decode cX14_count 19 = .ok (.aload_n 0, 1) := by decide +kernel
theorem dX14_count_20 : decode cX14_count 20 = .ok (.getfield 1264, 3) := by decide +kernel
theorem dX14_count_23 : decode cX14_count 23 = .ok (.bipush 16, 2) := by decide +kernel
theorem dX14_count_25 : decode cX14_count 25 = .ok (.if_icmp .ne 6, 3) := by decide +kernel
theorem dX14_count_28 : decode cX14_count 28 = .ok (.bipush (-2), 2) := by decide +kernel
theorem dX14_count_30 : decode cX14_count 30 = .ok (.ireturn, 1) := by decide +kernel
theorem dX14_count_31 : decode cX14_count 31 = .ok (.aload_n 0, 1) := by decide +kernel
theorem dX14_count_32 : decode cX14_count 32 = .ok (.dup, 1) := by decide +kernel
theorem dX14_count_33 : decode cX14_count 33 = .ok (.getfield 1264, 3) := by decide +kernel
theorem dX14_count_36 : decode cX14_count 36 = .ok (.iconst 1, 1) := by decide +kernel
theorem dX14_count_37 : decode cX14_count 37 = .ok (.iadd, 1) := by decide +kernel
theorem dX14_count_38 : decode cX14_count 38 = .ok (.putfield 1264, 3) := by decide +kernel
theorem dX14_count_41 : decode cX14_count 41 = .ok (.aload_n 0, 1) := by decide +kernel
theorem dX14_count_42 : decode cX14_count 42 = .ok (.getfield 11, 3) := by decide +kernel
theorem dX14_count_45 : decode cX14_count 45 = .ok (.iload_n 1, 1) := by decide +kernel
theorem dX14_count_46 : decode cX14_count 46 = .ok (.aaload, 1) := by decide +kernel
theorem dX14_count_47 : decode cX14_count 47 = .ok (.astore_n 2, 1) := by decide +kernel
theorem dX14_count_48 : decode cX14_count 48 = .ok (.aload_n 2, 1) := by decide +kernel
theorem dX14_count_49 : decode cX14_count 49 = .ok (.getfield 594, 3) := by decide +kernel
theorem dX14_count_52 : decode cX14_count 52 = .ok (.istore_n 3, 1) := by decide +kernel
theorem dX14_count_53 : decode cX14_count 53 = .ok (.iconst 0, 1) := by decide +kernel
theorem dX14_count_54 : decode cX14_count 54 = .ok (.istore 4, 2) := by decide +kernel
theorem dX14_count_56 : decode cX14_count 56 = .ok (.iload 4, 2) := by decide +kernel
theorem dX14_count_58 : decode cX14_count 58 = .ok (.aload_n 2, 1) := by decide +kernel
theorem dX14_count_59 : decode cX14_count 59 = .ok (.getfield 597, 3) := by decide +kernel
theorem dX14_count_62 : decode cX14_count 62 = .ok (.if_icmp .ge 23, 3) := by decide +kernel
theorem dX14_count_65 : decode cX14_count 65 = .ok (.aload_n 0, 1) := by decide +kernel
theorem dX14_count_66 : decode cX14_count 66 = .ok (.iload_n 1, 1) := by decide +kernel
theorem dX14_count_67 : decode cX14_count 67 = .ok (.iload 4, 2) := by decide +kernel
theorem dX14_count_69 : decode cX14_count 69 = .ok (.invokevirtual 1127, 3) := by decide +kernel
theorem dX14_count_72 : decode cX14_count 72 = .ok (.iload_n 3, 1) := by decide +kernel
theorem dX14_count_73 : decode cX14_count 73 = .ok (.aload_n 0, 1) := by decide +kernel
theorem dX14_count_74 : decode cX14_count 74 = .ok (.invokevirtual 1281, 3) := by decide +kernel
theorem dX14_count_77 : decode cX14_count 77 = .ok (.iadd, 1) := by decide +kernel
theorem dX14_count_78 : decode cX14_count 78 = .ok (.istore_n 3, 1) := by decide +kernel
theorem dX14_count_79 : decode cX14_count 79 = .ok (.iinc 4 1, 3) := by decide +kernel
theorem dX14_count_82 : decode cX14_count 82 = .ok (.goto (-26), 3) := by decide +kernel
theorem dX14_count_85 : decode cX14_count 85 = .ok (.iload_n 3, 1) := by decide +kernel
theorem dX14_count_86 : decode cX14_count 86 = .ok (.bipush 24, 2) := by decide +kernel
theorem dX14_count_88 : decode cX14_count 88 = .ok (.if_icmp .le 6, 3) := by decide +kernel
theorem dX14_count_91 : decode cX14_count 91 = .ok (.bipush (-3), 2) := by decide +kernel
theorem dX14_count_93 : decode cX14_count 93 = .ok (.ireturn, 1) := by decide +kernel
theorem dX14_count_94 : decode cX14_count 94 = .ok (.aload_n 0, 1) := by decide +kernel
theorem dX14_count_95 : decode cX14_count 95 = .ok (.aload_n 2, 1) := by decide +kernel
theorem dX14_count_96 : decode cX14_count 96 = .ok (.invokevirtual 1266, 3) := by decide +kernel
theorem dX14_count_99 : decode cX14_count 99 = .ok (.aload_n 2, 1) := by decide +kernel
theorem dX14_count_100 : decode cX14_count 100 = .ok (.getfield 594, 3) := by decide +kernel
theorem dX14_count_103 : decode cX14_count 103 = .ok (.istore 4, 2) := by decide +kernel
theorem dX14_count_105 : decode cX14_count 105 = .ok (.iload 4, 2) := by decide +kernel
theorem dX14_count_107 : decode cX14_count 107 = .ok (.iload_n 3, 1) := by decide +kernel
theorem dX14_count_108 : decode cX14_count 108 = .ok (.if_icmp .ge 71, 3) := by decide +kernel
theorem dX14_count_111 : decode cX14_count 111 = .ok (.aload_n 0, 1) := by decide +kernel
theorem dX14_count_112 : decode cX14_count 112 = .ok (.getfield 223, 3) := by decide +kernel
theorem dX14_count_115 : decode cX14_count 115 = .ok (.getfield 600, 3) := by decide +kernel
theorem dX14_count_118 : decode cX14_count 118 = .ok (.iload 4, 2) := by decide +kernel
theorem dX14_count_120 : decode cX14_count 120 = .ok (.new 540, 3) := by decide +kernel
theorem dX14_count_123 : decode cX14_count 123 = .ok (.dup, 1) := by decide +kernel
theorem dX14_count_124 : decode cX14_count 124 = .ok (.invokespecial 1284, 3) := by decide +kernel
theorem dX14_count_127 : decode cX14_count 127 = .ok (.ldc_w 1285, 3) := by decide +kernel
theorem dX14_count_130 : decode cX14_count 130 = .ok (.invokevirtual 1287, 3) := by decide +kernel
theorem dX14_count_133 : decode cX14_count 133 = .ok (.iload 4, 2) := by decide +kernel
theorem dX14_count_135 : decode cX14_count 135 = .ok (.aload_n 2, 1) := by decide +kernel
theorem dX14_count_136 : decode cX14_count 136 = .ok (.getfield 594, 3) := by decide +kernel
theorem dX14_count_139 : decode cX14_count 139 = .ok (.isub, 1) := by decide +kernel
theorem dX14_count_140 : decode cX14_count 140 = .ok (.invokevirtual 1290, 3) := by decide +kernel
theorem dX14_count_143 : decode cX14_count 143 = .ok (.invokevirtual 548, 3) := by decide +kernel
theorem dX14_count_146 : decode cX14_count 146 = .ok (.aastore, 1) := by decide +kernel
theorem dX14_count_147 : decode cX14_count 147 = .ok (.aload_n 0, 1) := by decide +kernel
theorem dX14_count_148 : decode cX14_count 148 = .ok (.getfield 223, 3) := by decide +kernel
theorem dX14_count_151 : decode cX14_count 151 = .ok (.getfield 603, 3) := by decide +kernel
theorem dX14_count_154 : decode cX14_count 154 = .ok (.iload 4, 2) := by decide +kernel
theorem dX14_count_156 : decode cX14_count 156 = .ok (.ldc_w 711, 3) := by decide +kernel
theorem dX14_count_159 : decode cX14_count 159 = .ok (.aastore, 1) := by decide +kernel
theorem dX14_count_160 : decode cX14_count 160 = .ok (.aload_n 0, 1) := by decide +kernel
theorem dX14_count_161 : decode cX14_count 161 = .ok (.getfield 223, 3) := by decide +kernel
theorem dX14_count_164 : decode cX14_count 164 = .ok (.getfield 606, 3) := by decide +kernel
theorem dX14_count_167 : decode cX14_count 167 = .ok (.iload 4, 2) := by decide +kernel
theorem dX14_count_169 : decode cX14_count 169 = .ok (.ldc_w 711, 3) := by decide +kernel
theorem dX14_count_172 : decode cX14_count 172 = .ok (.aastore, 1) := by decide +kernel
theorem dX14_count_173 : decode cX14_count 173 = .ok (.iinc 4 1, 3) := by decide +kernel
theorem dX14_count_176 : decode cX14_count 176 = .ok (.goto (-71), 3) := by decide +kernel
theorem dX14_count_179 : decode cX14_count 179 = .ok (.aload_n 0, 1) := by decide +kernel
theorem dX14_count_180 : decode cX14_count 180 = .ok (.getfield 223, 3) := by decide +kernel
theorem dX14_count_183 : decode cX14_count 183 = .ok (.iload_n 3, 1) := by decide +kernel
theorem dX14_count_184 : decode cX14_count 184 = .ok (.putfield 594, 3) := by decide +kernel
theorem dX14_count_187 : decode cX14_count 187 = .ok (.aload_n 2, 1) := by decide +kernel
theorem dX14_count_188 : decode cX14_count 188 = .ok (.getfield 594, 3) := by decide +kernel
theorem dX14_count_191 : decode cX14_count 191 = .ok (.istore 4, 2) := by decide +kernel
theorem dX14_count_193 : decode cX14_count 193 = .ok (.iconst 0, 1) := by decide +kernel
theorem dX14_count_194 : decode cX14_count 194 = .ok (.istore 5, 2) := by decide +kernel
theorem dX14_count_196 : decode cX14_count 196 = .ok (.iload 5, 2) := by decide +kernel
theorem dX14_count_198 : decode cX14_count 198 = .ok (.aload_n 2, 1) := by decide +kernel
theorem dX14_count_199 : decode cX14_count 199 = .ok (.getfield 597, 3) := by decide +kernel
theorem dX14_count_202 : decode cX14_count 202 = .ok (.if_icmp .ge 40, 3) := by decide +kernel
theorem dX14_count_205 : decode cX14_count 205 = .ok (.aload_n 0, 1) := by decide +kernel
theorem dX14_count_206 : decode cX14_count 206 = .ok (.iload_n 1, 1) := by decide +kernel
theorem dX14_count_207 : decode cX14_count 207 = .ok (.iload 5, 2) := by decide +kernel
theorem dX14_count_209 : decode cX14_count 209 = .ok (.invokevirtual 1127, 3) := by decide +kernel
theorem dX14_count_212 : decode cX14_count 212 = .ok (.aload_n 0, 1) := by decide +kernel
theorem dX14_count_213 : decode cX14_count 213 = .ok (.aload_n 2, 1) := by decide +kernel
theorem dX14_count_214 : decode cX14_count 214 = .ok (.iload 5, 2) := by decide +kernel
theorem dX14_count_216 : decode cX14_count 216 = .ok (.invokevirtual 1269, 3) := by decide +kernel
theorem dX14_count_219 : decode cX14_count 219 = .ok (.aload_n 0, 1) := by decide +kernel
theorem dX14_count_220 : decode cX14_count 220 = .ok (.iload 5, 2) := by decide +kernel
theorem dX14_count_222 : decode cX14_count 222 = .ok (.iload 4, 2) := by decide +kernel
theorem dX14_count_224 : decode cX14_count 224 = .ok (.invokevirtual 1275, 3) := by decide +kernel
theorem dX14_count_227 : decode cX14_count 227 = .ok (.iload 4, 2) := by decide +kernel
theorem dX14_count_229 : decode cX14_count 229 = .ok (.aload_n 0, 1) := by decide +kernel
theorem dX14_count_230 : decode cX14_count 230 = .ok (.invokevirtual 1281, 3) := by decide +kernel
theorem dX14_count_233 : decode cX14_count 233 = .ok (.iadd, 1) := by decide +kernel
theorem dX14_count_234 : decode cX14_count 234 = .ok (.istore 4, 2) := by decide +kernel
theorem dX14_count_236 : decode cX14_count 236 = .ok (.iinc 5 1, 3) := by decide +kernel
theorem dX14_count_239 : decode cX14_count 239 = .ok (.goto (-43), 3) := by decide +kernel
theorem dX14_count_242 : decode cX14_count 242 = .ok (.aload_n 0, 1) := by decide +kernel
theorem dX14_count_243 : decode cX14_count 243 = .ok (.invokevirtual 1278, 3) := by decide +kernel
theorem dX14_count_246 : decode cX14_count 246 = .ok (.ireturn, 1) := by decide +kernel
theorem dX14_dead_0 : decode cX14_dead 0 = .ok (.aload_n 0, 1) := by decide +kernel
theorem dX14_dead_1 : decode cX14_dead 1 = .ok (.getfield 240, 3) := by decide +kernel
theorem dX14_dead_4 : decode cX14_dead 4 = .ok (.iload_n 1, 1) := by decide +kernel
theorem dX14_dead_5 : decode cX14_dead 5 = .ok (.iaload, 1) := by decide +kernel
theorem dX14_dead_6 : decode cX14_dead 6 = .ok (.invokestatic 1237, 3) := by decide +kernel
theorem dX14_dead_9 : decode cX14_dead 9 = .ok (.ifCond .ne 15, 3) := by decide +kernel
theorem dX14_dead_12 : decode cX14_dead 12 = .ok (.aload_n 0, 1) := by decide +kernel
theorem dX14_dead_13 : decode cX14_dead 13 = .ok (.getfield 240, 3) := by decide +kernel
theorem dX14_dead_16 : decode cX14_dead 16 = .ok (.iload_n 1, 1) := by decide +kernel
theorem dX14_dead_17 : decode cX14_dead 17 = .ok (.iaload, 1) := by decide +kernel
theorem dX14_dead_18 : decode cX14_dead 18 = .ok (.sipush 132, 3) := by decide +kernel
theorem dX14_dead_21 : decode cX14_dead 21 = .ok (.if_icmp .ne 27, 3) := by decide +kernel
theorem dX14_dead_24 : decode cX14_dead 24 = .ok (.aload_n 0, 1) := by decide +kernel
theorem dX14_dead_25 : decode cX14_dead 25 = .ok (.iload_n 1, 1) := by decide +kernel
theorem dX14_dead_26 : decode cX14_dead 26 = .ok (.invokevirtual 1234, 3) := by decide +kernel
theorem dX14_dead_29 : decode cX14_dead 29 = .ok (.aload_n 0, 1) := by decide +kernel
theorem dX14_dead_30 : decode cX14_dead 30 = .ok (.getfield 240, 3) := by decide +kernel
theorem dX14_dead_33 : decode cX14_dead 33 = .ok (.iload_n 1, 1) := by decide +kernel
theorem dX14_dead_34 : decode cX14_dead 34 = .ok (.iaload, 1) := by decide +kernel
theorem dX14_dead_35 : decode cX14_dead 35 = .ok (.aload_n 0, 1) := by decide +kernel
theorem dX14_dead_36 : decode cX14_dead 36 = .ok (.getfield 243, 3) := by decide +kernel
theorem dX14_dead_39 : decode cX14_dead 39 = .ok (.iload_n 1, 1) := by decide +kernel
theorem dX14_dead_40 : decode cX14_dead 40 = .ok (.iaload, 1) := by decide +kernel
theorem dX14_dead_41 : decode cX14_dead 41 = .ok (.invokestatic 1240, 3) := by decide +kernel
theorem dX14_dead_44 : decode cX14_dead 44 = .ok (.iand, 1) := by decide +kernel
theorem dX14_dead_45 : decode cX14_dead 45 = .ok (.ifCond .eq 5, 3) := by decide +kernel
theorem dX14_dead_48 : decode cX14_dead 48 = .ok (.iconst 0, 1) := by decide +kernel
theorem dX14_dead_49 : decode cX14_dead 49 = .ok (.ireturn, 1) := by decide +kernel
theorem dX14_dead_50 : decode cX14_dead 50 = .ok (.aload_n 0, 1) := by decide +kernel
theorem dX14_dead_51 : decode cX14_dead 51 = .ok (.getfield 240, 3) := by decide +kernel
theorem dX14_dead_54 : decode cX14_dead 54 = .ok (.iload_n 1, 1) := by decide +kernel
theorem dX14_dead_55 : decode cX14_dead 55 = .ok (.iaload, 1) := by decide +kernel
theorem dX14_dead_56 : decode cX14_dead 56 = .ok (.sipush 132, 3) := by decide +kernel
theorem dX14_dead_59 : decode cX14_dead 59 = .ok (.if_icmp .ne 13, 3) := by decide +kernel
theorem dX14_dead_62 : decode cX14_dead 62 = .ok (.aload_n 0, 1) := by decide +kernel
theorem dX14_dead_63 : decode cX14_dead 63 = .ok (.getfield 249, 3) := by decide +kernel
theorem dX14_dead_66 : decode cX14_dead 66 = .ok (.iload_n 1, 1) := by decide +kernel
theorem dX14_dead_67 : decode cX14_dead 67 = .ok (.iconst 1, 1) := by decide +kernel
theorem dX14_dead_68 : decode cX14_dead 68 = .ok (.bastore, 1) := by decide +kernel
theorem dX14_dead_69 : decode cX14_dead 69 = .ok (.goto 41, 3) := by decide +kernel
theorem dX14_dead_72 : decode cX14_dead 72 = .ok (.aload_n 0, 1) := by decide +kernel
theorem dX14_dead_73 : decode cX14_dead 73 = .ok (.getfield 240, 3) := by decide +kernel
theorem dX14_dead_76 : decode cX14_dead 76 = .ok (.iload_n 1, 1) := by decide +kernel
theorem dX14_dead_77 : decode cX14_dead 77 = .ok (.aload_n 0, 1) := by decide +kernel
theorem dX14_dead_78 : decode cX14_dead 78 = .ok (.getfield 240, 3) := by decide +kernel
theorem dX14_dead_81 : decode cX14_dead 81 = .ok (.iload_n 1, 1) := by decide +kernel
theorem dX14_dead_82 : decode cX14_dead 82 = .ok (.iaload, 1) := by decide +kernel
theorem dX14_dead_83 : decode cX14_dead 83 = .ok (.bipush 55, 2) := by decide +kernel
theorem dX14_dead_85 : decode cX14_dead 85 = .ok (.if_icmp .ne 8, 3) := by decide +kernel
theorem dX14_dead_88 : decode cX14_dead 88 = .ok (.bipush 88, 2) := by decide +kernel
theorem dX14_dead_90 : decode cX14_dead 90 = .ok (.goto 5, 3) := by decide +kernel
theorem dX14_dead_93 : decode cX14_dead 93 = .ok (.bipush 87, 2) := by decide +kernel
theorem dX14_dead_95 : decode cX14_dead 95 = .ok (.iastore, 1) := by decide +kernel
theorem dX14_dead_96 : decode cX14_dead 96 = .ok (.aload_n 0, 1) := by decide +kernel
theorem dX14_dead_97 : decode cX14_dead 97 = .ok (.getfield 243, 3) := by decide +kernel
theorem dX14_dead_100 : decode cX14_dead 100 = .ok (.iload_n 1, 1) := by decide +kernel
theorem dX14_dead_101 : decode cX14_dead 101 = .ok (.iconst 0, 1) := by decide +kernel
theorem dX14_dead_102 : decode cX14_dead 102 = .ok (.iastore, 1) := by decide +kernel
theorem dX14_dead_103 : decode cX14_dead 103 = .ok (.aload_n 0, 1) := by decide +kernel
theorem dX14_dead_104 : decode cX14_dead 104 = .ok (.getfield 246, 3) := by decide +kernel
theorem dX14_dead_107 : decode cX14_dead 107 = .ok (.iload_n 1, 1) := by decide +kernel
theorem dX14_dead_108 : decode cX14_dead 108 = .ok (.iconst 0, 1) := by decide +kernel
theorem dX14_dead_109 : decode cX14_dead 109 = .ok (.iastore, 1) := by decide +kernel
theorem dX14_dead_110 : decode cX14_dead 110 = .ok (.iconst 1, 1) := by decide +kernel
theorem dX14_dead_111 : decode cX14_dead 111 = .ok (.ireturn, 1) := by decide +kernel
theorem dX14_decided_0 : decode cX14_decided 0 = .ok (.aload_n 0, 1) := by decide +kernel
theorem dX14_decided_1 : decode cX14_decided 1 = .ok (.getfield 240, 3) := by decide +kernel
theorem dX14_decided_4 : decode cX14_decided 4 = .ok (.iload_n 1, 1) := by decide +kernel
theorem dX14_decided_5 : decode cX14_decided 5 = .ok (.iaload, 1) := by decide +kernel
theorem dX14_decided_6 : decode cX14_decided 6 = .ok (.bipush 18, 2) := by decide +kernel
theorem dX14_decided_8 : decode cX14_decided 8 = .ok (.if_icmp .eq 5, 3) := by decide +kernel
theorem dX14_decided_11 : decode cX14_decided 11 = .ok (.iconst 0, 1) := by decide +kernel
theorem dX14_decided_12 : decode cX14_decided 12 = .ok (.ireturn, 1) := by decide +kernel
theorem dX14_decided_13 : decode cX14_decided 13 = .ok (.aload_n 0, 1) := by decide +kernel
theorem dX14_decided_14 : decode cX14_decided 14 = .ok (.getfield 240, 3) := by decide +kernel
theorem dX14_decided_17 : decode cX14_decided 17 = .ok (.iload_n 2, 1) := by decide +kernel
theorem dX14_decided_18 : decode cX14_decided 18 = .ok (.iaload, 1) := by decide +kernel
theorem dX14_decided_19 : decode cX14_decided 19 = .ok (.sipush 153, 3) := by decide +kernel
theorem dX14_decided_22 : decode cX14_decided 22 = .ok (.if_icmp .lt 43, 3) := by decide +kernel
theorem dX14_decided_25 : decode cX14_decided 25 = .ok (.aload_n 0, 1) := by decide +kernel
theorem dX14_decided_26 : decode cX14_decided 26 = .ok (.getfield 240, 3) := by decide +kernel
theorem dX14_decided_29 : decode cX14_decided 29 = .ok (.iload_n 2, 1) := by decide +kernel
theorem dX14_decided_30 : decode cX14_decided 30 = .ok (.iaload, 1) := by decide +kernel
theorem dX14_decided_31 : decode cX14_decided 31 = .ok (.sipush 158, 3) := by decide +kernel
theorem dX14_decided_34 : decode cX14_decided 34 = .ok (.if_icmp .gt 31, 3) := by decide +kernel
theorem dX14_decided_37 : decode cX14_decided 37 = .ok (.aload_n 0, 1) := by decide +kernel
theorem dX14_decided_38 : decode cX14_decided 38 = .ok (.iload_n 1, 1) := by decide +kernel
theorem dX14_decided_39 : decode cX14_decided 39 = .ok (.iload_n 2, 1) := by decide +kernel
theorem dX14_decided_40 : decode cX14_decided 40 = .ok (.aload_n 0, 1) := by decide +kernel
theorem dX14_decided_41 : decode cX14_decided 41 = .ok (.getfield 240, 3) := by decide +kernel
theorem dX14_decided_44 : decode cX14_decided 44 = .ok (.iload_n 2, 1) := by decide +kernel
theorem dX14_decided_45 : decode cX14_decided 45 = .ok (.iaload, 1) := by decide +kernel
theorem dX14_decided_46 : decode cX14_decided 46 = .ok (.sipush 153, 3) := by decide +kernel
theorem dX14_decided_49 : decode cX14_decided 49 = .ok (.isub, 1) := by decide +kernel
theorem dX14_decided_50 : decode cX14_decided 50 = .ok (.aload_n 0, 1) := by decide +kernel
theorem dX14_decided_51 : decode cX14_decided 51 = .ok (.getfield 243, 3) := by decide +kernel
theorem dX14_decided_54 : decode cX14_decided 54 = .ok (.iload_n 1, 1) := by decide +kernel
theorem dX14_decided_55 : decode cX14_decided 55 = .ok (.iaload, 1) := by decide +kernel
theorem dX14_decided_56 : decode cX14_decided 56 = .ok (.iconst 0, 1) := by decide +kernel
theorem dX14_decided_57 : decode cX14_decided 57 = .ok (.invokestatic 1053, 3) := by decide +kernel
theorem dX14_decided_60 : decode cX14_decided 60 = .ok (.invokevirtual 1227, 3) := by decide +kernel
theorem dX14_decided_63 : decode cX14_decided 63 = .ok (.iconst 1, 1) := by decide +kernel
theorem dX14_decided_64 : decode cX14_decided 64 = .ok (.ireturn, 1) := by decide +kernel
theorem dX14_decided_65 : decode cX14_decided 65 = .ok (.aload_n 0, 1) := by decide +kernel
theorem dX14_decided_66 : decode cX14_decided 66 = .ok (.iload_n 2, 1) := by decide +kernel
theorem dX14_decided_67 : decode cX14_decided 67 = .ok (.invokevirtual 1161, 3) := by decide +kernel
theorem dX14_decided_70 : decode cX14_decided 70 = .ok (.istore 4, 2) := by decide +kernel
theorem dX14_decided_72 : decode cX14_decided 72 = .ok (.aload_n 0, 1) := by decide +kernel
theorem dX14_decided_73 : decode cX14_decided 73 = .ok (.getfield 240, 3) := by decide +kernel
theorem dX14_decided_76 : decode cX14_decided 76 = .ok (.iload_n 2, 1) := by decide +kernel
theorem dX14_decided_77 : decode cX14_decided 77 = .ok (.iaload, 1) := by decide +kernel
theorem dX14_decided_78 : decode cX14_decided 78 = .ok (.bipush 18, 2) := by decide +kernel
theorem dX14_decided_80 : decode cX14_decided 80 = .ok (.if_icmp .ne 54, 3) := by decide +kernel
theorem dX14_decided_83 : decode cX14_decided 83 = .ok (.iload 4, 2) := by decide +kernel
theorem dX14_decided_85 : decode cX14_decided 85 = .ok (.aload_n 0, 1) := by decide +kernel
theorem dX14_decided_86 : decode cX14_decided 86 = .ok (.getfield 1130, 3) := by decide +kernel
theorem dX14_decided_89 : decode cX14_decided 89 = .ok (.if_icmp .ge 45, 3) := by decide +kernel
theorem dX14_decided_92 : decode cX14_decided 92 = .ok (.iload 4, 2) := by decide +kernel
theorem dX14_decided_94 : decode cX14_decided 94 = .ok (.iload_n 3, 1) := by decide +kernel
theorem dX14_decided_95 : decode cX14_decided 95 = .ok (.if_icmp .eq 39, 3) := by decide +kernel
theorem dX14_decided_98 : decode cX14_decided 98 = .ok (.aload_n 0, 1) := by decide +kernel
theorem dX14_decided_99 : decode cX14_decided 99 = .ok (.getfield 267, 3) := by decide +kernel
theorem dX14_decided_102 : decode cX14_decided 102 = .ok (.iload 4, 2) := by decide +kernel
theorem dX14_decided_104 : decode cX14_decided 104 = .ok (.baload, 1) := by decide +kernel
theorem dX14_decided_105 : decode cX14_decided 105 = .ok (.ifCond .ne 29, 3) := by decide +kernel
theorem dX14_decided_108 : decode cX14_decided 108 = .ok (.aload_n 0, 1) := by decide +kernel
theorem dX14_decided_109 : decode cX14_decided 109 = .ok (.getfield 240, 3) := by decide +kernel
theorem dX14_decided_112 : decode cX14_decided 112 = .ok (.iload 4, 2) := by decide +kernel
theorem dX14_decided_114 : decode cX14_decided 114 = .ok (.iaload, 1) := by decide +kernel
theorem dX14_decided_115 : decode cX14_decided 115 = .ok (.sipush 159, 3) := by decide +kernel
theorem dX14_decided_118 : decode cX14_decided 118 = .ok (.if_icmp .lt 16, 3) := by decide +kernel
theorem dX14_decided_121 : decode cX14_decided 121 = .ok (.aload_n 0, 1) := by decide +kernel
theorem dX14_decided_122 : decode cX14_decided 122 = .ok (.getfield 240, 3) := by decide +kernel
theorem dX14_decided_125 : decode cX14_decided 125 = .ok (.iload 4, 2) := by decide +kernel
theorem dX14_decided_127 : decode cX14_decided 127 = .ok (.iaload, 1) := by decide +kernel
theorem dX14_decided_128 : decode cX14_decided 128 = .ok (.sipush 164, 3) := by decide +kernel
theorem dX14_decided_131 : decode cX14_decided 131 = .ok (.if_icmp .le 5, 3) := by decide +kernel
theorem dX14_decided_134 : decode cX14_decided 134 = .ok (.iconst 0, 1) := by decide +kernel
theorem dX14_decided_135 : decode cX14_decided 135 = .ok (.ireturn, 1) := by decide +kernel
theorem dX14_decided_136 : decode cX14_decided 136 = .ok (.aload_n 0, 1) := by decide +kernel
theorem dX14_decided_137 : decode cX14_decided 137 = .ok (.getfield 240, 3) := by decide +kernel
theorem dX14_decided_140 : decode cX14_decided 140 = .ok (.iload 4, 2) := by decide +kernel
theorem dX14_decided_142 : decode cX14_decided 142 = .ok (.iaload, 1) := by decide +kernel
theorem dX14_decided_143 : decode cX14_decided 143 = .ok (.sipush 159, 3) := by decide +kernel
theorem dX14_decided_146 : decode cX14_decided 146 = .ok (.isub, 1) := by decide +kernel
theorem dX14_decided_147 : decode cX14_decided 147 = .ok (.aload_n 0, 1) := by decide +kernel
theorem dX14_decided_148 : decode cX14_decided 148 = .ok (.getfield 243, 3) := by decide +kernel
theorem dX14_decided_151 : decode cX14_decided 151 = .ok (.iload_n 1, 1) := by decide +kernel
theorem dX14_decided_152 : decode cX14_decided 152 = .ok (.iaload, 1) := by decide +kernel
theorem dX14_decided_153 : decode cX14_decided 153 = .ok (.aload_n 0, 1) := by decide +kernel
theorem dX14_decided_154 : decode cX14_decided 154 = .ok (.getfield 243, 3) := by decide +kernel
theorem dX14_decided_157 : decode cX14_decided 157 = .ok (.iload_n 2, 1) := by decide +kernel
theorem dX14_decided_158 : decode cX14_decided 158 = .ok (.iaload, 1) := by decide +kernel
theorem dX14_decided_159 : decode cX14_decided 159 = .ok (.invokestatic 1053, 3) := by decide +kernel
theorem dX14_decided_162 : decode cX14_decided 162 = .ok (.istore 5, 2) := by decide +kernel
theorem dX14_decided_164 : decode cX14_decided 164 = .ok (.aload_n 0, 1) := by decide +kernel
theorem dX14_decided_165 : decode cX14_decided 165 = .ok (.getfield 249, 3) := by decide +kernel
theorem dX14_decided_168 : decode cX14_decided 168 = .ok (.iload_n 2, 1) := by decide +kernel
theorem dX14_decided_169 : decode cX14_decided 169 = .ok (.iconst 1, 1) := by decide +kernel
theorem dX14_decided_170 : decode cX14_decided 170 = .ok (.bastore, 1) := by decide +kernel
theorem dX14_decided_171 : decode cX14_decided 171 = .ok (.aload_n 0, 1) := by decide +kernel
theorem dX14_decided_172 : decode cX14_decided 172 = .ok (.iload_n 1, 1) := by decide +kernel
theorem dX14_decided_173 : decode cX14_decided 173 = .ok (.iload 4, 2) := by decide +kernel
theorem dX14_decided_175 : decode cX14_decided 175 = .ok (.iload 5, 2) := by decide +kernel
theorem dX14_decided_177 : decode cX14_decided 177 = .ok (.invokevirtual 1227, 3) := by decide +kernel
theorem dX14_decided_180 : decode cX14_decided 180 = .ok (.iconst 1, 1) := by decide +kernel
theorem dX14_decided_181 : decode cX14_decided 181 = .ok (.ireturn, 1) := by decide +kernel
theorem dX14_dominate_0 : decode cX14_dominate 0 = .ok (.iconst 0, 1) := by decide +kernel
theorem dX14_dominate_1 : decode cX14_dominate 1 = .ok (.istore_n 1, 1) := by decide +kernel
theorem dX14_dominate_2 : decode cX14_dominate 2 = .ok (.iload_n 1, 1) := by decide +kernel
theorem dX14_dominate_3 : decode cX14_dominate 3 = .ok (.aload_n 0, 1) := by decide +kernel
theorem dX14_dominate_4 : decode cX14_dominate 4 = .ok (.getfield 1088, 3) := by decide +kernel
theorem dX14_dominate_7 : decode cX14_dominate 7 = .ok (.bipush 38, 2) := by decide +kernel
theorem dX14_dominate_9 : decode cX14_dominate 9 = .ok (.imul, 1) := by decide +kernel
theorem dX14_dominate_10 : decode cX14_dominate 10 = .ok (.if_icmp .ge 16, 3) := by decide +kernel
theorem dX14_dominate_13 : decode cX14_dominate 13 = .ok (.aload_n 0, 1) := by decide +kernel
theorem dX14_dominate_14 : decode cX14_dominate 14 = .ok (.getfield 204, 3) := by decide +kernel
theorem dX14_dominate_17 : decode cX14_dominate 17 = .ok (.iload_n 1, 1) := by decide +kernel
theorem dX14_dominate_18 : decode cX14_dominate 18 = .ok (.iconst (-1), 1) := by decide +kernel
theorem dX14_dominate_19 : decode cX14_dominate 19 = .ok (.iastore, 1) := by decide +kernel
theorem dX14_dominate_20 : decode cX14_dominate 20 = .ok (.iinc 1 1, 3) := by decide +kernel
theorem dX14_dominate_23 : decode cX14_dominate 23 = .ok (.goto (-21), 3) := by decide +kernel
theorem dX14_dominate_26 : decode cX14_dominate 26 = .ok (.iconst 0, 1) := by decide +kernel
theorem dX14_dominate_27 : decode cX14_dominate 27 = .ok (.istore_n 1, 1) := by decide +kernel
theorem dX14_dominate_28 : decode cX14_dominate 28 = .ok (.iload_n 1, 1) := by decide +kernel
theorem dX14_dominate_29 : decode cX14_dominate 29 = .ok (.bipush 38, 2) := by decide +kernel
theorem dX14_dominate_31 : decode cX14_dominate 31 = .ok (.if_icmp .ge 24, 3) := by decide +kernel
theorem dX14_dominate_34 : decode cX14_dominate 34 = .ok (.aload_n 0, 1) := by decide +kernel
theorem dX14_dominate_35 : decode cX14_dominate 35 = .ok (.getfield 204, 3) := by decide +kernel
theorem dX14_dominate_38 : decode cX14_dominate 38 = .ok (.iload_n 1, 1) := by decide +kernel
theorem dX14_dominate_39 : decode cX14_dominate 39 = .ok (.iload_n 1, 1) := by decide +kernel
theorem dX14_dominate_40 : decode cX14_dominate 40 = .ok (.ifCond .ne 7, 3) := by decide +kernel
theorem dX14_dominate_43 : decode cX14_dominate 43 = .ok (.iconst 1, 1) := by decide +kernel
theorem dX14_dominate_44 : decode cX14_dominate 44 = .ok (.goto 4, 3) := by decide +kernel
theorem dX14_dominate_47 : decode cX14_dominate 47 = .ok (.iconst 0, 1) := by decide +kernel
theorem dX14_dominate_48 : decode cX14_dominate 48 = .ok (.iastore, 1) := by decide +kernel
theorem dX14_dominate_49 : decode cX14_dominate 49 = .ok (.iinc 1 1, 3) := by decide +kernel
theorem dX14_dominate_52 : decode cX14_dominate 52 = .ok (.goto (-24), 3) := by decide +kernel
theorem dX14_dominate_55 : decode cX14_dominate 55 = .ok (.iconst 1, 1) := by decide +kernel
theorem dX14_dominate_56 : decode cX14_dominate 56 = .ok (.istore_n 1, 1) := by decide +kernel
theorem dX14_dominate_57 : decode cX14_dominate 57 = .ok (.iload_n 1, 1) := by decide +kernel
theorem dX14_dominate_58 : decode cX14_dominate 58 = .ok (.ifCond .eq 82, 3) := by decide +kernel
theorem dX14_dominate_61 : decode cX14_dominate 61 = .ok (.iconst 0, 1) := by decide +kernel
theorem dX14_dominate_62 : decode cX14_dominate 62 = .ok (.istore_n 1, 1) := by decide +kernel
theorem dX14_dominate_63 : decode cX14_dominate 63 = .ok (.iconst 0, 1) := by decide +kernel
theorem dX14_dominate_64 : decode cX14_dominate 64 = .ok (.istore_n 2, 1) := by decide +kernel
theorem dX14_dominate_65 : decode cX14_dominate 65 = .ok (.iload_n 2, 1) := by decide +kernel
theorem dX14_dominate_66 : decode cX14_dominate 66 = .ok (.aload_n 0, 1) := by decide +kernel
theorem dX14_dominate_67 : decode cX14_dominate 67 = .ok (.getfield 1088, 3) := by decide +kernel
theorem dX14_dominate_70 : decode cX14_dominate 70 = .ok (.if_icmp .ge 67, 3) := by decide +kernel
theorem dX14_dominate_73 : decode cX14_dominate 73 = .ok (.aload_n 0, 1) := by decide +kernel
theorem dX14_dominate_74 : decode cX14_dominate 74 = .ok (.getfield 194, 3) := by decide +kernel
theorem dX14_dominate_77 : decode cX14_dominate 77 = .ok (.iload_n 2, 1) := by decide +kernel
theorem dX14_dominate_78 : decode cX14_dominate 78 = .ok (.iaload, 1) := by decide +kernel
theorem dX14_dominate_79 : decode cX14_dominate 79 = .ok (.istore_n 3, 1) := by decide +kernel
theorem dX14_dominate_80 : decode cX14_dominate 80 = .ok (.aload_n 0, 1) := by decide +kernel
theorem dX14_dominate_81 : decode cX14_dominate 81 = .ok (.getfield 200, 3) := by decide +kernel
theorem dX14_dominate_84 : decode cX14_dominate 84 = .ok (.iload_n 2, 1) := by decide +kernel
theorem dX14_dominate_85 : decode cX14_dominate 85 = .ok (.baload, 1) := by decide +kernel
theorem dX14_dominate_86 : decode cX14_dominate 86 = .ok (.ifCond .eq 45, 3) := by decide +kernel
theorem dX14_dominate_89 : decode cX14_dominate 89 = .ok (.iload_n 3, 1) := by decide +kernel
theorem dX14_dominate_90 : decode cX14_dominate 90 = .ok (.aload_n 0, 1) := by decide +kernel
theorem dX14_dominate_91 : decode cX14_dominate 91 = .ok (.getfield 194, 3) := by decide +kernel
theorem dX14_dominate_94 : decode cX14_dominate 94 = .ok (.iload_n 2, 1) := by decide +kernel
theorem dX14_dominate_95 : decode cX14_dominate 95 = .ok (.iconst 1, 1) := by decide +kernel
theorem dX14_dominate_96 : decode cX14_dominate 96 = .ok (.iadd, 1) := by decide +kernel
theorem dX14_dominate_97 : decode cX14_dominate 97 = .ok (.iaload, 1) := by decide +kernel
theorem dX14_dominate_98 : decode cX14_dominate 98 = .ok (.if_icmp .ge 33, 3) := by decide +kernel
theorem dX14_dominate_101 : decode cX14_dominate 101 = .ok (.aload_n 0, 1) := by decide +kernel
theorem dX14_dominate_102 : decode cX14_dominate 102 = .ok (.iload_n 2, 1) := by decide +kernel
theorem dX14_dominate_103 : decode cX14_dominate 103 = .ok (.aload_n 0, 1) := by decide +kernel
theorem dX14_dominate_104 : decode cX14_dominate 104 = .ok (.getfield 197, 3) := by decide +kernel
theorem dX14_dominate_107 : decode cX14_dominate 107 = .ok (.iload_n 3, 1) := by decide +kernel
theorem dX14_dominate_108 : decode cX14_dominate 108 = .ok (.iaload, 1) := by decide +kernel
theorem dX14_dominate_109 : decode cX14_dominate 109 = .ok (.invokevirtual 1103, 3) := by decide +kernel
theorem dX14_dominate_112 : decode cX14_dominate 112 = .ok (.ifCond .ne 7, 3) := by decide +kernel
theorem dX14_dominate_115 : decode cX14_dominate 115 = .ok (.iload_n 1, 1) := by decide +kernel
theorem dX14_dominate_116 : decode cX14_dominate 116 = .ok (.ifCond .eq 7, 3) := by decide +kernel
theorem dX14_dominate_119 : decode cX14_dominate 119 = .ok (.iconst 1, 1) := by decide +kernel
theorem dX14_dominate_120 : decode cX14_dominate 120 = .ok (.goto 4, 3) := by decide +kernel
theorem dX14_dominate_123 : decode cX14_dominate 123 = .ok (.iconst 0, 1) := by decide +kernel
theorem dX14_dominate_124 : decode cX14_dominate 124 = .ok (.istore_n 1, 1) := by decide +kernel
theorem dX14_dominate_125 : decode cX14_dominate 125 = .ok (.iinc 3 1, 3) := by decide +kernel
theorem dX14_dominate_128 : decode cX14_dominate 128 = .ok (.goto (-48), 3) := by decide +kernel
theorem dX14_dominate_131 : decode cX14_dominate 131 = .ok (.iinc 2 1, 3) := by decide +kernel
theorem dX14_dominate_134 : decode cX14_dominate 134 = .ok (.goto (-69), 3) := by decide +kernel
theorem dX14_dominate_137 : decode cX14_dominate 137 = .ok (.goto (-80), 3) := by decide +kernel
theorem dX14_dominate_140 : decode cX14_dominate 140 = .ok (.iconst 0, 1) := by decide +kernel
theorem dX14_dominate_141 : decode cX14_dominate 141 = .ok (.istore_n 2, 1) := by decide +kernel
theorem dX14_dominate_142 : decode cX14_dominate 142 = .ok (.iload_n 2, 1) := by decide +kernel
theorem dX14_dominate_143 : decode cX14_dominate 143 = .ok (.aload_n 0, 1) := by decide +kernel
theorem dX14_dominate_144 : decode cX14_dominate 144 = .ok (.getfield 1088, 3) := by decide +kernel
theorem dX14_dominate_147 : decode cX14_dominate 147 = .ok (.if_icmp .ge 51, 3) := by decide +kernel
theorem dX14_dominate_150 : decode cX14_dominate 150 = .ok (.aload_n 0, 1) := by decide +kernel
theorem dX14_dominate_151 : decode cX14_dominate 151 = .ok (.getfield 219, 3) := by decide +kernel
theorem dX14_dominate_154 : decode cX14_dominate 154 = .ok (.iload_n 2, 1) := by decide +kernel
theorem dX14_dominate_155 : decode cX14_dominate 155 = .ok (.iconst 0, 1) := by decide +kernel
theorem dX14_dominate_156 : decode cX14_dominate 156 = .ok (.iastore, 1) := by decide +kernel
theorem dX14_dominate_157 : decode cX14_dominate 157 = .ok (.iconst 0, 1) := by decide +kernel
theorem dX14_dominate_158 : decode cX14_dominate 158 = .ok (.istore_n 3, 1) := by decide +kernel
theorem dX14_dominate_159 : decode cX14_dominate 159 = .ok (.iload_n 3, 1) := by decide +kernel
theorem dX14_dominate_160 : decode cX14_dominate 160 = .ok (.aload_n 0, 1) := by decide +kernel
theorem dX14_dominate_161 : decode cX14_dominate 161 = .ok (.getfield 1088, 3) := by decide +kernel
theorem dX14_dominate_164 : decode cX14_dominate 164 = .ok (.if_icmp .ge 28, 3) := by decide +kernel
theorem dX14_dominate_167 : decode cX14_dominate 167 = .ok (.aload_n 0, 1) := by decide +kernel
theorem dX14_dominate_168 : decode cX14_dominate 168 = .ok (.iload_n 3, 1) := by decide +kernel
theorem dX14_dominate_169 : decode cX14_dominate 169 = .ok (.iload_n 2, 1) := by decide +kernel
theorem dX14_dominate_170 : decode cX14_dominate 170 = .ok (.invokevirtual 1106, 3) := by decide +kernel
theorem dX14_dominate_173 : decode cX14_dominate 173 = .ok (.ifCond .eq 13, 3) := by decide +kernel
theorem dX14_dominate_176 : decode cX14_dominate 176 = .ok (.aload_n 0, 1) := by decide +kernel
theorem dX14_dominate_177 : decode cX14_dominate 177 = .ok (.getfield 219, 3) := by decide +kernel
theorem dX14_dominate_180 : decode cX14_dominate 180 = .ok (.iload_n 2, 1) := by decide +kernel
theorem dX14_dominate_181 : decode cX14_dominate 181 = .ok (.dup2, 1) := by decide +kernel
theorem dX14_dominate_182 : decode cX14_dominate 182 = .ok (.iaload, 1) := by decide +kernel
theorem dX14_dominate_183 : decode cX14_dominate 183 = .ok (.iconst 1, 1) := by decide +kernel
theorem dX14_dominate_184 : decode cX14_dominate 184 = .ok (.iadd, 1) := by decide +kernel
theorem dX14_dominate_185 : decode cX14_dominate 185 = .ok (.iastore, 1) := by decide +kernel
theorem dX14_dominate_186 : decode cX14_dominate 186 = .ok (.iinc 3 1, 3) := by decide +kernel
theorem dX14_dominate_189 : decode cX14_dominate 189 = .ok (.goto (-30), 3) := by decide +kernel
theorem dX14_dominate_192 : decode cX14_dominate 192 = .ok (.iinc 2 1, 3) := by decide +kernel
theorem dX14_dominate_195 : decode cX14_dominate 195 = .ok (.goto (-53), 3) := by decide +kernel
theorem dX14_dominate_198 : decode cX14_dominate 198 = .ok (.iconst 0, 1) := by decide +kernel
theorem dX14_dominate_199 : decode cX14_dominate 199 = .ok (.istore_n 2, 1) := by decide +kernel
theorem dX14_dominate_200 : decode cX14_dominate 200 = .ok (.iload_n 2, 1) := by decide +kernel
theorem dX14_dominate_201 : decode cX14_dominate 201 = .ok (.aload_n 0, 1) := by decide +kernel
theorem dX14_dominate_202 : decode cX14_dominate 202 = .ok (.getfield 1088, 3) := by decide +kernel
theorem dX14_dominate_205 : decode cX14_dominate 205 = .ok (.if_icmp .ge 37, 3) := by decide +kernel
theorem dX14_dominate_208 : decode cX14_dominate 208 = .ok (.aload_n 0, 1) := by decide +kernel
theorem dX14_dominate_209 : decode cX14_dominate 209 = .ok (.getfield 207, 3) := by decide +kernel
theorem dX14_dominate_212 : decode cX14_dominate 212 = .ok (.iload_n 2, 1) := by decide +kernel
theorem dX14_dominate_213 : decode cX14_dominate 213 = .ok (.aload_n 0, 1) := by decide +kernel
theorem dX14_dominate_214 : decode cX14_dominate 214 = .ok (.getfield 200, 3) := by decide +kernel
theorem dX14_dominate_217 : decode cX14_dominate 217 = .ok (.iload_n 2, 1) := by decide +kernel
theorem dX14_dominate_218 : decode cX14_dominate 218 = .ok (.baload, 1) := by decide +kernel
theorem dX14_dominate_219 : decode cX14_dominate 219 = .ok (.ifCond .eq 15, 3) := by decide +kernel
theorem dX14_dominate_222 : decode cX14_dominate 222 = .ok (.iload_n 2, 1) := by decide +kernel
theorem dX14_dominate_223 : decode cX14_dominate 223 = .ok (.ifCond .le 11, 3) := by decide +kernel
theorem dX14_dominate_226 : decode cX14_dominate 226 = .ok (.aload_n 0, 1) := by decide +kernel
theorem dX14_dominate_227 : decode cX14_dominate 227 = .ok (.iload_n 2, 1) := by decide +kernel
theorem dX14_dominate_228 : decode cX14_dominate 228 = .ok (.invokevirtual 1109, 3) := by decide +kernel
theorem dX14_dominate_231 : decode cX14_dominate 231 = .ok (.goto 4, 3) := by decide +kernel
theorem dX14_dominate_234 : decode cX14_dominate 234 = .ok (.iconst (-1), 1) := by decide +kernel
theorem dX14_dominate_235 : decode cX14_dominate 235 = .ok (.iastore, 1) := by decide +kernel
theorem dX14_dominate_236 : decode cX14_dominate 236 = .ok (.iinc 2 1, 3) := by decide +kernel
theorem dX14_dominate_239 : decode cX14_dominate 239 = .ok (.goto (-39), 3) := by decide +kernel
theorem dX14_dominate_242 : decode cX14_dominate 242 = .ok (.return_, 1) := by decide +kernel
theorem dX14_dominates_0 : decode cX14_dominates 0 = .ok (.aload_n 0, 1) := by decide +kernel
theorem dX14_dominates_1 : decode cX14_dominates 1 = .ok (.getfield 204, 3) := by decide +kernel
theorem dX14_dominates_4 : decode cX14_dominates 4 = .ok (.bipush 38, 2) := by decide +kernel
theorem dX14_dominates_6 : decode cX14_dominates 6 = .ok (.iload_n 2, 1) := by decide +kernel
theorem dX14_dominates_7 : decode cX14_dominates 7 = .ok (.imul, 1) := by decide +kernel
theorem dX14_dominates_8 : decode cX14_dominates 8 = .ok (.iload_n 1, 1) := by decide +kernel
theorem dX14_dominates_9 : decode cX14_dominates 9 = .ok (.bipush 32, 2) := by decide +kernel
theorem dX14_dominates_11 : decode cX14_dominates 11 = .ok (.idiv, 1) := by decide +kernel
theorem dX14_dominates_12 : decode cX14_dominates 12 = .ok (.iadd, 1) := by decide +kernel
theorem dX14_dominates_13 : decode cX14_dominates 13 = .ok (.iaload, 1) := by decide +kernel
theorem dX14_dominates_14 : decode cX14_dominates 14 = .ok (.iload_n 1, 1) := by decide +kernel
theorem dX14_dominates_15 : decode cX14_dominates 15 = .ok (.bipush 32, 2) := by decide +kernel
theorem dX14_dominates_17 : decode cX14_dominates 17 = .ok (.irem, 1) := by decide +kernel
theorem dX14_dominates_18 : decode cX14_dominates 18 = .ok (.ishr, 1) := by decide +kernel
theorem dX14_dominates_19 : decode cX14_dominates 19 = .ok (.iconst 1, 1) := by decide +kernel
theorem dX14_dominates_20 : decode cX14_dominates 20 = .ok (.iand, 1) := by decide +kernel
theorem dX14_dominates_21 : decode cX14_dominates 21 = .ok (.iconst 1, 1) := by decide +kernel
theorem dX14_dominates_22 : decode cX14_dominates 22 = .ok (.if_icmp .ne 7, 3) := by decide +kernel
theorem dX14_dominates_25 : decode cX14_dominates 25 = .ok (.iconst 1, 1) := by decide +kernel
theorem dX14_dominates_26 : decode cX14_dominates 26 = .ok (.goto 4, 3) := by decide +kernel
theorem dX14_dominates_29 : decode cX14_dominates 29 = .ok (.iconst 0, 1) := by decide +kernel
theorem dX14_dominates_30 : decode cX14_dominates 30 = .ok (.ireturn, 1) := by decide +kernel
theorem dX14_draftCatch_0 : decode cX14_draftCatch 0 = .ok (.aload_n 0, 1) := by decide +kernel
theorem dX14_draftCatch_1 : decode cX14_draftCatch 1 = .ok (.getfield 234, 3) := by decide +kernel
theorem dX14_draftCatch_4 : decode cX14_draftCatch 4 = .ok (.iconst 4, 1) := by decide +kernel
theorem dX14_draftCatch_5 : decode cX14_draftCatch 5 = .ok (.aload_n 0, 1) := by decide +kernel
theorem dX14_draftCatch_6 : decode cX14_draftCatch 6 = .ok (.getfield 1252, 3) := by decide +kernel
theorem dX14_draftCatch_9 : decode cX14_draftCatch 9 = .ok (.imul, 1) := by decide +kernel
theorem dX14_draftCatch_10 : decode cX14_draftCatch 10 = .ok (.aload_n 0, 1) := by decide +kernel
theorem dX14_draftCatch_11 : decode cX14_draftCatch 11 = .ok (.getfield 279, 3) := by decide +kernel
theorem dX14_draftCatch_14 : decode cX14_draftCatch 14 = .ok (.aload_n 0, 1) := by decide +kernel
theorem dX14_draftCatch_15 : decode cX14_draftCatch 15 = .ok (.aload_n 0, 1) := by decide +kernel
theorem dX14_draftCatch_16 : decode cX14_draftCatch 16 = .ok (.getfield 252, 3) := by decide +kernel
theorem dX14_draftCatch_19 : decode cX14_draftCatch 19 = .ok (.iload_n 1, 1) := by decide +kernel
theorem dX14_draftCatch_20 : decode cX14_draftCatch 20 = .ok (.iaload, 1) := by decide +kernel
theorem dX14_draftCatch_21 : decode cX14_draftCatch 21 = .ok (.invokevirtual 1133, 3) := by decide +kernel
theorem dX14_draftCatch_24 : decode cX14_draftCatch 24 = .ok (.iaload, 1) := by decide +kernel
theorem dX14_draftCatch_25 : decode cX14_draftCatch 25 = .ok (.iastore, 1) := by decide +kernel
theorem dX14_draftCatch_26 : decode cX14_draftCatch 26 = .ok (.aload_n 0, 1) := by decide +kernel
theorem dX14_draftCatch_27 : decode cX14_draftCatch 27 = .ok (.getfield 234, 3) := by decide +kernel
theorem dX14_draftCatch_30 : decode cX14_draftCatch 30 = .ok (.iconst 4, 1) := by decide +kernel
theorem dX14_draftCatch_31 : decode cX14_draftCatch 31 = .ok (.aload_n 0, 1) := by decide +kernel
theorem dX14_draftCatch_32 : decode cX14_draftCatch 32 = .ok (.getfield 1252, 3) := by decide +kernel
theorem dX14_draftCatch_35 : decode cX14_draftCatch 35 = .ok (.imul, 1) := by decide +kernel
theorem dX14_draftCatch_36 : decode cX14_draftCatch 36 = .ok (.iconst 1, 1) := by decide +kernel
theorem dX14_draftCatch_37 : decode cX14_draftCatch 37 = .ok (.iadd, 1) := by decide +kernel
theorem dX14_draftCatch_38 : decode cX14_draftCatch 38 = .ok (.aload_n 0, 1) := by decide +kernel
theorem dX14_draftCatch_39 : decode cX14_draftCatch 39 = .ok (.getfield 279, 3) := by decide +kernel
theorem dX14_draftCatch_42 : decode cX14_draftCatch 42 = .ok (.aload_n 0, 1) := by decide +kernel
theorem dX14_draftCatch_43 : decode cX14_draftCatch 43 = .ok (.aload_n 0, 1) := by decide +kernel
theorem dX14_draftCatch_44 : decode cX14_draftCatch 44 = .ok (.getfield 255, 3) := by decide +kernel
theorem dX14_draftCatch_47 : decode cX14_draftCatch 47 = .ok (.iload_n 1, 1) := by decide +kernel
theorem dX14_draftCatch_48 : decode cX14_draftCatch 48 = .ok (.iaload, 1) := by decide +kernel
theorem dX14_draftCatch_49 : decode cX14_draftCatch 49 = .ok (.invokevirtual 1133, 3) := by decide +kernel
theorem dX14_draftCatch_52 : decode cX14_draftCatch 52 = .ok (.iaload, 1) := by decide +kernel
theorem dX14_draftCatch_53 : decode cX14_draftCatch 53 = .ok (.iastore, 1) := by decide +kernel
theorem dX14_draftCatch_54 : decode cX14_draftCatch 54 = .ok (.aload_n 0, 1) := by decide +kernel
theorem dX14_draftCatch_55 : decode cX14_draftCatch 55 = .ok (.getfield 234, 3) := by decide +kernel
theorem dX14_draftCatch_58 : decode cX14_draftCatch 58 = .ok (.iconst 4, 1) := by decide +kernel
theorem dX14_draftCatch_59 : decode cX14_draftCatch 59 = .ok (.aload_n 0, 1) := by decide +kernel
theorem dX14_draftCatch_60 : decode cX14_draftCatch 60 = .ok (.getfield 1252, 3) := by decide +kernel
theorem dX14_draftCatch_63 : decode cX14_draftCatch 63 = .ok (.imul, 1) := by decide +kernel
theorem dX14_draftCatch_64 : decode cX14_draftCatch 64 = .ok (.iconst 2, 1) := by decide +kernel
theorem dX14_draftCatch_65 : decode cX14_draftCatch 65 = .ok (.iadd, 1) := by decide +kernel
theorem dX14_draftCatch_66 : decode cX14_draftCatch 66 = .ok (.aload_n 0, 1) := by decide +kernel
theorem dX14_draftCatch_67 : decode cX14_draftCatch 67 = .ok (.getfield 279, 3) := by decide +kernel
theorem dX14_draftCatch_70 : decode cX14_draftCatch 70 = .ok (.aload_n 0, 1) := by decide +kernel
theorem dX14_draftCatch_71 : decode cX14_draftCatch 71 = .ok (.aload_n 0, 1) := by decide +kernel
theorem dX14_draftCatch_72 : decode cX14_draftCatch 72 = .ok (.getfield 258, 3) := by decide +kernel
theorem dX14_draftCatch_75 : decode cX14_draftCatch 75 = .ok (.iload_n 1, 1) := by decide +kernel
theorem dX14_draftCatch_76 : decode cX14_draftCatch 76 = .ok (.iaload, 1) := by decide +kernel
theorem dX14_draftCatch_77 : decode cX14_draftCatch 77 = .ok (.invokevirtual 1133, 3) := by decide +kernel
theorem dX14_draftCatch_80 : decode cX14_draftCatch 80 = .ok (.iaload, 1) := by decide +kernel
theorem dX14_draftCatch_81 : decode cX14_draftCatch 81 = .ok (.iastore, 1) := by decide +kernel
theorem dX14_draftCatch_82 : decode cX14_draftCatch 82 = .ok (.aload_n 0, 1) := by decide +kernel
theorem dX14_draftCatch_83 : decode cX14_draftCatch 83 = .ok (.getfield 234, 3) := by decide +kernel
theorem dX14_draftCatch_86 : decode cX14_draftCatch 86 = .ok (.iconst 4, 1) := by decide +kernel
theorem dX14_draftCatch_87 : decode cX14_draftCatch 87 = .ok (.aload_n 0, 1) := by decide +kernel
theorem dX14_draftCatch_88 : decode cX14_draftCatch 88 = .ok (.getfield 1252, 3) := by decide +kernel
theorem dX14_draftCatch_91 : decode cX14_draftCatch 91 = .ok (.imul, 1) := by decide +kernel
theorem dX14_draftCatch_92 : decode cX14_draftCatch 92 = .ok (.iconst 3, 1) := by decide +kernel
theorem dX14_draftCatch_93 : decode cX14_draftCatch 93 = .ok (.iadd, 1) := by decide +kernel
theorem dX14_draftCatch_94 : decode cX14_draftCatch 94 = .ok (.aload_n 0, 1) := by decide +kernel
theorem dX14_draftCatch_95 : decode cX14_draftCatch 95 = .ok (.getfield 261, 3) := by decide +kernel
theorem dX14_draftCatch_98 : decode cX14_draftCatch 98 = .ok (.iload_n 1, 1) := by decide +kernel
theorem dX14_draftCatch_99 : decode cX14_draftCatch 99 = .ok (.iaload, 1) := by decide +kernel
theorem dX14_draftCatch_100 : decode cX14_draftCatch 100 = .ok (.iastore, 1) := by decide +kernel
theorem dX14_draftCatch_101 : decode cX14_draftCatch 101 = .ok (.aload_n 0, 1) := by decide +kernel
theorem dX14_draftCatch_102 : decode cX14_draftCatch 102 = .ok (.dup, 1) := by decide +kernel
theorem dX14_draftCatch_103 : decode cX14_draftCatch 103 = .ok (.getfield 1252, 3) := by decide +kernel
theorem dX14_draftCatch_106 : decode cX14_draftCatch 106 = .ok (.iconst 1, 1) := by decide +kernel
theorem dX14_draftCatch_107 : decode cX14_draftCatch 107 = .ok (.iadd, 1) := by decide +kernel
theorem dX14_draftCatch_108 : decode cX14_draftCatch 108 = .ok (.putfield 1252, 3) := by decide +kernel
theorem dX14_draftCatch_111 : decode cX14_draftCatch 111 = .ok (.return_, 1) := by decide +kernel
theorem dX14_draftRow_0 : decode cX14_draftRow 0 = .ok (.aload_n 0, 1) := by decide +kernel
theorem dX14_draftRow_1 : decode cX14_draftRow 1 = .ok (.getfield 228, 3) := by decide +kernel
theorem dX14_draftRow_4 : decode cX14_draftRow 4 = .ok (.iconst 3, 1) := by decide +kernel
theorem dX14_draftRow_5 : decode cX14_draftRow 5 = .ok (.aload_n 0, 1) := by decide +kernel
theorem dX14_draftRow_6 : decode cX14_draftRow 6 = .ok (.getfield 1249, 3) := by decide +kernel
theorem dX14_draftRow_9 : decode cX14_draftRow 9 = .ok (.imul, 1) := by decide +kernel
theorem dX14_draftRow_10 : decode cX14_draftRow 10 = .ok (.iload_n 1, 1) := by decide +kernel
theorem dX14_draftRow_11 : decode cX14_draftRow 11 = .ok (.iastore, 1) := by decide +kernel
theorem dX14_draftRow_12 : decode cX14_draftRow 12 = .ok (.aload_n 0, 1) := by decide +kernel
theorem dX14_draftRow_13 : decode cX14_draftRow 13 = .ok (.getfield 228, 3) := by decide +kernel
theorem dX14_draftRow_16 : decode cX14_draftRow 16 = .ok (.iconst 3, 1) := by decide +kernel
theorem dX14_draftRow_17 : decode cX14_draftRow 17 = .ok (.aload_n 0, 1) := by decide +kernel
theorem dX14_draftRow_18 : decode cX14_draftRow 18 = .ok (.getfield 1249, 3) := by decide +kernel
theorem dX14_draftRow_21 : decode cX14_draftRow 21 = .ok (.imul, 1) := by decide +kernel
theorem dX14_draftRow_22 : decode cX14_draftRow 22 = .ok (.iconst 1, 1) := by decide +kernel
theorem dX14_draftRow_23 : decode cX14_draftRow 23 = .ok (.iadd, 1) := by decide +kernel
theorem dX14_draftRow_24 : decode cX14_draftRow 24 = .ok (.iload_n 2, 1) := by decide +kernel
theorem dX14_draftRow_25 : decode cX14_draftRow 25 = .ok (.iastore, 1) := by decide +kernel
theorem dX14_draftRow_26 : decode cX14_draftRow 26 = .ok (.aload_n 0, 1) := by decide +kernel
theorem dX14_draftRow_27 : decode cX14_draftRow 27 = .ok (.getfield 228, 3) := by decide +kernel
theorem dX14_draftRow_30 : decode cX14_draftRow 30 = .ok (.iconst 3, 1) := by decide +kernel
theorem dX14_draftRow_31 : decode cX14_draftRow 31 = .ok (.aload_n 0, 1) := by decide +kernel
theorem dX14_draftRow_32 : decode cX14_draftRow 32 = .ok (.getfield 1249, 3) := by decide +kernel
theorem dX14_draftRow_35 : decode cX14_draftRow 35 = .ok (.imul, 1) := by decide +kernel
theorem dX14_draftRow_36 : decode cX14_draftRow 36 = .ok (.iconst 2, 1) := by decide +kernel
theorem dX14_draftRow_37 : decode cX14_draftRow 37 = .ok (.iadd, 1) := by decide +kernel
theorem dX14_draftRow_38 : decode cX14_draftRow 38 = .ok (.iload_n 3, 1) := by decide +kernel
theorem dX14_draftRow_39 : decode cX14_draftRow 39 = .ok (.iastore, 1) := by decide +kernel
theorem dX14_draftRow_40 : decode cX14_draftRow 40 = .ok (.aload_n 0, 1) := by decide +kernel
theorem dX14_draftRow_41 : decode cX14_draftRow 41 = .ok (.dup, 1) := by decide +kernel
theorem dX14_draftRow_42 : decode cX14_draftRow 42 = .ok (.getfield 1249, 3) := by decide +kernel
theorem dX14_draftRow_45 : decode cX14_draftRow 45 = .ok (.iconst 1, 1) := by decide +kernel
theorem dX14_draftRow_46 : decode cX14_draftRow 46 = .ok (.iadd, 1) := by decide +kernel
theorem dX14_draftRow_47 : decode cX14_draftRow 47 = .ok (.putfield 1249, 3) := by decide +kernel
theorem dX14_draftRow_50 : decode cX14_draftRow 50 = .ok (.return_, 1) := by decide +kernel
theorem dX14_draw_0 : decode cX14_draw 0 = .ok (.aload_n 0, 1) := by decide +kernel
theorem dX14_draw_1 : decode cX14_draw 1 = .ok (.aload_n 1, 1) := by decide +kernel
theorem dX14_draw_2 : decode cX14_draw 2 = .ok (.iload_n 2, 1) := by decide +kernel
theorem dX14_draw_3 : decode cX14_draw 3 = .ok (.invokevirtual 834, 3) := by decide +kernel
theorem dX14_draw_6 : decode cX14_draw 6 = .ok (.iconst 0, 1) := by decide +kernel
theorem dX14_draw_7 : decode cX14_draw 7 = .ok (.istore_n 3, 1) := by decide +kernel
theorem dX14_draw_8 : decode cX14_draw 8 = .ok (.iload_n 3, 1) := by decide +kernel
theorem dX14_draw_9 : decode cX14_draw 9 = .ok (.aload_n 0, 1) := by decide +kernel
theorem dX14_draw_10 : decode cX14_draw 10 = .ok (.getfield 673, 3) := by decide +kernel
theorem dX14_draw_13 : decode cX14_draw 13 = .ok (.if_icmp .gt 16, 3) := by decide +kernel
theorem dX14_draw_16 : decode cX14_draw 16 = .ok (.aload_n 0, 1) := by decide +kernel
theorem dX14_draw_17 : decode cX14_draw 17 = .ok (.getfield 188, 3) := by decide +kernel
theorem dX14_draw_20 : decode cX14_draw 20 = .ok (.iload_n 3, 1) := by decide +kernel
theorem dX14_draw_21 : decode cX14_draw 21 = .ok (.iconst 0, 1) := by decide +kernel
theorem dX14_draw_22 : decode cX14_draw 22 = .ok (.iastore, 1) := by decide +kernel
theorem dX14_draw_23 : decode cX14_draw 23 = .ok (.iinc 3 1, 3) := by decide +kernel
theorem dX14_draw_26 : decode cX14_draw 26 = .ok (.goto (-18), 3) := by decide +kernel
theorem dX14_draw_29 : decode cX14_draw 29 = .ok (.aload_n 0, 1) := by decide +kernel
theorem dX14_draw_30 : decode cX14_draw 30 = .ok (.getfield 188, 3) := by decide +kernel
theorem dX14_draw_33 : decode cX14_draw 33 = .ok (.iconst 0, 1) := by decide +kernel
theorem dX14_draw_34 : decode cX14_draw 34 = .ok (.iconst 1, 1) := by decide +kernel
theorem dX14_draw_35 : decode cX14_draw 35 = .ok (.iastore, 1) := by decide +kernel
theorem dX14_draw_36 : decode cX14_draw 36 = .ok (.iconst 0, 1) := by decide +kernel
theorem dX14_draw_37 : decode cX14_draw 37 = .ok (.istore_n 3, 1) := by decide +kernel
theorem dX14_draw_38 : decode cX14_draw 38 = .ok (.iload_n 3, 1) := by decide +kernel
theorem dX14_draw_39 : decode cX14_draw 39 = .ok (.aload_n 0, 1) := by decide +kernel
theorem dX14_draw_40 : decode cX14_draw 40 = .ok (.getfield 673, 3) := by decide +kernel
theorem dX14_draw_43 : decode cX14_draw 43 = .ok (.if_icmp .ge 73, 3) := by decide +kernel
theorem dX14_draw_46 : decode cX14_draw 46 = .ok (.aload_n 0, 1) := by decide +kernel
theorem dX14_draw_47 : decode cX14_draw 47 = .ok (.iload_n 3, 1) := by decide +kernel
theorem dX14_draw_48 : decode cX14_draw 48 = .ok (.invokevirtual 685, 3) := by decide +kernel
theorem dX14_draw_51 : decode cX14_draw 51 = .ok (.istore 4, 2) := by decide +kernel
theorem dX14_draw_53 : decode cX14_draw 53 = .ok (.iload 4, 2) := by decide +kernel
theorem dX14_draw_55 : decode cX14_draw 55 = .ok (.invokestatic 688, 3) := by decide +kernel
theorem dX14_draw_58 : decode cX14_draw 58 = .ok (.ifCond .ne 11, 3) := by decide +kernel
theorem dX14_draw_61 : decode cX14_draw 61 = .ok (.iload 4, 2) := by decide +kernel
theorem dX14_draw_63 : decode cX14_draw 63 = .ok (.invokestatic 756, 3) := by decide +kernel
theorem dX14_draw_66 : decode cX14_draw 66 = .ok (.ifCond .ne 12, 3) := by decide +kernel
theorem dX14_draw_69 : decode cX14_draw 69 = .ok (.aload_n 0, 1) := by decide +kernel
theorem dX14_draw_70 : decode cX14_draw 70 = .ok (.getfield 188, 3) := by decide +kernel
theorem dX14_draw_73 : decode cX14_draw 73 = .ok (.iload_n 3, 1) := by decide +kernel
theorem dX14_draw_74 : decode cX14_draw 74 = .ok (.iconst 1, 1) := by decide +kernel
theorem dX14_draw_75 : decode cX14_draw 75 = .ok (.iadd, 1) := by decide +kernel
theorem dX14_draw_76 : decode cX14_draw 76 = .ok (.iconst 1, 1) := by decide +kernel
theorem dX14_draw_77 : decode cX14_draw 77 = .ok (.iastore, 1) := by decide +kernel
theorem dX14_draw_78 : decode cX14_draw 78 = .ok (.iconst 0, 1) := by decide +kernel
theorem dX14_draw_79 : decode cX14_draw 79 = .ok (.istore 5, 2) := by decide +kernel
theorem dX14_draw_81 : decode cX14_draw 81 = .ok (.iload 5, 2) := by decide +kernel
theorem dX14_draw_83 : decode cX14_draw 83 = .ok (.aload_n 0, 1) := by decide +kernel
theorem dX14_draw_84 : decode cX14_draw 84 = .ok (.iload_n 3, 1) := by decide +kernel
theorem dX14_draw_85 : decode cX14_draw 85 = .ok (.invokevirtual 762, 3) := by decide +kernel
theorem dX14_draw_88 : decode cX14_draw 88 = .ok (.if_icmp .ge 22, 3) := by decide +kernel
theorem dX14_draw_91 : decode cX14_draw 91 = .ok (.aload_n 0, 1) := by decide +kernel
theorem dX14_draw_92 : decode cX14_draw 92 = .ok (.getfield 188, 3) := by decide +kernel
theorem dX14_draw_95 : decode cX14_draw 95 = .ok (.aload_n 0, 1) := by decide +kernel
theorem dX14_draw_96 : decode cX14_draw 96 = .ok (.iload_n 3, 1) := by decide +kernel
theorem dX14_draw_97 : decode cX14_draw 97 = .ok (.iload 5, 2) := by decide +kernel
theorem dX14_draw_99 : decode cX14_draw 99 = .ok (.invokevirtual 765, 3) := by decide +kernel
theorem dX14_draw_102 : decode cX14_draw 102 = .ok (.iconst 1, 1) := by decide +kernel
theorem dX14_draw_103 : decode cX14_draw 103 = .ok (.iastore, 1) := by decide +kernel
theorem dX14_draw_104 : decode cX14_draw 104 = .ok (.iinc 5 1, 3) := by decide +kernel
theorem dX14_draw_107 : decode cX14_draw 107 = .ok (.goto (-26), 3) := by decide +kernel
theorem dX14_draw_110 : decode cX14_draw 110 = .ok (.iinc 3 1, 3) := by decide +kernel
theorem dX14_draw_113 : decode cX14_draw 113 = .ok (.goto (-75), 3) := by decide +kernel
theorem dX14_draw_116 : decode cX14_draw 116 = .ok (.iconst 0, 1) := by decide +kernel
theorem dX14_draw_117 : decode cX14_draw 117 = .ok (.istore_n 3, 1) := by decide +kernel
theorem dX14_draw_118 : decode cX14_draw 118 = .ok (.iload_n 3, 1) := by decide +kernel
theorem dX14_draw_119 : decode cX14_draw 119 = .ok (.aload_n 0, 1) := by decide +kernel
theorem dX14_draw_120 : decode cX14_draw 120 = .ok (.getfield 679, 3) := by decide +kernel
theorem dX14_draw_123 : decode cX14_draw 123 = .ok (.if_icmp .ge 37, 3) := by decide +kernel
theorem dX14_draw_126 : decode cX14_draw 126 = .ok (.iconst 0, 1) := by decide +kernel
theorem dX14_draw_127 : decode cX14_draw 127 = .ok (.istore 4, 2) := by decide +kernel
theorem dX14_draw_129 : decode cX14_draw 129 = .ok (.iload 4, 2) := by decide +kernel
theorem dX14_draw_131 : decode cX14_draw 131 = .ok (.iconst 3, 1) := by decide +kernel
theorem dX14_draw_132 : decode cX14_draw 132 = .ok (.if_icmp .ge 22, 3) := by decide +kernel
theorem dX14_draw_135 : decode cX14_draw 135 = .ok (.aload_n 0, 1) := by decide +kernel
theorem dX14_draw_136 : decode cX14_draw 136 = .ok (.getfield 188, 3) := by decide +kernel
theorem dX14_draw_139 : decode cX14_draw 139 = .ok (.aload_n 0, 1) := by decide +kernel
theorem dX14_draw_140 : decode cX14_draw 140 = .ok (.iload_n 3, 1) := by decide +kernel
theorem dX14_draw_141 : decode cX14_draw 141 = .ok (.iload 4, 2) := by decide +kernel
theorem dX14_draw_143 : decode cX14_draw 143 = .ok (.invokevirtual 682, 3) := by decide +kernel
theorem dX14_draw_146 : decode cX14_draw 146 = .ok (.iconst 1, 1) := by decide +kernel
theorem dX14_draw_147 : decode cX14_draw 147 = .ok (.iastore, 1) := by decide +kernel
theorem dX14_draw_148 : decode cX14_draw 148 = .ok (.iinc 4 1, 3) := by decide +kernel
theorem dX14_draw_151 : decode cX14_draw 151 = .ok (.goto (-22), 3) := by decide +kernel
theorem dX14_draw_154 : decode cX14_draw 154 = .ok (.iinc 3 1, 3) := by decide +kernel
theorem dX14_draw_157 : decode cX14_draw 157 = .ok (.goto (-39), 3) := by decide +kernel
theorem dX14_draw_160 : decode cX14_draw 160 = .ok (.aload_n 0, 1) := by decide +kernel
theorem dX14_draw_161 : decode cX14_draw 161 = .ok (.iconst 0, 1) := by decide +kernel
theorem dX14_draw_162 : decode cX14_draw 162 = .ok (.putfield 1088, 3) := by decide +kernel
theorem dX14_draw_165 : decode cX14_draw 165 = .ok (.iconst 0, 1) := by decide +kernel
theorem dX14_draw_166 : decode cX14_draw 166 = .ok (.istore_n 3, 1) := by decide +kernel
theorem dX14_draw_167 : decode cX14_draw 167 = .ok (.iload_n 3, 1) := by decide +kernel
theorem dX14_draw_168 : decode cX14_draw 168 = .ok (.aload_n 0, 1) := by decide +kernel
theorem dX14_draw_169 : decode cX14_draw 169 = .ok (.getfield 673, 3) := by decide +kernel
theorem dX14_draw_172 : decode cX14_draw 172 = .ok (.if_icmp .ge 51, 3) := by decide +kernel
theorem dX14_draw_175 : decode cX14_draw 175 = .ok (.aload_n 0, 1) := by decide +kernel
theorem dX14_draw_176 : decode cX14_draw 176 = .ok (.getfield 188, 3) := by decide +kernel
theorem dX14_draw_179 : decode cX14_draw 179 = .ok (.iload_n 3, 1) := by decide +kernel
theorem dX14_draw_180 : decode cX14_draw 180 = .ok (.iaload, 1) := by decide +kernel
theorem dX14_draw_181 : decode cX14_draw 181 = .ok (.iconst 1, 1) := by decide +kernel
theorem dX14_draw_182 : decode cX14_draw 182 = .ok (.if_icmp .ne 23, 3) := by decide +kernel
theorem dX14_draw_185 : decode cX14_draw 185 = .ok (.aload_n 0, 1) := by decide +kernel
theorem dX14_draw_186 : decode cX14_draw 186 = .ok (.getfield 185, 3) := by decide +kernel
theorem dX14_draw_189 : decode cX14_draw 189 = .ok (.aload_n 0, 1) := by decide +kernel
theorem dX14_draw_190 : decode cX14_draw 190 = .ok (.getfield 1088, 3) := by decide +kernel
theorem dX14_draw_193 : decode cX14_draw 193 = .ok (.iload_n 3, 1) := by decide +kernel
theorem dX14_draw_194 : decode cX14_draw 194 = .ok (.iastore, 1) := by decide +kernel
theorem dX14_draw_195 : decode cX14_draw 195 = .ok (.aload_n 0, 1) := by decide +kernel
theorem dX14_draw_196 : decode cX14_draw 196 = .ok (.dup, 1) := by decide +kernel
theorem dX14_draw_197 : decode cX14_draw 197 = .ok (.getfield 1088, 3) := by decide +kernel
theorem dX14_draw_200 : decode cX14_draw 200 = .ok (.iconst 1, 1) := by decide +kernel
theorem dX14_draw_201 : decode cX14_draw 201 = .ok (.iadd, 1) := by decide +kernel
theorem dX14_draw_202 : decode cX14_draw 202 = .ok (.putfield 1088, 3) := by decide +kernel
theorem dX14_draw_205 : decode cX14_draw 205 = .ok (.aload_n 0, 1) := by decide +kernel
theorem dX14_draw_206 : decode cX14_draw 206 = .ok (.getfield 188, 3) := by decide +kernel
theorem dX14_draw_209 : decode cX14_draw 209 = .ok (.iload_n 3, 1) := by decide +kernel
theorem dX14_draw_210 : decode cX14_draw 210 = .ok (.aload_n 0, 1) := by decide +kernel
theorem dX14_draw_211 : decode cX14_draw 211 = .ok (.getfield 1088, 3) := by decide +kernel
theorem dX14_draw_214 : decode cX14_draw 214 = .ok (.iconst 1, 1) := by decide +kernel
theorem dX14_draw_215 : decode cX14_draw 215 = .ok (.isub, 1) := by decide +kernel
theorem dX14_draw_216 : decode cX14_draw 216 = .ok (.iastore, 1) := by decide +kernel
theorem dX14_draw_217 : decode cX14_draw 217 = .ok (.iinc 3 1, 3) := by decide +kernel
theorem dX14_draw_220 : decode cX14_draw 220 = .ok (.goto (-53), 3) := by decide +kernel
theorem dX14_draw_223 : decode cX14_draw 223 = .ok (.aload_n 0, 1) := by decide +kernel
theorem dX14_draw_224 : decode cX14_draw 224 = .ok (.getfield 185, 3) := by decide +kernel
theorem dX14_draw_227 : decode cX14_draw 227 = .ok (.aload_n 0, 1) := by decide +kernel
theorem dX14_draw_228 : decode cX14_draw 228 = .ok (.getfield 1088, 3) := by decide +kernel
theorem dX14_draw_231 : decode cX14_draw 231 = .ok (.aload_n 0, 1) := by decide +kernel
theorem dX14_draw_232 : decode cX14_draw 232 = .ok (.getfield 673, 3) := by decide +kernel
theorem dX14_draw_235 : decode cX14_draw 235 = .ok (.iastore, 1) := by decide +kernel
theorem dX14_draw_236 : decode cX14_draw 236 = .ok (.aload_n 0, 1) := by decide +kernel
theorem dX14_draw_237 : decode cX14_draw 237 = .ok (.invokevirtual 1091, 3) := by decide +kernel
theorem dX14_draw_240 : decode cX14_draw 240 = .ok (.aload_n 0, 1) := by decide +kernel
theorem dX14_draw_241 : decode cX14_draw 241 = .ok (.invokevirtual 1094, 3) := by decide +kernel
theorem dX14_draw_244 : decode cX14_draw 244 = .ok (.return_, 1) := by decide +kernel
theorem dX14_edge_0 : decode cX14_edge 0 = .ok (.aload_n 0, 1) := by decide +kernel
theorem dX14_edge_1 : decode cX14_edge 1 = .ok (.iload_n 1, 1) := by decide +kernel
theorem dX14_edge_2 : decode cX14_edge 2 = .ok (.iload_n 2, 1) := by decide +kernel
theorem dX14_edge_3 : decode cX14_edge 3 = .ok (.invokevirtual 662, 3) := by decide +kernel
theorem dX14_edge_6 : decode cX14_edge 6 = .ok (.ifCond .ne 5, 3) := by decide +kernel
theorem dX14_edge_9 : decode cX14_edge 9 = .ok (.iconst 0, 1) := by decide +kernel
theorem dX14_edge_10 : decode cX14_edge 10 = .ok (.ireturn, 1) := by decide +kernel
theorem dX14_edge_11 : decode cX14_edge 11 = .ok (.aload_n 0, 1) := by decide +kernel
theorem dX14_edge_12 : decode cX14_edge 12 = .ok (.iload_n 1, 1) := by decide +kernel
theorem dX14_edge_13 : decode cX14_edge 13 = .ok (.iload_n 2, 1) := by decide +kernel
theorem dX14_edge_14 : decode cX14_edge 14 = .ok (.invokevirtual 1127, 3) := by decide +kernel
theorem dX14_edge_17 : decode cX14_edge 17 = .ok (.iload_n 3, 1) := by decide +kernel
theorem dX14_edge_18 : decode cX14_edge 18 = .ok (.ifCond .lt 11, 3) := by decide +kernel
theorem dX14_edge_21 : decode cX14_edge 21 = .ok (.iload_n 3, 1) := by decide +kernel
theorem dX14_edge_22 : decode cX14_edge 22 = .ok (.aload_n 0, 1) := by decide +kernel
theorem dX14_edge_23 : decode cX14_edge 23 = .ok (.getfield 1088, 3) := by decide +kernel
theorem dX14_edge_26 : decode cX14_edge 26 = .ok (.if_icmp .lt 5, 3) := by decide +kernel
theorem dX14_edge_29 : decode cX14_edge 29 = .ok (.iconst 0, 1) := by decide +kernel
theorem dX14_edge_30 : decode cX14_edge 30 = .ok (.ireturn, 1) := by decide +kernel
theorem dX14_edge_31 : decode cX14_edge 31 = .ok (.aload_n 0, 1) := by decide +kernel
theorem dX14_edge_32 : decode cX14_edge 32 = .ok (.getfield 194, 3) := by decide +kernel
theorem dX14_edge_35 : decode cX14_edge 35 = .ok (.iload_n 3, 1) := by decide +kernel
theorem dX14_edge_36 : decode cX14_edge 36 = .ok (.iaload, 1) := by decide +kernel
theorem dX14_edge_37 : decode cX14_edge 37 = .ok (.istore 5, 2) := by decide +kernel
theorem dX14_edge_39 : decode cX14_edge 39 = .ok (.iload 5, 2) := by decide +kernel
theorem dX14_edge_41 : decode cX14_edge 41 = .ok (.aload_n 0, 1) := by decide +kernel
theorem dX14_edge_42 : decode cX14_edge 42 = .ok (.getfield 194, 3) := by decide +kernel
theorem dX14_edge_45 : decode cX14_edge 45 = .ok (.iload_n 3, 1) := by decide +kernel
theorem dX14_edge_46 : decode cX14_edge 46 = .ok (.iconst 1, 1) := by decide +kernel
theorem dX14_edge_47 : decode cX14_edge 47 = .ok (.iadd, 1) := by decide +kernel
theorem dX14_edge_48 : decode cX14_edge 48 = .ok (.iaload, 1) := by decide +kernel
theorem dX14_edge_49 : decode cX14_edge 49 = .ok (.if_icmp .ge 23, 3) := by decide +kernel
theorem dX14_edge_52 : decode cX14_edge 52 = .ok (.aload_n 0, 1) := by decide +kernel
theorem dX14_edge_53 : decode cX14_edge 53 = .ok (.getfield 197, 3) := by decide +kernel
theorem dX14_edge_56 : decode cX14_edge 56 = .ok (.iload 5, 2) := by decide +kernel
theorem dX14_edge_58 : decode cX14_edge 58 = .ok (.iaload, 1) := by decide +kernel
theorem dX14_edge_59 : decode cX14_edge 59 = .ok (.iload 4, 2) := by decide +kernel
theorem dX14_edge_61 : decode cX14_edge 61 = .ok (.if_icmp .ne 5, 3) := by decide +kernel
theorem dX14_edge_64 : decode cX14_edge 64 = .ok (.iconst 1, 1) := by decide +kernel
theorem dX14_edge_65 : decode cX14_edge 65 = .ok (.ireturn, 1) := by decide +kernel
theorem dX14_edge_66 : decode cX14_edge 66 = .ok (.iinc 5 1, 3) := by decide +kernel
theorem dX14_edge_69 : decode cX14_edge 69 = .ok (.goto (-30), 3) := by decide +kernel
theorem dX14_edge_72 : decode cX14_edge 72 = .ok (.iconst 0, 1) := by decide +kernel
theorem dX14_edge_73 : decode cX14_edge 73 = .ok (.ireturn, 1) := by decide +kernel
theorem dX14_edgeInto_0 : decode cX14_edgeInto 0 = .ok (.aload_n 0, 1) := by decide +kernel
theorem dX14_edgeInto_1 : decode cX14_edgeInto 1 = .ok (.getfield 194, 3) := by decide +kernel
theorem dX14_edgeInto_4 : decode cX14_edgeInto 4 = .ok (.iload_n 1, 1) := by decide +kernel
theorem dX14_edgeInto_5 : decode cX14_edgeInto 5 = .ok (.iaload, 1) := by decide +kernel
theorem dX14_edgeInto_6 : decode cX14_edgeInto 6 = .ok (.istore_n 3, 1) := by decide +kernel
theorem dX14_edgeInto_7 : decode cX14_edgeInto 7 = .ok (.iload_n 3, 1) := by decide +kernel
theorem dX14_edgeInto_8 : decode cX14_edgeInto 8 = .ok (.aload_n 0, 1) := by decide +kernel
theorem dX14_edgeInto_9 : decode cX14_edgeInto 9 = .ok (.getfield 1097, 3) := by decide +kernel
theorem dX14_edgeInto_12 : decode cX14_edgeInto 12 = .ok (.if_icmp .ge 20, 3) := by decide +kernel
theorem dX14_edgeInto_15 : decode cX14_edgeInto 15 = .ok (.aload_n 0, 1) := by decide +kernel
theorem dX14_edgeInto_16 : decode cX14_edgeInto 16 = .ok (.getfield 197, 3) := by decide +kernel
theorem dX14_edgeInto_19 : decode cX14_edgeInto 19 = .ok (.iload_n 3, 1) := by decide +kernel
theorem dX14_edgeInto_20 : decode cX14_edgeInto 20 = .ok (.iaload, 1) := by decide +kernel
theorem dX14_edgeInto_21 : decode cX14_edgeInto 21 = .ok (.iload_n 2, 1) := by decide +kernel
theorem dX14_edgeInto_22 : decode cX14_edgeInto 22 = .ok (.if_icmp .ne 4, 3) := by decide +kernel
theorem dX14_edgeInto_25 : decode cX14_edgeInto 25 = .ok (.return_, 1) := by decide +kernel
theorem dX14_edgeInto_26 : decode cX14_edgeInto 26 = .ok (.iinc 3 1, 3) := by decide +kernel
theorem dX14_edgeInto_29 : decode cX14_edgeInto 29 = .ok (.goto (-22), 3) := by decide +kernel
theorem dX14_edgeInto_32 : decode cX14_edgeInto 32 = .ok (.aload_n 0, 1) := by decide +kernel
theorem dX14_edgeInto_33 : decode cX14_edgeInto 33 = .ok (.getfield 197, 3) := by decide +kernel
theorem dX14_edgeInto_36 : decode cX14_edgeInto 36 = .ok (.aload_n 0, 1) := by decide +kernel
theorem dX14_edgeInto_37 : decode cX14_edgeInto 37 = .ok (.getfield 1097, 3) := by decide +kernel
theorem dX14_edgeInto_40 : decode cX14_edgeInto 40 = .ok (.iload_n 2, 1) := by decide +kernel
theorem dX14_edgeInto_41 : decode cX14_edgeInto 41 = .ok (.iastore, 1) := by decide +kernel
theorem dX14_edgeInto_42 : decode cX14_edgeInto 42 = .ok (.aload_n 0, 1) := by decide +kernel
theorem dX14_edgeInto_43 : decode cX14_edgeInto 43 = .ok (.dup, 1) := by decide +kernel
theorem dX14_edgeInto_44 : decode cX14_edgeInto 44 = .ok (.getfield 1097, 3) := by decide +kernel
theorem dX14_edgeInto_47 : decode cX14_edgeInto 47 = .ok (.iconst 1, 1) := by decide +kernel
theorem dX14_edgeInto_48 : decode cX14_edgeInto 48 = .ok (.iadd, 1) := by decide +kernel
theorem dX14_edgeInto_49 : decode cX14_edgeInto 49 = .ok (.putfield 1097, 3) := by decide +kernel
theorem dX14_edgeInto_52 : decode cX14_edgeInto 52 = .ok (.return_, 1) := by decide +kernel
theorem dX14_edges_0 : decode cX14_edges 0 = .ok (.aload_n 0, 1) := by decide +kernel
theorem dX14_edges_1 : decode cX14_edges 1 = .ok (.iconst 0, 1) := by decide +kernel
theorem dX14_edges_2 : decode cX14_edges 2 = .ok (.putfield 1097, 3) := by decide +kernel
theorem dX14_edges_5 : decode cX14_edges 5 = .ok (.iconst 0, 1) := by decide +kernel
theorem dX14_edges_6 : decode cX14_edges 6 = .ok (.istore_n 1, 1) := by decide +kernel
theorem dX14_edges_7 : decode cX14_edges 7 = .ok (.iload_n 1, 1) := by decide +kernel
theorem dX14_edges_8 : decode cX14_edges 8 = .ok (.aload_n 0, 1) := by decide +kernel
theorem dX14_edges_9 : decode cX14_edges 9 = .ok (.getfield 1088, 3) := by decide +kernel
theorem dX14_edges_12 : decode cX14_edges 12 = .ok (.if_icmp .ge 133, 3) := by decide +kernel
theorem dX14_edges_15 : decode cX14_edges 15 = .ok (.aload_n 0, 1) := by decide +kernel
theorem dX14_edges_16 : decode cX14_edges 16 = .ok (.getfield 194, 3) := by decide +kernel
theorem dX14_edges_19 : decode cX14_edges 19 = .ok (.iload_n 1, 1) := by decide +kernel
theorem dX14_edges_20 : decode cX14_edges 20 = .ok (.aload_n 0, 1) := by decide +kernel
theorem dX14_edges_21 : decode cX14_edges 21 = .ok (.getfield 1097, 3) := by decide +kernel
theorem dX14_edges_24 : decode cX14_edges 24 = .ok (.iastore, 1) := by decide +kernel
theorem dX14_edges_25 : decode cX14_edges 25 = .ok (.aload_n 0, 1) := by decide +kernel
theorem dX14_edges_26 : decode cX14_edges 26 = .ok (.getfield 185, 3) := by decide +kernel
theorem dX14_edges_29 : decode cX14_edges 29 = .ok (.iload_n 1, 1) := by decide +kernel
theorem dX14_edges_30 : decode cX14_edges 30 = .ok (.iconst 1, 1) := by decide +kernel
theorem dX14_edges_31 : decode cX14_edges 31 = .ok (.iadd, 1) := by decide +kernel
theorem dX14_edges_32 : decode cX14_edges 32 = .ok (.iaload, 1) := by decide +kernel
theorem dX14_edges_33 : decode cX14_edges 33 = .ok (.iconst 1, 1) := by decide +kernel
theorem dX14_edges_34 : decode cX14_edges 34 = .ok (.isub, 1) := by decide +kernel
theorem dX14_edges_35 : decode cX14_edges 35 = .ok (.istore_n 2, 1) := by decide +kernel
theorem dX14_edges_36 : decode cX14_edges 36 = .ok (.aload_n 0, 1) := by decide +kernel
theorem dX14_edges_37 : decode cX14_edges 37 = .ok (.iload_n 2, 1) := by decide +kernel
theorem dX14_edges_38 : decode cX14_edges 38 = .ok (.invokevirtual 685, 3) := by decide +kernel
theorem dX14_edges_41 : decode cX14_edges 41 = .ok (.invokestatic 756, 3) := by decide +kernel
theorem dX14_edges_44 : decode cX14_edges 44 = .ok (.ifCond .eq 21, 3) := by decide +kernel
theorem dX14_edges_47 : decode cX14_edges 47 = .ok (.iload_n 2, 1) := by decide +kernel
theorem dX14_edges_48 : decode cX14_edges 48 = .ok (.iconst 1, 1) := by decide +kernel
theorem dX14_edges_49 : decode cX14_edges 49 = .ok (.iadd, 1) := by decide +kernel
theorem dX14_edges_50 : decode cX14_edges 50 = .ok (.aload_n 0, 1) := by decide +kernel
theorem dX14_edges_51 : decode cX14_edges 51 = .ok (.getfield 673, 3) := by decide +kernel
theorem dX14_edges_54 : decode cX14_edges 54 = .ok (.if_icmp .ge 11, 3) := by decide +kernel
theorem dX14_edges_57 : decode cX14_edges 57 = .ok (.aload_n 0, 1) := by decide +kernel
theorem dX14_edges_58 : decode cX14_edges 58 = .ok (.iload_n 1, 1) := by decide +kernel
theorem dX14_edges_59 : decode cX14_edges 59 = .ok (.iload_n 1, 1) := by decide +kernel
theorem dX14_edges_60 : decode cX14_edges 60 = .ok (.iconst 1, 1) := by decide +kernel
theorem dX14_edges_61 : decode cX14_edges 61 = .ok (.iadd, 1) := by decide +kernel
theorem dX14_edges_62 : decode cX14_edges 62 = .ok (.invokevirtual 1100, 3) := by decide +kernel
theorem dX14_edges_65 : decode cX14_edges 65 = .ok (.iconst 0, 1) := by decide +kernel
theorem dX14_edges_66 : decode cX14_edges 66 = .ok (.istore_n 3, 1) := by decide +kernel
theorem dX14_edges_67 : decode cX14_edges 67 = .ok (.iload_n 3, 1) := by decide +kernel
theorem dX14_edges_68 : decode cX14_edges 68 = .ok (.aload_n 0, 1) := by decide +kernel
theorem dX14_edges_69 : decode cX14_edges 69 = .ok (.iload_n 2, 1) := by decide +kernel
theorem dX14_edges_70 : decode cX14_edges 70 = .ok (.invokevirtual 762, 3) := by decide +kernel
theorem dX14_edges_73 : decode cX14_edges 73 = .ok (.if_icmp .ge 25, 3) := by decide +kernel
theorem dX14_edges_76 : decode cX14_edges 76 = .ok (.aload_n 0, 1) := by decide +kernel
theorem dX14_edges_77 : decode cX14_edges 77 = .ok (.iload_n 1, 1) := by decide +kernel
theorem dX14_edges_78 : decode cX14_edges 78 = .ok (.aload_n 0, 1) := by decide +kernel
theorem dX14_edges_79 : decode cX14_edges 79 = .ok (.getfield 188, 3) := by decide +kernel
theorem dX14_edges_82 : decode cX14_edges 82 = .ok (.aload_n 0, 1) := by decide +kernel
theorem dX14_edges_83 : decode cX14_edges 83 = .ok (.iload_n 2, 1) := by decide +kernel
theorem dX14_edges_84 : decode cX14_edges 84 = .ok (.iload_n 3, 1) := by decide +kernel
theorem dX14_edges_85 : decode cX14_edges 85 = .ok (.invokevirtual 765, 3) := by decide +kernel

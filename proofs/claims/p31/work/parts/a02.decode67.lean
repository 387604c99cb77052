theorem dX7_codesHold_103 : decode cX7_codesHold 103 = .ok (.getfield 29, 3) := by decide +kernel
theorem dX7_codesHold_106 : decode cX7_codesHold 106 = .ok (.iload_n 1, 1) := by decide +kernel
theorem dX7_codesHold_107 : decode cX7_codesHold 107 = .ok (.iload 7, 2) := by decide +kernel
theorem dX7_codesHold_109 : decode cX7_codesHold 109 = .ok (.iastore, 1) := by decide +kernel
theorem dX7_codesHold_110 : decode cX7_codesHold 110 = .ok (.iload 7, 2) := by decide +kernel
theorem dX7_codesHold_112 : decode cX7_codesHold 112 = .ok (.istore 4, 2) := by decide +kernel
theorem dX7_codesHold_114 : decode cX7_codesHold 114 = .ok (.iinc 6 1, 3) := by decide +kernel
theorem dX7_codesHold_117 : decode cX7_codesHold 117 = .ok (.goto (-66), 3) := by decide +kernel
theorem dX7_codesHold_120 : decode cX7_codesHold 120 = .ok (.iload 5, 2) := by decide +kernel
theorem dX7_codesHold_122 : decode cX7_codesHold 122 = .ok (.iconst 1, 1) := by decide +kernel
theorem dX7_codesHold_123 : decode cX7_codesHold 123 = .ok (.if_icmp .eq 11, 3) := by decide +kernel
theorem dX7_codesHold_126 : decode cX7_codesHold 126 = .ok (.aload_n 0, 1) := by decide +kernel
theorem dX7_codesHold_127 : decode cX7_codesHold 127 = .ok (.bipush 12, 2) := by decide +kernel
theorem dX7_codesHold_129 : decode cX7_codesHold 129 = .ok (.iload_n 2, 1) := by decide +kernel
theorem dX7_codesHold_130 : decode cX7_codesHold 130 = .ok (.invokevirtual 87, 3) := by decide +kernel
theorem dX7_codesHold_133 : decode cX7_codesHold 133 = .ok (.ireturn, 1) := by decide +kernel
theorem dX7_codesHold_134 : decode cX7_codesHold 134 = .ok (.iinc 1 1, 3) := by decide +kernel
theorem dX7_codesHold_137 : decode cX7_codesHold 137 = .ok (.goto (-135), 3) := by decide +kernel
theorem dX7_codesHold_140 : decode cX7_codesHold 140 = .ok (.iconst 1, 1) := by decide +kernel
theorem dX7_codesHold_141 : decode cX7_codesHold 141 = .ok (.ireturn, 1) := by decide +kernel
theorem dX7_entriesPoint_0 : decode cX7_entriesPoint 0 = .ok (.iconst 1, 1) := by decide +kernel
theorem dX7_entriesPoint_1 : decode cX7_entriesPoint 1 = .ok (.istore_n 1, 1) := by decide +kernel
theorem dX7_entriesPoint_2 : decode cX7_entriesPoint 2 = .ok (.iload_n 1, 1) := by decide +kernel
theorem dX7_entriesPoint_3 : decode cX7_entriesPoint 3 = .ok (.aload_n 0, 1) := by decide +kernel
theorem dX7_entriesPoint_4 : decode cX7_entriesPoint 4 = .ok (.getfield 110, 3) := by decide +kernel
theorem dX7_entriesPoint_7 : decode cX7_entriesPoint 7 = .ok (.if_icmp .ge 29, 3) := by decide +kernel
theorem dX7_entriesPoint_10 : decode cX7_entriesPoint 10 = .ok (.aload_n 0, 1) := by decide +kernel
theorem dX7_entriesPoint_11 : decode cX7_entriesPoint 11 = .ok (.iload_n 1, 1) := by decide +kernel
theorem dX7_entriesPoint_12 : decode cX7_entriesPoint 12 = .ok (.invokevirtual 153, 3) := by decide +kernel
theorem dX7_entriesPoint_15 : decode cX7_entriesPoint 15 = .ok (.ifCond .ne 15, 3) := by decide +kernel
theorem dX7_entriesPoint_18 : decode cX7_entriesPoint 18 = .ok (.aload_n 0, 1) := by decide +kernel
theorem dX7_entriesPoint_19 : decode cX7_entriesPoint 19 = .ok (.bipush 6, 2) := by decide +kernel
theorem dX7_entriesPoint_21 : decode cX7_entriesPoint 21 = .ok (.aload_n 0, 1) := by decide +kernel
theorem dX7_entriesPoint_22 : decode cX7_entriesPoint 22 = .ok (.iload_n 1, 1) := by decide +kernel
theorem dX7_entriesPoint_23 : decode cX7_entriesPoint 23 = .ok (.invokevirtual 150, 3) := by decide +kernel
theorem dX7_entriesPoint_26 : decode cX7_entriesPoint 26 = .ok (.invokevirtual 87, 3) := by decide +kernel
theorem dX7_entriesPoint_29 : decode cX7_entriesPoint 29 = .ok (.ireturn, 1) := by decide +kernel
theorem dX7_entriesPoint_30 : decode cX7_entriesPoint 30 = .ok (.iinc 1 1, 3) := by decide +kernel
theorem dX7_entriesPoint_33 : decode cX7_entriesPoint 33 = .ok (.goto (-31), 3) := by decide +kernel
theorem dX7_entriesPoint_36 : decode cX7_entriesPoint 36 = .ok (.iconst 1, 1) := by decide +kernel
theorem dX7_entriesPoint_37 : decode cX7_entriesPoint 37 = .ok (.ireturn, 1) := by decide +kernel
theorem dX7_entryAt_0 : decode cX7_entryAt 0 = .ok (.iload_n 1, 1) := by decide +kernel
theorem dX7_entryAt_1 : decode cX7_entryAt 1 = .ok (.iconst 1, 1) := by decide +kernel
theorem dX7_entryAt_2 : decode cX7_entryAt 2 = .ok (.if_icmp .lt 20, 3) := by decide +kernel
theorem dX7_entryAt_5 : decode cX7_entryAt 5 = .ok (.iload_n 1, 1) := by decide +kernel
theorem dX7_entryAt_6 : decode cX7_entryAt 6 = .ok (.aload_n 0, 1) := by decide +kernel
theorem dX7_entryAt_7 : decode cX7_entryAt 7 = .ok (.getfield 110, 3) := by decide +kernel
theorem dX7_entryAt_10 : decode cX7_entryAt 10 = .ok (.if_icmp .ge 12, 3) := by decide +kernel
theorem dX7_entryAt_13 : decode cX7_entryAt 13 = .ok (.iload_n 1, 1) := by decide +kernel
theorem dX7_entryAt_14 : decode cX7_entryAt 14 = .ok (.aload_n 0, 1) := by decide +kernel
theorem dX7_entryAt_15 : decode cX7_entryAt 15 = .ok (.getfield 19, 3) := by decide +kernel
theorem dX7_entryAt_18 : decode cX7_entryAt 18 = .ok (.arraylength, 1) := by decide +kernel
theorem dX7_entryAt_19 : decode cX7_entryAt 19 = .ok (.if_icmp .lt 7, 3) := by decide +kernel
theorem dX7_entryAt_22 : decode cX7_entryAt 22 = .ok (.iconst 0, 1) := by decide +kernel
theorem dX7_entryAt_23 : decode cX7_entryAt 23 = .ok (.goto 9, 3) := by decide +kernel
theorem dX7_entryAt_26 : decode cX7_entryAt 26 = .ok (.aload_n 0, 1) := by decide +kernel
theorem dX7_entryAt_27 : decode cX7_entryAt 27 = .ok (.getfield 19, 3) := by decide +kernel
theorem dX7_entryAt_30 : decode cX7_entryAt 30 = .ok (.iload_n 1, 1) := by decide +kernel
theorem dX7_entryAt_31 : decode cX7_entryAt 31 = .ok (.iaload, 1) := by decide +kernel
theorem dX7_entryAt_32 : decode cX7_entryAt 32 = .ok (.ireturn, 1) := by decide +kernel
theorem dX7_entryFits_0 : decode cX7_entryFits 0 = .ok (.aload_n 0, 1) := by decide +kernel
theorem dX7_entryFits_1 : decode cX7_entryFits 1 = .ok (.iconst 1, 1) := by decide +kernel
theorem dX7_entryFits_2 : decode cX7_entryFits 2 = .ok (.invokevirtual 103, 3) := by decide +kernel
theorem dX7_entryFits_5 : decode cX7_entryFits 5 = .ok (.ifCond .ne 5, 3) := by decide +kernel
theorem dX7_entryFits_8 : decode cX7_entryFits 8 = .ok (.iconst 0, 1) := by decide +kernel
theorem dX7_entryFits_9 : decode cX7_entryFits 9 = .ok (.ireturn, 1) := by decide +kernel
theorem dX7_entryFits_10 : decode cX7_entryFits 10 = .ok (.aload_n 0, 1) := by decide +kernel
theorem dX7_entryFits_11 : decode cX7_entryFits 11 = .ok (.aload_n 0, 1) := by decide +kernel
theorem dX7_entryFits_12 : decode cX7_entryFits 12 = .ok (.getfield 44, 3) := by decide +kernel
theorem dX7_entryFits_15 : decode cX7_entryFits 15 = .ok (.invokevirtual 100, 3) := by decide +kernel
theorem dX7_entryFits_18 : decode cX7_entryFits 18 = .ok (.istore_n 1, 1) := by decide +kernel
theorem dX7_entryFits_19 : decode cX7_entryFits 19 = .ok (.iload_n 1, 1) := by decide +kernel
theorem dX7_entryFits_20 : decode cX7_entryFits 20 = .ok (.iconst 1, 1) := by decide +kernel
theorem dX7_entryFits_21 : decode cX7_entryFits 21 = .ok (.if_icmp .ne 8, 3) := by decide +kernel
theorem dX7_entryFits_24 : decode cX7_entryFits 24 = .ok (.aload_n 0, 1) := by decide +kernel
theorem dX7_entryFits_25 : decode cX7_entryFits 25 = .ok (.invokevirtual 125, 3) := by decide +kernel
theorem dX7_entryFits_28 : decode cX7_entryFits 28 = .ok (.ireturn, 1) := by decide +kernel
theorem dX7_entryFits_29 : decode cX7_entryFits 29 = .ok (.aload_n 0, 1) := by decide +kernel
theorem dX7_entryFits_30 : decode cX7_entryFits 30 = .ok (.iload_n 1, 1) := by decide +kernel
theorem dX7_entryFits_31 : decode cX7_entryFits 31 = .ok (.invokevirtual 122, 3) := by decide +kernel
theorem dX7_entryFits_34 : decode cX7_entryFits 34 = .ok (.ifCond .ne 15, 3) := by decide +kernel
theorem dX7_entryFits_37 : decode cX7_entryFits 37 = .ok (.aload_n 0, 1) := by decide +kernel
theorem dX7_entryFits_38 : decode cX7_entryFits 38 = .ok (.iconst 3, 1) := by decide +kernel
theorem dX7_entryFits_39 : decode cX7_entryFits 39 = .ok (.aload_n 0, 1) := by decide +kernel
theorem dX7_entryFits_40 : decode cX7_entryFits 40 = .ok (.getfield 44, 3) := by decide +kernel
theorem dX7_entryFits_43 : decode cX7_entryFits 43 = .ok (.invokevirtual 87, 3) := by decide +kernel
theorem dX7_entryFits_46 : decode cX7_entryFits 46 = .ok (.goto 12, 3) := by decide +kernel
theorem dX7_entryFits_49 : decode cX7_entryFits 49 = .ok (.aload_n 0, 1) := by decide +kernel
theorem dX7_entryFits_50 : decode cX7_entryFits 50 = .ok (.aload_n 0, 1) := by decide +kernel
theorem dX7_entryFits_51 : decode cX7_entryFits 51 = .ok (.iload_n 1, 1) := by decide +kernel
theorem dX7_entryFits_52 : decode cX7_entryFits 52 = .ok (.invokevirtual 122, 3) := by decide +kernel
theorem dX7_entryFits_55 : decode cX7_entryFits 55 = .ok (.invokevirtual 103, 3) := by decide +kernel
theorem dX7_entryFits_58 : decode cX7_entryFits 58 = .ok (.ireturn, 1) := by decide +kernel
theorem dX7_entryLength_0 : decode cX7_entryLength 0 = .ok (.iload_n 1, 1) := by decide +kernel
theorem dX7_entryLength_1 : decode cX7_entryLength 1 = .ok (.tableswitch 83 1 12 #[63, 83, 78, 83, 80, 83, 76, 83, 78, 78, 83, 78], 63) := by decide +kernel
theorem dX7_entryLength_64 : decode cX7_entryLength 64 = .ok (.iconst 3, 1) := by decide +kernel
theorem dX7_entryLength_65 : decode cX7_entryLength 65 = .ok (.aload_n 0, 1) := by decide +kernel
theorem dX7_entryLength_66 : decode cX7_entryLength 66 = .ok (.aload_n 0, 1) := by decide +kernel
theorem dX7_entryLength_67 : decode cX7_entryLength 67 = .ok (.getfield 44, 3) := by decide +kernel
theorem dX7_entryLength_70 : decode cX7_entryLength 70 = .ok (.iconst 1, 1) := by decide +kernel
theorem dX7_entryLength_71 : decode cX7_entryLength 71 = .ok (.iadd, 1) := by decide +kernel
theorem dX7_entryLength_72 : decode cX7_entryLength 72 = .ok (.invokevirtual 107, 3) := by decide +kernel
theorem dX7_entryLength_75 : decode cX7_entryLength 75 = .ok (.iadd, 1) := by decide +kernel
theorem dX7_entryLength_76 : decode cX7_entryLength 76 = .ok (.ireturn, 1) := by decide +kernel
theorem dX7_entryLength_77 : decode cX7_entryLength 77 = .ok (.iconst 3, 1) := by decide +kernel
theorem dX7_entryLength_78 : decode cX7_entryLength 78 = .ok (.ireturn, 1) := by decide +kernel
theorem dX7_entryLength_79 : decode cX7_entryLength 79 = .ok (.iconst 5, 1) := by decide +kernel
theorem dX7_entryLength_80 : decode cX7_entryLength 80 = .ok (.ireturn, 1) := by decide +kernel
theorem dX7_entryLength_81 : decode cX7_entryLength 81 = .ok (.bipush 9, 2) := by decide +kernel
theorem dX7_entryLength_83 : decode cX7_entryLength 83 = .ok (.ireturn, 1) := by decide +kernel
theorem dX7_entryLength_84 : decode cX7_entryLength 84 = .ok (.iconst 0, 1) := by decide +kernel
theorem dX7_entryLength_85 : decode cX7_entryLength 85 = .ok (.ireturn, 1) := by decide +kernel
theorem dX7_entryPoints_0 : decode cX7_entryPoints 0 = .ok (.aload_n 0, 1) := by decide +kernel
theorem dX7_entryPoints_1 : decode cX7_entryPoints 1 = .ok (.iload_n 1, 1) := by decide +kernel
theorem dX7_entryPoints_2 : decode cX7_entryPoints 2 = .ok (.invokevirtual 156, 3) := by decide +kernel
theorem dX7_entryPoints_5 : decode cX7_entryPoints 5 = .ok (.tableswitch 124 7 12 #[39, 124, 90, 90, 124, 58], 39) := by decide +kernel
theorem dX7_entryPoints_44 : decode cX7_entryPoints 44 = .ok (.aload_n 0, 1) := by decide +kernel
theorem dX7_entryPoints_45 : decode cX7_entryPoints 45 = .ok (.aload_n 0, 1) := by decide +kernel
theorem dX7_entryPoints_46 : decode cX7_entryPoints 46 = .ok (.iload_n 1, 1) := by decide +kernel
theorem dX7_entryPoints_47 : decode cX7_entryPoints 47 = .ok (.invokevirtual 159, 3) := by decide +kernel
theorem dX7_entryPoints_50 : decode cX7_entryPoints 50 = .ok (.invokevirtual 156, 3) := by decide +kernel
theorem dX7_entryPoints_53 : decode cX7_entryPoints 53 = .ok (.iconst 1, 1) := by decide +kernel
theorem dX7_entryPoints_54 : decode cX7_entryPoints 54 = .ok (.if_icmp .ne 7, 3) := by decide +kernel
theorem dX7_entryPoints_57 : decode cX7_entryPoints 57 = .ok (.iconst 1, 1) := by decide +kernel
theorem dX7_entryPoints_58 : decode cX7_entryPoints 58 = .ok (.goto 4, 3) := by decide +kernel
theorem dX7_entryPoints_61 : decode cX7_entryPoints 61 = .ok (.iconst 0, 1) := by decide +kernel
theorem dX7_entryPoints_62 : decode cX7_entryPoints 62 = .ok (.ireturn, 1) := by decide +kernel
theorem dX7_entryPoints_63 : decode cX7_entryPoints 63 = .ok (.aload_n 0, 1) := by decide +kernel
theorem dX7_entryPoints_64 : decode cX7_entryPoints 64 = .ok (.aload_n 0, 1) := by decide +kernel
theorem dX7_entryPoints_65 : decode cX7_entryPoints 65 = .ok (.iload_n 1, 1) := by decide +kernel
theorem dX7_entryPoints_66 : decode cX7_entryPoints 66 = .ok (.invokevirtual 159, 3) := by decide +kernel
theorem dX7_entryPoints_69 : decode cX7_entryPoints 69 = .ok (.invokevirtual 156, 3) := by decide +kernel
theorem dX7_entryPoints_72 : decode cX7_entryPoints 72 = .ok (.iconst 1, 1) := by decide +kernel
theorem dX7_entryPoints_73 : decode cX7_entryPoints 73 = .ok (.if_icmp .ne 20, 3) := by decide +kernel
theorem dX7_entryPoints_76 : decode cX7_entryPoints 76 = .ok (.aload_n 0, 1) := by decide +kernel
theorem dX7_entryPoints_77 : decode cX7_entryPoints 77 = .ok (.aload_n 0, 1) := by decide +kernel
theorem dX7_entryPoints_78 : decode cX7_entryPoints 78 = .ok (.iload_n 1, 1) := by decide +kernel
theorem dX7_entryPoints_79 : decode cX7_entryPoints 79 = .ok (.invokevirtual 162, 3) := by decide +kernel
theorem dX7_entryPoints_82 : decode cX7_entryPoints 82 = .ok (.invokevirtual 156, 3) := by decide +kernel
theorem dX7_entryPoints_85 : decode cX7_entryPoints 85 = .ok (.iconst 1, 1) := by decide +kernel
theorem dX7_entryPoints_86 : decode cX7_entryPoints 86 = .ok (.if_icmp .ne 7, 3) := by decide +kernel
theorem dX7_entryPoints_89 : decode cX7_entryPoints 89 = .ok (.iconst 1, 1) := by decide +kernel
theorem dX7_entryPoints_90 : decode cX7_entryPoints 90 = .ok (.goto 4, 3) := by decide +kernel
theorem dX7_entryPoints_93 : decode cX7_entryPoints 93 = .ok (.iconst 0, 1) := by decide +kernel
theorem dX7_entryPoints_94 : decode cX7_entryPoints 94 = .ok (.ireturn, 1) := by decide +kernel
theorem dX7_entryPoints_95 : decode cX7_entryPoints 95 = .ok (.aload_n 0, 1) := by decide +kernel
theorem dX7_entryPoints_96 : decode cX7_entryPoints 96 = .ok (.aload_n 0, 1) := by decide +kernel
theorem dX7_entryPoints_97 : decode cX7_entryPoints 97 = .ok (.iload_n 1, 1) := by decide +kernel
theorem dX7_entryPoints_98 : decode cX7_entryPoints 98 = .ok (.invokevirtual 159, 3) := by decide +kernel
theorem dX7_entryPoints_101 : decode cX7_entryPoints 101 = .ok (.invokevirtual 156, 3) := by decide +kernel
theorem dX7_entryPoints_104 : decode cX7_entryPoints 104 = .ok (.bipush 7, 2) := by decide +kernel
theorem dX7_entryPoints_106 : decode cX7_entryPoints 106 = .ok (.if_icmp .ne 21, 3) := by decide +kernel
theorem dX7_entryPoints_109 : decode cX7_entryPoints 109 = .ok (.aload_n 0, 1) := by decide +kernel
theorem dX7_entryPoints_110 : decode cX7_entryPoints 110 = .ok (.aload_n 0, 1) := by decide +kernel
theorem dX7_entryPoints_111 : decode cX7_entryPoints 111 = .ok (.iload_n 1, 1) := by decide +kernel
theorem dX7_entryPoints_112 : decode cX7_entryPoints 112 = .ok (.invokevirtual 162, 3) := by decide +kernel
theorem dX7_entryPoints_115 : decode cX7_entryPoints 115 = .ok (.invokevirtual 156, 3) := by decide +kernel
theorem dX7_entryPoints_118 : decode cX7_entryPoints 118 = .ok (.bipush 12, 2) := by decide +kernel
theorem dX7_entryPoints_120 : decode cX7_entryPoints 120 = .ok (.if_icmp .ne 7, 3) := by decide +kernel
theorem dX7_entryPoints_123 : decode cX7_entryPoints 123 = .ok (.iconst 1, 1) := by decide +kernel
theorem dX7_entryPoints_124 : decode cX7_entryPoints 124 = .ok (.goto 4, 3) := by decide +kernel
theorem dX7_entryPoints_127 : decode cX7_entryPoints 127 = .ok (.iconst 0, 1) := by decide +kernel
theorem dX7_entryPoints_128 : decode cX7_entryPoints 128 = .ok (.ireturn, 1) := by decide +kernel
theorem dX7_entryPoints_129 : decode cX7_entryPoints 129 = .ok (.iconst 1, 1) := by decide +kernel
theorem dX7_entryPoints_130 : decode cX7_entryPoints 130 = .ok (.ireturn, 1) := by decide +kernel
theorem dX7_fieldsFit_0 : decode cX7_fieldsFit 0 = .ok (.aload_n 0, 1) := by decide +kernel
theorem dX7_fieldsFit_1 : decode cX7_fieldsFit 1 = .ok (.iconst 0, 1) := by decide +kernel
theorem dX7_fieldsFit_2 : decode cX7_fieldsFit 2 = .ok (.putfield 131, 3) := by decide +kernel
theorem dX7_fieldsFit_5 : decode cX7_fieldsFit 5 = .ok (.aload_n 0, 1) := by decide +kernel
theorem dX7_fieldsFit_6 : decode cX7_fieldsFit 6 = .ok (.iconst 0, 1) := by decide +kernel
theorem dX7_fieldsFit_7 : decode cX7_fieldsFit 7 = .ok (.putfield 134, 3) := by decide +kernel
theorem dX7_fieldsFit_10 : decode cX7_fieldsFit 10 = .ok (.aload_n 0, 1) := by decide +kernel
theorem dX7_fieldsFit_11 : decode cX7_fieldsFit 11 = .ok (.aload_n 0, 1) := by decide +kernel
theorem dX7_fieldsFit_12 : decode cX7_fieldsFit 12 = .ok (.iconst 0, 1) := by decide +kernel
theorem dX7_fieldsFit_13 : decode cX7_fieldsFit 13 = .ok (.invokevirtual 137, 3) := by decide +kernel
theorem dX7_fieldsFit_16 : decode cX7_fieldsFit 16 = .ok (.putfield 134, 3) := by decide +kernel
theorem dX7_fieldsFit_19 : decode cX7_fieldsFit 19 = .ok (.aload_n 0, 1) := by decide +kernel
theorem dX7_fieldsFit_20 : decode cX7_fieldsFit 20 = .ok (.getfield 134, 3) := by decide +kernel
theorem dX7_fieldsFit_23 : decode cX7_fieldsFit 23 = .ok (.ifCond .lt 7, 3) := by decide +kernel
theorem dX7_fieldsFit_26 : decode cX7_fieldsFit 26 = .ok (.iconst 1, 1) := by decide +kernel
theorem dX7_fieldsFit_27 : decode cX7_fieldsFit 27 = .ok (.goto 4, 3) := by decide +kernel
theorem dX7_fieldsFit_30 : decode cX7_fieldsFit 30 = .ok (.iconst 0, 1) := by decide +kernel
theorem dX7_fieldsFit_31 : decode cX7_fieldsFit 31 = .ok (.ireturn, 1) := by decide +kernel
theorem dX7_fileAttributesFit_0 : decode cX7_fileAttributesFit 0 = .ok (.aload_n 0, 1) := by decide +kernel
theorem dX7_fileAttributesFit_1 : decode cX7_fileAttributesFit 1 = .ok (.aload_n 0, 1) := by decide +kernel
theorem dX7_fileAttributesFit_2 : decode cX7_fileAttributesFit 2 = .ok (.getfield 44, 3) := by decide +kernel
theorem dX7_fileAttributesFit_5 : decode cX7_fileAttributesFit 5 = .ok (.putfield 143, 3) := by decide +kernel
theorem dX7_fileAttributesFit_8 : decode cX7_fileAttributesFit 8 = .ok (.aload_n 0, 1) := by decide +kernel
theorem dX7_fileAttributesFit_9 : decode cX7_fileAttributesFit 9 = .ok (.invokevirtual 140, 3) := by decide +kernel
theorem dX7_fileAttributesFit_12 : decode cX7_fileAttributesFit 12 = .ok (.ireturn, 1) := by decide +kernel
theorem dX7_firstOf_0 : decode cX7_firstOf 0 = .ok (.aload_n 0, 1) := by decide +kernel
theorem dX7_firstOf_1 : decode cX7_firstOf 1 = .ok (.aload_n 0, 1) := by decide +kernel
theorem dX7_firstOf_2 : decode cX7_firstOf 2 = .ok (.iload_n 1, 1) := by decide +kernel
theorem dX7_firstOf_3 : decode cX7_firstOf 3 = .ok (.invokevirtual 150, 3) := by decide +kernel
theorem dX7_firstOf_6 : decode cX7_firstOf 6 = .ok (.iconst 1, 1) := by decide +kernel
theorem dX7_firstOf_7 : decode cX7_firstOf 7 = .ok (.iadd, 1) := by decide +kernel
theorem dX7_firstOf_8 : decode cX7_firstOf 8 = .ok (.invokevirtual 107, 3) := by decide +kernel
theorem dX7_firstOf_11 : decode cX7_firstOf 11 = .ok (.ireturn, 1) := by decide +kernel
theorem dX7_flagsHold_0 : decode cX7_flagsHold 0 = .ok (.aload_n 0, 1) := by decide +kernel
theorem dX7_flagsHold_1 : decode cX7_flagsHold 1 = .ok (.aload_n 0, 1) := by decide +kernel
theorem dX7_flagsHold_2 : decode cX7_flagsHold 2 = .ok (.getfield 128, 3) := by decide +kernel
theorem dX7_flagsHold_5 : decode cX7_flagsHold 5 = .ok (.invokevirtual 107, 3) := by decide +kernel
theorem dX7_flagsHold_8 : decode cX7_flagsHold 8 = .ok (.bipush 33, 2) := by decide +kernel
theorem dX7_flagsHold_10 : decode cX7_flagsHold 10 = .ok (.if_icmp .eq 14, 3) := by decide +kernel
theorem dX7_flagsHold_13 : decode cX7_flagsHold 13 = .ok (.aload_n 0, 1) := by decide +kernel
theorem dX7_flagsHold_14 : decode cX7_flagsHold 14 = .ok (.bipush 7, 2) := by decide +kernel
theorem dX7_flagsHold_16 : decode cX7_flagsHold 16 = .ok (.aload_n 0, 1) := by decide +kernel
theorem dX7_flagsHold_17 : decode cX7_flagsHold 17 = .ok (.getfield 128, 3) := by decide +kernel
theorem dX7_flagsHold_20 : decode cX7_flagsHold 20 = .ok (.invokevirtual 87, 3) := by decide +kernel
theorem dX7_flagsHold_23 : decode cX7_flagsHold 23 = .ok (.ireturn, 1) := by decide +kernel
theorem dX7_flagsHold_24 : decode cX7_flagsHold 24 = .ok (.iconst 0, 1) := by decide +kernel
theorem dX7_flagsHold_25 : decode cX7_flagsHold 25 = .ok (.istore_n 1, 1) := by decide +kernel
theorem dX7_flagsHold_26 : decode cX7_flagsHold 26 = .ok (.iload_n 1, 1) := by decide +kernel
theorem dX7_flagsHold_27 : decode cX7_flagsHold 27 = .ok (.aload_n 0, 1) := by decide +kernel
theorem dX7_flagsHold_28 : decode cX7_flagsHold 28 = .ok (.getfield 134, 3) := by decide +kernel
theorem dX7_flagsHold_31 : decode cX7_flagsHold 31 = .ok (.aload_n 0, 1) := by decide +kernel
theorem dX7_flagsHold_32 : decode cX7_flagsHold 32 = .ok (.getfield 131, 3) := by decide +kernel
theorem dX7_flagsHold_35 : decode cX7_flagsHold 35 = .ok (.iadd, 1) := by decide +kernel
theorem dX7_flagsHold_36 : decode cX7_flagsHold 36 = .ok (.if_icmp .ge 35, 3) := by decide +kernel
theorem dX7_flagsHold_39 : decode cX7_flagsHold 39 = .ok (.aload_n 0, 1) := by decide +kernel
theorem dX7_flagsHold_40 : decode cX7_flagsHold 40 = .ok (.aload_n 0, 1) := by decide +kernel
theorem dX7_flagsHold_41 : decode cX7_flagsHold 41 = .ok (.iload_n 1, 1) := by decide +kernel
theorem dX7_flagsHold_42 : decode cX7_flagsHold 42 = .ok (.invokevirtual 165, 3) := by decide +kernel
theorem dX7_flagsHold_45 : decode cX7_flagsHold 45 = .ok (.invokevirtual 107, 3) := by decide +kernel
theorem dX7_flagsHold_48 : decode cX7_flagsHold 48 = .ok (.bipush 9, 2) := by decide +kernel
theorem dX7_flagsHold_50 : decode cX7_flagsHold 50 = .ok (.if_icmp .eq 15, 3) := by decide +kernel
theorem dX7_flagsHold_53 : decode cX7_flagsHold 53 = .ok (.aload_n 0, 1) := by decide +kernel
theorem dX7_flagsHold_54 : decode cX7_flagsHold 54 = .ok (.bipush 7, 2) := by decide +kernel
theorem dX7_flagsHold_56 : decode cX7_flagsHold 56 = .ok (.aload_n 0, 1) := by decide +kernel
theorem dX7_flagsHold_57 : decode cX7_flagsHold 57 = .ok (.iload_n 1, 1) := by decide +kernel
theorem dX7_flagsHold_58 : decode cX7_flagsHold 58 = .ok (.invokevirtual 165, 3) := by decide +kernel
theorem dX7_flagsHold_61 : decode cX7_flagsHold 61 = .ok (.invokevirtual 87, 3) := by decide +kernel
theorem dX7_flagsHold_64 : decode cX7_flagsHold 64 = .ok (.ireturn, 1) := by decide +kernel
theorem dX7_flagsHold_65 : decode cX7_flagsHold 65 = .ok (.iinc 1 1, 3) := by decide +kernel
theorem dX7_flagsHold_68 : decode cX7_flagsHold 68 = .ok (.goto (-42), 3) := by decide +kernel
theorem dX7_flagsHold_71 : decode cX7_flagsHold 71 = .ok (.iconst 1, 1) := by decide +kernel
theorem dX7_flagsHold_72 : decode cX7_flagsHold 72 = .ok (.ireturn, 1) := by decide +kernel
theorem dX7_headFits_0 : decode cX7_headFits 0 = .ok (.aload_n 0, 1) := by decide +kernel
theorem dX7_headFits_1 : decode cX7_headFits 1 = .ok (.aload_n 0, 1) := by decide +kernel
theorem dX7_headFits_2 : decode cX7_headFits 2 = .ok (.getfield 44, 3) := by decide +kernel
theorem dX7_headFits_5 : decode cX7_headFits 5 = .ok (.putfield 128, 3) := by decide +kernel
theorem dX7_headFits_8 : decode cX7_headFits 8 = .ok (.aload_n 0, 1) := by decide +kernel
theorem dX7_headFits_9 : decode cX7_headFits 9 = .ok (.bipush 8, 2) := by decide +kernel
theorem dX7_headFits_11 : decode cX7_headFits 11 = .ok (.invokevirtual 103, 3) := by decide +kernel
theorem dX7_headFits_14 : decode cX7_headFits 14 = .ok (.ifCond .ne 5, 3) := by decide +kernel
theorem dX7_headFits_17 : decode cX7_headFits 17 = .ok (.iconst 0, 1) := by decide +kernel
theorem dX7_headFits_18 : decode cX7_headFits 18 = .ok (.ireturn, 1) := by decide +kernel
theorem dX7_headFits_19 : decode cX7_headFits 19 = .ok (.aload_n 0, 1) := by decide +kernel
theorem dX7_headFits_20 : decode cX7_headFits 20 = .ok (.dup, 1) := by decide +kernel
theorem dX7_headFits_21 : decode cX7_headFits 21 = .ok (.getfield 44, 3) := by decide +kernel
theorem dX7_headFits_24 : decode cX7_headFits 24 = .ok (.bipush 8, 2) := by decide +kernel
theorem dX7_headFits_26 : decode cX7_headFits 26 = .ok (.iadd, 1) := by decide +kernel
theorem dX7_headFits_27 : decode cX7_headFits 27 = .ok (.putfield 44, 3) := by decide +kernel
theorem dX7_headFits_30 : decode cX7_headFits 30 = .ok (.iconst 1, 1) := by decide +kernel
theorem dX7_headFits_31 : decode cX7_headFits 31 = .ok (.ireturn, 1) := by decide +kernel
theorem dX7_headHolds_0 : decode cX7_headHolds 0 = .ok (.aload_n 0, 1) := by decide +kernel
theorem dX7_headHolds_1 : decode cX7_headHolds 1 = .ok (.aload_n 0, 1) := by decide +kernel
theorem dX7_headHolds_2 : decode cX7_headHolds 2 = .ok (.aload_n 0, 1) := by decide +kernel
theorem dX7_headHolds_3 : decode cX7_headHolds 3 = .ok (.getfield 128, 3) := by decide +kernel
theorem dX7_headHolds_6 : decode cX7_headHolds 6 = .ok (.iconst 2, 1) := by decide +kernel
theorem dX7_headHolds_7 : decode cX7_headHolds 7 = .ok (.iadd, 1) := by decide +kernel
theorem dX7_headHolds_8 : decode cX7_headHolds 8 = .ok (.invokevirtual 107, 3) := by decide +kernel
theorem dX7_headHolds_11 : decode cX7_headHolds 11 = .ok (.invokevirtual 156, 3) := by decide +kernel
theorem dX7_headHolds_14 : decode cX7_headHolds 14 = .ok (.bipush 7, 2) := by decide +kernel
theorem dX7_headHolds_16 : decode cX7_headHolds 16 = .ok (.if_icmp .eq 16, 3) := by decide +kernel
theorem dX7_headHolds_19 : decode cX7_headHolds 19 = .ok (.aload_n 0, 1) := by decide +kernel
theorem dX7_headHolds_20 : decode cX7_headHolds 20 = .ok (.bipush 8, 2) := by decide +kernel
theorem dX7_headHolds_22 : decode cX7_headHolds 22 = .ok (.aload_n 0, 1) := by decide +kernel
theorem dX7_headHolds_23 : decode cX7_headHolds 23 = .ok (.getfield 128, 3) := by decide +kernel
theorem dX7_headHolds_26 : decode cX7_headHolds 26 = .ok (.iconst 2, 1) := by decide +kernel
theorem dX7_headHolds_27 : decode cX7_headHolds 27 = .ok (.iadd, 1) := by decide +kernel
theorem dX7_headHolds_28 : decode cX7_headHolds 28 = .ok (.invokevirtual 87, 3) := by decide +kernel
theorem dX7_headHolds_31 : decode cX7_headHolds 31 = .ok (.ireturn, 1) := by decide +kernel
theorem dX7_headHolds_32 : decode cX7_headHolds 32 = .ok (.aload_n 0, 1) := by decide +kernel
theorem dX7_headHolds_33 : decode cX7_headHolds 33 = .ok (.aload_n 0, 1) := by decide +kernel
theorem dX7_headHolds_34 : decode cX7_headHolds 34 = .ok (.aload_n 0, 1) := by decide +kernel
theorem dX7_headHolds_35 : decode cX7_headHolds 35 = .ok (.getfield 128, 3) := by decide +kernel
theorem dX7_headHolds_38 : decode cX7_headHolds 38 = .ok (.iconst 4, 1) := by decide +kernel
theorem dX7_headHolds_39 : decode cX7_headHolds 39 = .ok (.iadd, 1) := by decide +kernel
theorem dX7_headHolds_40 : decode cX7_headHolds 40 = .ok (.invokevirtual 107, 3) := by decide +kernel
theorem dX7_headHolds_43 : decode cX7_headHolds 43 = .ok (.invokevirtual 156, 3) := by decide +kernel
theorem dX7_headHolds_46 : decode cX7_headHolds 46 = .ok (.bipush 7, 2) := by decide +kernel
theorem dX7_headHolds_48 : decode cX7_headHolds 48 = .ok (.if_icmp .eq 16, 3) := by decide +kernel
theorem dX7_headHolds_51 : decode cX7_headHolds 51 = .ok (.aload_n 0, 1) := by decide +kernel
theorem dX7_headHolds_52 : decode cX7_headHolds 52 = .ok (.bipush 8, 2) := by decide +kernel
theorem dX7_headHolds_54 : decode cX7_headHolds 54 = .ok (.aload_n 0, 1) := by decide +kernel
theorem dX7_headHolds_55 : decode cX7_headHolds 55 = .ok (.getfield 128, 3) := by decide +kernel
theorem dX7_headHolds_58 : decode cX7_headHolds 58 = .ok (.iconst 4, 1) := by decide +kernel
theorem dX7_headHolds_59 : decode cX7_headHolds 59 = .ok (.iadd, 1) := by decide +kernel
theorem dX7_headHolds_60 : decode cX7_headHolds 60 = .ok (.invokevirtual 87, 3) := by decide +kernel
theorem dX7_headHolds_63 : decode cX7_headHolds 63 = .ok (.ireturn, 1) := by decide +kernel
theorem dX7_headHolds_64 : decode cX7_headHolds 64 = .ok (.aload_n 0, 1) := by decide +kernel
theorem dX7_headHolds_65 : decode cX7_headHolds 65 = .ok (.aload_n 0, 1) := by decide +kernel
theorem dX7_headHolds_66 : decode cX7_headHolds 66 = .ok (.getfield 128, 3) := by decide +kernel
theorem dX7_headHolds_69 : decode cX7_headHolds 69 = .ok (.bipush 6, 2) := by decide +kernel
theorem dX7_headHolds_71 : decode cX7_headHolds 71 = .ok (.iadd, 1) := by decide +kernel
theorem dX7_headHolds_72 : decode cX7_headHolds 72 = .ok (.invokevirtual 107, 3) := by decide +kernel
theorem dX7_headHolds_75 : decode cX7_headHolds 75 = .ok (.ifCond .eq 19, 3) := by decide +kernel
theorem dX7_headHolds_78 : decode cX7_headHolds 78 = .ok (.aload_n 0, 1) := by decide +kernel
theorem dX7_headHolds_79 : decode cX7_headHolds 79 = .ok (.bipush 8, 2) := by decide +kernel
theorem dX7_headHolds_81 : decode cX7_headHolds 81 = .ok (.aload_n 0, 1) := by decide +kernel
theorem dX7_headHolds_82 : decode cX7_headHolds 82 = .ok (.getfield 128, 3) := by decide +kernel
theorem dX7_headHolds_85 : decode cX7_headHolds 85 = .ok (.bipush 6, 2) := by decide +kernel
theorem dX7_headHolds_87 : decode cX7_headHolds 87 = .ok (.iadd, 1) := by decide +kernel
theorem dX7_headHolds_88 : decode cX7_headHolds 88 = .ok (.invokevirtual 87, 3) := by decide +kernel
theorem dX7_headHolds_91 : decode cX7_headHolds 91 = .ok (.ifCond .eq 7, 3) := by decide +kernel
theorem dX7_headHolds_94 : decode cX7_headHolds 94 = .ok (.iconst 1, 1) := by decide +kernel
theorem dX7_headHolds_95 : decode cX7_headHolds 95 = .ok (.goto 4, 3) := by decide +kernel
theorem dX7_headHolds_98 : decode cX7_headHolds 98 = .ok (.iconst 0, 1) := by decide +kernel
theorem dX7_headHolds_99 : decode cX7_headHolds 99 = .ok (.ireturn, 1) := by decide +kernel
theorem dX7_init_0 : decode cX7_init 0 = .ok (.aload_n 0, 1) := by decide +kernel
theorem dX7_init_1 : decode cX7_init 1 = .ok (.invokespecial 3, 3) := by decide +kernel
theorem dX7_init_4 : decode cX7_init 4 = .ok (.aload_n 0, 1) := by decide +kernel
theorem dX7_init_5 : decode cX7_init 5 = .ok (.iconst 0, 1) := by decide +kernel
theorem dX7_init_6 : decode cX7_init 6 = .ok (.newarray .byte, 2) := by decide +kernel
theorem dX7_init_8 : decode cX7_init 8 = .ok (.putfield 9, 3) := by decide +kernel
theorem dX7_init_11 : decode cX7_init 11 = .ok (.aload_n 0, 1) := by decide +kernel
theorem dX7_init_12 : decode cX7_init 12 = .ok (.iconst (-1), 1) := by decide +kernel
theorem dX7_init_13 : decode cX7_init 13 = .ok (.putfield 15, 3) := by decide +kernel
theorem dX7_init_16 : decode cX7_init 16 = .ok (.aload_n 0, 1) := by decide +kernel
theorem dX7_init_17 : decode cX7_init 17 = .ok (.sipush 500, 3) := by decide +kernel
theorem dX7_init_20 : decode cX7_init 20 = .ok (.newarray .int, 2) := by decide +kernel
theorem dX7_init_22 : decode cX7_init 22 = .ok (.putfield 19, 3) := by decide +kernel
theorem dX7_init_25 : decode cX7_init 25 = .ok (.aload_n 0, 1) := by decide +kernel
theorem dX7_init_26 : decode cX7_init 26 = .ok (.bipush 48, 2) := by decide +kernel
theorem dX7_init_28 : decode cX7_init 28 = .ok (.newarray .int, 2) := by decide +kernel
theorem dX7_init_30 : decode cX7_init 30 = .ok (.putfield 23, 3) := by decide +kernel
theorem dX7_init_33 : decode cX7_init 33 = .ok (.aload_n 0, 1) := by decide +kernel
theorem dX7_init_34 : decode cX7_init 34 = .ok (.bipush 24, 2) := by decide +kernel
theorem dX7_init_36 : decode cX7_init 36 = .ok (.newarray .int, 2) := by decide +kernel
theorem dX7_init_38 : decode cX7_init 38 = .ok (.putfield 26, 3) := by decide +kernel
theorem dX7_init_41 : decode cX7_init 41 = .ok (.aload_n 0, 1) := by decide +kernel
theorem dX7_init_42 : decode cX7_init 42 = .ok (.bipush 24, 2) := by decide +kernel
theorem dX7_init_44 : decode cX7_init 44 = .ok (.newarray .int, 2) := by decide +kernel
theorem dX7_init_46 : decode cX7_init 46 = .ok (.putfield 29, 3) := by decide +kernel
theorem dX7_init_49 : decode cX7_init 49 = .ok (.return_, 1) := by decide +kernel
theorem dX7_isMethodType_0 : decode cX7_isMethodType 0 = .ok (.aload_n 0, 1) := by decide +kernel
theorem dX7_isMethodType_1 : decode cX7_isMethodType 1 = .ok (.iconst 0, 1) := by decide +kernel
theorem dX7_isMethodType_2 : decode cX7_isMethodType 2 = .ok (.putfield 196, 3) := by decide +kernel
theorem dX7_isMethodType_5 : decode cX7_isMethodType 5 = .ok (.aload_n 0, 1) := by decide +kernel
theorem dX7_isMethodType_6 : decode cX7_isMethodType 6 = .ok (.iconst 0, 1) := by decide +kernel
theorem dX7_isMethodType_7 : decode cX7_isMethodType 7 = .ok (.putfield 183, 3) := by decide +kernel
theorem dX7_isMethodType_10 : decode cX7_isMethodType 10 = .ok (.aload_n 0, 1) := by decide +kernel
theorem dX7_isMethodType_11 : decode cX7_isMethodType 11 = .ok (.iconst 0, 1) := by decide +kernel
theorem dX7_isMethodType_12 : decode cX7_isMethodType 12 = .ok (.putfield 199, 3) := by decide +kernel
theorem dX7_isMethodType_15 : decode cX7_isMethodType 15 = .ok (.aload_n 0, 1) := by decide +kernel
theorem dX7_isMethodType_16 : decode cX7_isMethodType 16 = .ok (.iload_n 1, 1) := by decide +kernel
theorem dX7_isMethodType_17 : decode cX7_isMethodType 17 = .ok (.invokevirtual 190, 3) := by decide +kernel
theorem dX7_isMethodType_20 : decode cX7_isMethodType 20 = .ok (.istore_n 2, 1) := by decide +kernel
theorem dX7_isMethodType_21 : decode cX7_isMethodType 21 = .ok (.aload_n 0, 1) := by decide +kernel
theorem dX7_isMethodType_22 : decode cX7_isMethodType 22 = .ok (.iload_n 1, 1) := by decide +kernel
theorem dX7_isMethodType_23 : decode cX7_isMethodType 23 = .ok (.iconst 0, 1) := by decide +kernel
theorem dX7_isMethodType_24 : decode cX7_isMethodType 24 = .ok (.invokevirtual 193, 3) := by decide +kernel
theorem dX7_isMethodType_27 : decode cX7_isMethodType 27 = .ok (.bipush 40, 2) := by decide +kernel
theorem dX7_isMethodType_29 : decode cX7_isMethodType 29 = .ok (.if_icmp .eq 5, 3) := by decide +kernel
theorem dX7_isMethodType_32 : decode cX7_isMethodType 32 = .ok (.iconst 0, 1) := by decide +kernel
theorem dX7_isMethodType_33 : decode cX7_isMethodType 33 = .ok (.ireturn, 1) := by decide +kernel
theorem dX7_isMethodType_34 : decode cX7_isMethodType 34 = .ok (.iconst 1, 1) := by decide +kernel
theorem dX7_isMethodType_35 : decode cX7_isMethodType 35 = .ok (.istore_n 3, 1) := by decide +kernel
theorem dX7_isMethodType_36 : decode cX7_isMethodType 36 = .ok (.aload_n 0, 1) := by decide +kernel
theorem dX7_isMethodType_37 : decode cX7_isMethodType 37 = .ok (.iload_n 1, 1) := by decide +kernel
theorem dX7_isMethodType_38 : decode cX7_isMethodType 38 = .ok (.iload_n 3, 1) := by decide +kernel
theorem dX7_isMethodType_39 : decode cX7_isMethodType 39 = .ok (.invokevirtual 186, 3) := by decide +kernel
theorem dX7_isMethodType_42 : decode cX7_isMethodType 42 = .ok (.istore 4, 2) := by decide +kernel
theorem dX7_isMethodType_44 : decode cX7_isMethodType 44 = .ok (.iload 4, 2) := by decide +kernel
theorem dX7_isMethodType_46 : decode cX7_isMethodType 46 = .ok (.ifCond .eq 66, 3) := by decide +kernel
theorem dX7_isMethodType_49 : decode cX7_isMethodType 49 = .ok (.iload_n 3, 1) := by decide +kernel
theorem dX7_isMethodType_50 : decode cX7_isMethodType 50 = .ok (.iload_n 2, 1) := by decide +kernel
theorem dX7_isMethodType_51 : decode cX7_isMethodType 51 = .ok (.if_icmp .ge 61, 3) := by decide +kernel
theorem dX7_isMethodType_54 : decode cX7_isMethodType 54 = .ok (.aload_n 0, 1) := by decide +kernel
theorem dX7_isMethodType_55 : decode cX7_isMethodType 55 = .ok (.aload_n 0, 1) := by decide +kernel
theorem dX7_isMethodType_56 : decode cX7_isMethodType 56 = .ok (.getfield 196, 3) := by decide +kernel
theorem dX7_isMethodType_59 : decode cX7_isMethodType 59 = .ok (.iconst 4, 1) := by decide +kernel
theorem dX7_isMethodType_60 : decode cX7_isMethodType 60 = .ok (.ishl, 1) := by decide +kernel
theorem dX7_isMethodType_61 : decode cX7_isMethodType 61 = .ok (.iload 4, 2) := by decide +kernel
theorem dX7_isMethodType_63 : decode cX7_isMethodType 63 = .ok (.ior, 1) := by decide +kernel
theorem dX7_isMethodType_64 : decode cX7_isMethodType 64 = .ok (.putfield 196, 3) := by decide +kernel
theorem dX7_isMethodType_67 : decode cX7_isMethodType 67 = .ok (.aload_n 0, 1) := by decide +kernel
theorem dX7_isMethodType_68 : decode cX7_isMethodType 68 = .ok (.dup, 1) := by decide +kernel
theorem dX7_isMethodType_69 : decode cX7_isMethodType 69 = .ok (.getfield 183, 3) := by decide +kernel
theorem dX7_isMethodType_72 : decode cX7_isMethodType 72 = .ok (.iload 4, 2) := by decide +kernel
theorem dX7_isMethodType_74 : decode cX7_isMethodType 74 = .ok (.iconst 2, 1) := by decide +kernel
theorem dX7_isMethodType_75 : decode cX7_isMethodType 75 = .ok (.if_icmp .ne 7, 3) := by decide +kernel
theorem dX7_isMethodType_78 : decode cX7_isMethodType 78 = .ok (.iconst 2, 1) := by decide +kernel
theorem dX7_isMethodType_79 : decode cX7_isMethodType 79 = .ok (.goto 4, 3) := by decide +kernel
theorem dX7_isMethodType_82 : decode cX7_isMethodType 82 = .ok (.iconst 1, 1) := by decide +kernel
theorem dX7_isMethodType_83 : decode cX7_isMethodType 83 = .ok (.iadd, 1) := by decide +kernel
theorem dX7_isMethodType_84 : decode cX7_isMethodType 84 = .ok (.putfield 183, 3) := by decide +kernel
theorem dX7_isMethodType_87 : decode cX7_isMethodType 87 = .ok (.iload_n 3, 1) := by decide +kernel
theorem dX7_isMethodType_88 : decode cX7_isMethodType 88 = .ok (.iload 4, 2) := by decide +kernel
theorem dX7_isMethodType_90 : decode cX7_isMethodType 90 = .ok (.iconst 3, 1) := by decide +kernel
theorem dX7_isMethodType_91 : decode cX7_isMethodType 91 = .ok (.if_icmp .ne 7, 3) := by decide +kernel
theorem dX7_isMethodType_94 : decode cX7_isMethodType 94 = .ok (.iconst 2, 1) := by decide +kernel
theorem dX7_isMethodType_95 : decode cX7_isMethodType 95 = .ok (.goto 4, 3) := by decide +kernel
theorem dX7_isMethodType_98 : decode cX7_isMethodType 98 = .ok (.iconst 1, 1) := by decide +kernel
theorem dX7_isMethodType_99 : decode cX7_isMethodType 99 = .ok (.iadd, 1) := by decide +kernel
theorem dX7_isMethodType_100 : decode cX7_isMethodType 100 = .ok (.istore_n 3, 1) := by decide +kernel
theorem dX7_isMethodType_101 : decode cX7_isMethodType 101 = .ok (.aload_n 0, 1) := by decide +kernel
theorem dX7_isMethodType_102 : decode cX7_isMethodType 102 = .ok (.iload_n 1, 1) := by decide +kernel
theorem dX7_isMethodType_103 : decode cX7_isMethodType 103 = .ok (.iload_n 3, 1) := by decide +kernel
theorem dX7_isMethodType_104 : decode cX7_isMethodType 104 = .ok (.invokevirtual 186, 3) := by decide +kernel
theorem dX7_isMethodType_107 : decode cX7_isMethodType 107 = .ok (.istore 4, 2) := by decide +kernel
theorem dX7_isMethodType_109 : decode cX7_isMethodType 109 = .ok (.goto (-65), 3) := by decide +kernel
theorem dX7_isMethodType_112 : decode cX7_isMethodType 112 = .ok (.iload_n 3, 1) := by decide +kernel
theorem dX7_isMethodType_113 : decode cX7_isMethodType 113 = .ok (.iconst 1, 1) := by decide +kernel
theorem dX7_isMethodType_114 : decode cX7_isMethodType 114 = .ok (.iadd, 1) := by decide +kernel
theorem dX7_isMethodType_115 : decode cX7_isMethodType 115 = .ok (.iload_n 2, 1) := by decide +kernel
theorem dX7_isMethodType_116 : decode cX7_isMethodType 116 = .ok (.if_icmp .ge 14, 3) := by decide +kernel
theorem dX7_isMethodType_119 : decode cX7_isMethodType 119 = .ok (.aload_n 0, 1) := by decide +kernel
theorem dX7_isMethodType_120 : decode cX7_isMethodType 120 = .ok (.iload_n 1, 1) := by decide +kernel
theorem dX7_isMethodType_121 : decode cX7_isMethodType 121 = .ok (.iload_n 3, 1) := by decide +kernel
theorem dX7_isMethodType_122 : decode cX7_isMethodType 122 = .ok (.invokevirtual 193, 3) := by decide +kernel
theorem dX7_isMethodType_125 : decode cX7_isMethodType 125 = .ok (.bipush 41, 2) := by decide +kernel
theorem dX7_isMethodType_127 : decode cX7_isMethodType 127 = .ok (.if_icmp .eq 5, 3) := by decide +kernel
theorem dX7_isMethodType_130 : decode cX7_isMethodType 130 = .ok (.iconst 0, 1) := by decide +kernel
theorem dX7_isMethodType_131 : decode cX7_isMethodType 131 = .ok (.ireturn, 1) := by decide +kernel
theorem dX7_isMethodType_132 : decode cX7_isMethodType 132 = .ok (.iinc 3 1, 3) := by decide +kernel
theorem dX7_isMethodType_135 : decode cX7_isMethodType 135 = .ok (.aload_n 0, 1) := by decide +kernel
theorem dX7_isMethodType_136 : decode cX7_isMethodType 136 = .ok (.aload_n 0, 1) := by decide +kernel
theorem dX7_isMethodType_137 : decode cX7_isMethodType 137 = .ok (.iload_n 1, 1) := by decide +kernel
theorem dX7_isMethodType_138 : decode cX7_isMethodType 138 = .ok (.iload_n 3, 1) := by decide +kernel
theorem dX7_isMethodType_139 : decode cX7_isMethodType 139 = .ok (.invokevirtual 186, 3) := by decide +kernel
theorem dX7_isMethodType_142 : decode cX7_isMethodType 142 = .ok (.putfield 199, 3) := by decide +kernel
theorem dX7_isMethodType_145 : decode cX7_isMethodType 145 = .ok (.aload_n 0, 1) := by decide +kernel
theorem dX7_isMethodType_146 : decode cX7_isMethodType 146 = .ok (.getfield 199, 3) := by decide +kernel
theorem dX7_isMethodType_149 : decode cX7_isMethodType 149 = .ok (.ifCond .ne 16, 3) := by decide +kernel
theorem dX7_isMethodType_152 : decode cX7_isMethodType 152 = .ok (.aload_n 0, 1) := by decide +kernel
theorem dX7_isMethodType_153 : decode cX7_isMethodType 153 = .ok (.iload_n 1, 1) := by decide +kernel
theorem dX7_isMethodType_154 : decode cX7_isMethodType 154 = .ok (.iload_n 3, 1) := by decide +kernel
theorem dX7_isMethodType_155 : decode cX7_isMethodType 155 = .ok (.invokevirtual 193, 3) := by decide +kernel
theorem dX7_isMethodType_158 : decode cX7_isMethodType 158 = .ok (.bipush 86, 2) := by decide +kernel
theorem dX7_isMethodType_160 : decode cX7_isMethodType 160 = .ok (.if_icmp .eq 5, 3) := by decide +kernel
theorem dX7_isMethodType_163 : decode cX7_isMethodType 163 = .ok (.iconst 0, 1) := by decide +kernel
theorem dX7_isMethodType_164 : decode cX7_isMethodType 164 = .ok (.ireturn, 1) := by decide +kernel
theorem dX7_isMethodType_165 : decode cX7_isMethodType 165 = .ok (.iload_n 3, 1) := by decide +kernel
theorem dX7_isMethodType_166 : decode cX7_isMethodType 166 = .ok (.aload_n 0, 1) := by decide +kernel
theorem dX7_isMethodType_167 : decode cX7_isMethodType 167 = .ok (.getfield 199, 3) := by decide +kernel
theorem dX7_isMethodType_170 : decode cX7_isMethodType 170 = .ok (.iconst 3, 1) := by decide +kernel
theorem dX7_isMethodType_171 : decode cX7_isMethodType 171 = .ok (.if_icmp .ne 7, 3) := by decide +kernel
theorem dX7_isMethodType_174 : decode cX7_isMethodType 174 = .ok (.iconst 2, 1) := by decide +kernel
theorem dX7_isMethodType_175 : decode cX7_isMethodType 175 = .ok (.goto 4, 3) := by decide +kernel
theorem dX7_isMethodType_178 : decode cX7_isMethodType 178 = .ok (.iconst 1, 1) := by decide +kernel
theorem dX7_isMethodType_179 : decode cX7_isMethodType 179 = .ok (.iadd, 1) := by decide +kernel
theorem dX7_isMethodType_180 : decode cX7_isMethodType 180 = .ok (.iload_n 2, 1) := by decide +kernel
theorem dX7_isMethodType_181 : decode cX7_isMethodType 181 = .ok (.if_icmp .ne 7, 3) := by decide +kernel
theorem dX7_isMethodType_184 : decode cX7_isMethodType 184 = .ok (.iconst 1, 1) := by decide +kernel
theorem dX7_isMethodType_185 : decode cX7_isMethodType 185 = .ok (.goto 4, 3) := by decide +kernel
theorem dX7_isMethodType_188 : decode cX7_isMethodType 188 = .ok (.iconst 0, 1) := by decide +kernel
theorem dX7_isMethodType_189 : decode cX7_isMethodType 189 = .ok (.ireturn, 1) := by decide +kernel
theorem dX7_isNameAt_0 : decode cX7_isNameAt 0 = .ok (.aload_n 0, 1) := by decide +kernel
theorem dX7_isNameAt_1 : decode cX7_isNameAt 1 = .ok (.aload_n 0, 1) := by decide +kernel
theorem dX7_isNameAt_2 : decode cX7_isNameAt 2 = .ok (.iload_n 1, 1) := by decide +kernel
theorem dX7_isNameAt_3 : decode cX7_isNameAt 3 = .ok (.invokevirtual 107, 3) := by decide +kernel
theorem dX7_isNameAt_6 : decode cX7_isNameAt 6 = .ok (.invokevirtual 156, 3) := by decide +kernel
theorem dX7_isNameAt_9 : decode cX7_isNameAt 9 = .ok (.iconst 1, 1) := by decide +kernel
theorem dX7_isNameAt_10 : decode cX7_isNameAt 10 = .ok (.if_icmp .eq 13, 3) := by decide +kernel
theorem dX7_isNameAt_13 : decode cX7_isNameAt 13 = .ok (.aload_n 0, 1) := by decide +kernel
theorem dX7_isNameAt_14 : decode cX7_isNameAt 14 = .ok (.bipush 9, 2) := by decide +kernel
theorem dX7_isNameAt_16 : decode cX7_isNameAt 16 = .ok (.iload_n 1, 1) := by decide +kernel
theorem dX7_isNameAt_17 : decode cX7_isNameAt 17 = .ok (.invokevirtual 87, 3) := by decide +kernel
theorem dX7_isNameAt_20 : decode cX7_isNameAt 20 = .ok (.ifCond .eq 7, 3) := by decide +kernel
theorem dX7_isNameAt_23 : decode cX7_isNameAt 23 = .ok (.iconst 1, 1) := by decide +kernel
theorem dX7_isNameAt_24 : decode cX7_isNameAt 24 = .ok (.goto 4, 3) := by decide +kernel
theorem dX7_isNameAt_27 : decode cX7_isNameAt 27 = .ok (.iconst 0, 1) := by decide +kernel
theorem dX7_isNameAt_28 : decode cX7_isNameAt 28 = .ok (.ireturn, 1) := by decide +kernel
theorem dX7_isSameName_0 : decode cX7_isSameName 0 = .ok (.aload_n 0, 1) := by decide +kernel
theorem dX7_isSameName_1 : decode cX7_isSameName 1 = .ok (.iload_n 1, 1) := by decide +kernel
theorem dX7_isSameName_2 : decode cX7_isSameName 2 = .ok (.invokevirtual 150, 3) := by decide +kernel
theorem dX7_isSameName_5 : decode cX7_isSameName 5 = .ok (.istore_n 3, 1) := by decide +kernel
theorem dX7_isSameName_6 : decode cX7_isSameName 6 = .ok (.aload_n 0, 1) := by decide +kernel
theorem dX7_isSameName_7 : decode cX7_isSameName 7 = .ok (.iload_n 2, 1) := by decide +kernel
theorem dX7_isSameName_8 : decode cX7_isSameName 8 = .ok (.invokevirtual 150, 3) := by decide +kernel
theorem dX7_isSameName_11 : decode cX7_isSameName 11 = .ok (.istore 4, 2) := by decide +kernel
theorem dX7_isSameName_13 : decode cX7_isSameName 13 = .ok (.aload_n 0, 1) := by decide +kernel
theorem dX7_isSameName_14 : decode cX7_isSameName 14 = .ok (.iload_n 3, 1) := by decide +kernel
theorem dX7_isSameName_15 : decode cX7_isSameName 15 = .ok (.iconst 1, 1) := by decide +kernel
theorem dX7_isSameName_16 : decode cX7_isSameName 16 = .ok (.iadd, 1) := by decide +kernel
theorem dX7_isSameName_17 : decode cX7_isSameName 17 = .ok (.invokevirtual 107, 3) := by decide +kernel
theorem dX7_isSameName_20 : decode cX7_isSameName 20 = .ok (.istore 5, 2) := by decide +kernel
theorem dX7_isSameName_22 : decode cX7_isSameName 22 = .ok (.iconst 1, 1) := by decide +kernel
theorem dX7_isSameName_23 : decode cX7_isSameName 23 = .ok (.istore 6, 2) := by decide +kernel
theorem dX7_isSameName_25 : decode cX7_isSameName 25 = .ok (.iload 6, 2) := by decide +kernel
theorem dX7_isSameName_27 : decode cX7_isSameName 27 = .ok (.iconst 3, 1) := by decide +kernel
theorem dX7_isSameName_28 : decode cX7_isSameName 28 = .ok (.iload 5, 2) := by decide +kernel
theorem dX7_isSameName_30 : decode cX7_isSameName 30 = .ok (.iadd, 1) := by decide +kernel
theorem dX7_isSameName_31 : decode cX7_isSameName 31 = .ok (.if_icmp .ge 31, 3) := by decide +kernel
theorem dX7_isSameName_34 : decode cX7_isSameName 34 = .ok (.aload_n 0, 1) := by decide +kernel
theorem dX7_isSameName_35 : decode cX7_isSameName 35 = .ok (.iload_n 3, 1) := by decide +kernel
theorem dX7_isSameName_36 : decode cX7_isSameName 36 = .ok (.iload 6, 2) := by decide +kernel
theorem dX7_isSameName_38 : decode cX7_isSameName 38 = .ok (.iadd, 1) := by decide +kernel
theorem dX7_isSameName_39 : decode cX7_isSameName 39 = .ok (.invokevirtual 100, 3) := by decide +kernel
theorem dX7_isSameName_42 : decode cX7_isSameName 42 = .ok (.aload_n 0, 1) := by decide +kernel
theorem dX7_isSameName_43 : decode cX7_isSameName 43 = .ok (.iload 4, 2) := by decide +kernel
theorem dX7_isSameName_45 : decode cX7_isSameName 45 = .ok (.iload 6, 2) := by decide +kernel
theorem dX7_isSameName_47 : decode cX7_isSameName 47 = .ok (.iadd, 1) := by decide +kernel
theorem dX7_isSameName_48 : decode cX7_isSameName 48 = .ok (.invokevirtual 100, 3) := by decide +kernel
theorem dX7_isSameName_51 : decode cX7_isSameName 51 = .ok (.if_icmp .eq 5, 3) := by decide +kernel
theorem dX7_isSameName_54 : decode cX7_isSameName 54 = .ok (.iconst 0, 1) := by decide +kernel
theorem dX7_isSameName_55 : decode cX7_isSameName 55 = .ok (.ireturn, 1) := by decide +kernel
theorem dX7_isSameName_56 : decode cX7_isSameName 56 = .ok (.iinc 6 1, 3) := by decide +kernel
theorem dX7_isSameName_59 : decode cX7_isSameName 59 = .ok (.goto (-34), 3) := by decide +kernel
theorem dX7_isSameName_62 : decode cX7_isSameName 62 = .ok (.iconst 1, 1) := by decide +kernel
theorem dX7_isSameName_63 : decode cX7_isSameName 63 = .ok (.ireturn, 1) := by decide +kernel
theorem dX7_isSound_0 : decode cX7_isSound 0 = .ok (.aload_n 0, 1) := by decide +kernel
theorem dX7_isSound_1 : decode cX7_isSound 1 = .ok (.aload_n 1, 1) := by decide +kernel
theorem dX7_isSound_2 : decode cX7_isSound 2 = .ok (.getfield 32, 3) := by decide +kernel
theorem dX7_isSound_5 : decode cX7_isSound 5 = .ok (.putfield 9, 3) := by decide +kernel
theorem dX7_isSound_8 : decode cX7_isSound 8 = .ok (.aload_n 0, 1) := by decide +kernel
theorem dX7_isSound_9 : decode cX7_isSound 9 = .ok (.aload_n 1, 1) := by decide +kernel
theorem dX7_isSound_10 : decode cX7_isSound 10 = .ok (.getfield 35, 3) := by decide +kernel
theorem dX7_isSound_13 : decode cX7_isSound 13 = .ok (.putfield 38, 3) := by decide +kernel
theorem dX7_isSound_16 : decode cX7_isSound 16 = .ok (.aload_n 0, 1) := by decide +kernel
theorem dX7_isSound_17 : decode cX7_isSound 17 = .ok (.iconst 0, 1) := by decide +kernel
theorem dX7_isSound_18 : decode cX7_isSound 18 = .ok (.putfield 41, 3) := by decide +kernel
theorem dX7_isSound_21 : decode cX7_isSound 21 = .ok (.aload_n 0, 1) := by decide +kernel
theorem dX7_isSound_22 : decode cX7_isSound 22 = .ok (.iconst (-1), 1) := by decide +kernel
theorem dX7_isSound_23 : decode cX7_isSound 23 = .ok (.putfield 15, 3) := by decide +kernel
theorem dX7_isSound_26 : decode cX7_isSound 26 = .ok (.aload_n 0, 1) := by decide +kernel
theorem dX7_isSound_27 : decode cX7_isSound 27 = .ok (.iconst 0, 1) := by decide +kernel
theorem dX7_isSound_28 : decode cX7_isSound 28 = .ok (.putfield 44, 3) := by decide +kernel
theorem dX7_isSound_31 : decode cX7_isSound 31 = .ok (.aload_n 0, 1) := by decide +kernel
theorem dX7_isSound_32 : decode cX7_isSound 32 = .ok (.invokevirtual 47, 3) := by decide +kernel
theorem dX7_isSound_35 : decode cX7_isSound 35 = .ok (.ifCond .eq 115, 3) := by decide +kernel
theorem dX7_isSound_38 : decode cX7_isSound 38 = .ok (.aload_n 0, 1) := by decide +kernel
theorem dX7_isSound_39 : decode cX7_isSound 39 = .ok (.invokevirtual 51, 3) := by decide +kernel
theorem dX7_isSound_42 : decode cX7_isSound 42 = .ok (.ifCond .eq 108, 3) := by decide +kernel
theorem dX7_isSound_45 : decode cX7_isSound 45 = .ok (.aload_n 0, 1) := by decide +kernel
theorem dX7_isSound_46 : decode cX7_isSound 46 = .ok (.invokevirtual 54, 3) := by decide +kernel
theorem dX7_isSound_49 : decode cX7_isSound 49 = .ok (.ifCond .eq 101, 3) := by decide +kernel
theorem dX7_isSound_52 : decode cX7_isSound 52 = .ok (.aload_n 0, 1) := by decide +kernel
theorem dX7_isSound_53 : decode cX7_isSound 53 = .ok (.invokevirtual 57, 3) := by decide +kernel
theorem dX7_isSound_56 : decode cX7_isSound 56 = .ok (.ifCond .eq 94, 3) := by decide +kernel
theorem dX7_isSound_59 : decode cX7_isSound 59 = .ok (.aload_n 0, 1) := by decide +kernel
theorem dX7_isSound_60 : decode cX7_isSound 60 = .ok (.invokevirtual 60, 3) := by decide +kernel
theorem dX7_isSound_63 : decode cX7_isSound 63 = .ok (.ifCond .eq 87, 3) := by decide +kernel
theorem dX7_isSound_66 : decode cX7_isSound 66 = .ok (.aload_n 0, 1) := by decide +kernel
theorem dX7_isSound_67 : decode cX7_isSound 67 = .ok (.invokevirtual 63, 3) := by decide +kernel
theorem dX7_isSound_70 : decode cX7_isSound 70 = .ok (.ifCond .eq 80, 3) := by decide +kernel
theorem dX7_isSound_73 : decode cX7_isSound 73 = .ok (.aload_n 0, 1) := by decide +kernel
theorem dX7_isSound_74 : decode cX7_isSound 74 = .ok (.invokevirtual 66, 3) := by decide +kernel
theorem dX7_isSound_77 : decode cX7_isSound 77 = .ok (.ifCond .eq 73, 3) := by decide +kernel
theorem dX7_isSound_80 : decode cX7_isSound 80 = .ok (.aload_n 0, 1) := by decide +kernel
theorem dX7_isSound_81 : decode cX7_isSound 81 = .ok (.invokevirtual 69, 3) := by decide +kernel
theorem dX7_isSound_84 : decode cX7_isSound 84 = .ok (.ifCond .eq 66, 3) := by decide +kernel
theorem dX7_isSound_87 : decode cX7_isSound 87 = .ok (.aload_n 0, 1) := by decide +kernel
theorem dX7_isSound_88 : decode cX7_isSound 88 = .ok (.invokevirtual 72, 3) := by decide +kernel
theorem dX7_isSound_91 : decode cX7_isSound 91 = .ok (.ifCond .eq 59, 3) := by decide +kernel
theorem dX7_isSound_94 : decode cX7_isSound 94 = .ok (.aload_n 0, 1) := by decide +kernel
theorem dX7_isSound_95 : decode cX7_isSound 95 = .ok (.invokevirtual 75, 3) := by decide +kernel
theorem dX7_isSound_98 : decode cX7_isSound 98 = .ok (.ifCond .eq 52, 3) := by decide +kernel
theorem dX7_isSound_101 : decode cX7_isSound 101 = .ok (.aload_n 0, 1) := by decide +kernel
theorem dX7_isSound_102 : decode cX7_isSound 102 = .ok (.invokevirtual 78, 3) := by decide +kernel
theorem dX7_isSound_105 : decode cX7_isSound 105 = .ok (.ifCond .eq 45, 3) := by decide +kernel
theorem dX7_isSound_108 : decode cX7_isSound 108 = .ok (.aload_n 0, 1) := by decide +kernel
theorem dX7_isSound_109 : decode cX7_isSound 109 = .ok (.invokevirtual 81, 3) := by decide +kernel
theorem dX7_isSound_112 : decode cX7_isSound 112 = .ok (.ifCond .eq 38, 3) := by decide +kernel
theorem dX7_isSound_115 : decode cX7_isSound 115 = .ok (.aload_n 0, 1) := by decide +kernel
theorem dX7_isSound_116 : decode cX7_isSound 116 = .ok (.invokevirtual 84, 3) := by decide +kernel
theorem dX7_isSound_119 : decode cX7_isSound 119 = .ok (.ifCond .eq 31, 3) := by decide +kernel
theorem dX7_isSound_122 : decode cX7_isSound 122 = .ok (.aload_n 0, 1) := by decide +kernel
theorem dX7_isSound_123 : decode cX7_isSound 123 = .ok (.getfield 44, 3) := by decide +kernel
theorem dX7_isSound_126 : decode cX7_isSound 126 = .ok (.aload_n 0, 1) := by decide +kernel
theorem dX7_isSound_127 : decode cX7_isSound 127 = .ok (.getfield 38, 3) := by decide +kernel
theorem dX7_isSound_130 : decode cX7_isSound 130 = .ok (.if_icmp .eq 16, 3) := by decide +kernel
theorem dX7_isSound_133 : decode cX7_isSound 133 = .ok (.aload_n 0, 1) := by decide +kernel
theorem dX7_isSound_134 : decode cX7_isSound 134 = .ok (.bipush 17, 2) := by decide +kernel
theorem dX7_isSound_136 : decode cX7_isSound 136 = .ok (.aload_n 0, 1) := by decide +kernel
theorem dX7_isSound_137 : decode cX7_isSound 137 = .ok (.getfield 44, 3) := by decide +kernel
theorem dX7_isSound_140 : decode cX7_isSound 140 = .ok (.invokevirtual 87, 3) := by decide +kernel
theorem dX7_isSound_143 : decode cX7_isSound 143 = .ok (.ifCond .eq 7, 3) := by decide +kernel
theorem dX7_isSound_146 : decode cX7_isSound 146 = .ok (.iconst 1, 1) := by decide +kernel
theorem dX7_isSound_147 : decode cX7_isSound 147 = .ok (.goto 4, 3) := by decide +kernel
theorem dX7_isSound_150 : decode cX7_isSound 150 = .ok (.iconst 0, 1) := by decide +kernel
theorem dX7_isSound_151 : decode cX7_isSound 151 = .ok (.ireturn, 1) := by decide +kernel
theorem dX7_isText_0 : decode cX7_isText 0 = .ok (.aload_n 0, 1) := by decide +kernel
theorem dX7_isText_1 : decode cX7_isText 1 = .ok (.iload_n 1, 1) := by decide +kernel
theorem dX7_isText_2 : decode cX7_isText 2 = .ok (.invokevirtual 190, 3) := by decide +kernel
theorem dX7_isText_5 : decode cX7_isText 5 = .ok (.aload_n 2, 1) := by decide +kernel
theorem dX7_isText_6 : decode cX7_isText 6 = .ok (.invokevirtual 202, 3) := by decide +kernel
theorem dX7_isText_9 : decode cX7_isText 9 = .ok (.if_icmp .eq 5, 3) := by decide +kernel
theorem dX7_isText_12 : decode cX7_isText 12 = .ok (.iconst 0, 1) := by decide +kernel
theorem dX7_isText_13 : decode cX7_isText 13 = .ok (.ireturn, 1) := by decide +kernel
theorem dX7_isText_14 : decode cX7_isText 14 = .ok (.iconst 0, 1) := by decide +kernel
theorem dX7_isText_15 : decode cX7_isText 15 = .ok (.istore_n 3, 1) := by decide +kernel
theorem dX7_isText_16 : decode cX7_isText 16 = .ok (.iload_n 3, 1) := by decide +kernel
theorem dX7_isText_17 : decode cX7_isText 17 = .ok (.aload_n 2, 1) := by decide +kernel
theorem dX7_isText_18 : decode cX7_isText 18 = .ok (.invokevirtual 202, 3) := by decide +kernel
theorem dX7_isText_21 : decode cX7_isText 21 = .ok (.if_icmp .ge 25, 3) := by decide +kernel
theorem dX7_isText_24 : decode cX7_isText 24 = .ok (.aload_n 0, 1) := by decide +kernel
theorem dX7_isText_25 : decode cX7_isText 25 = .ok (.iload_n 1, 1) := by decide +kernel
theorem dX7_isText_26 : decode cX7_isText 26 = .ok (.iload_n 3, 1) := by decide +kernel
theorem dX7_isText_27 : decode cX7_isText 27 = .ok (.invokevirtual 193, 3) := by decide +kernel
theorem dX7_isText_30 : decode cX7_isText 30 = .ok (.aload_n 2, 1) := by decide +kernel
theorem dX7_isText_31 : decode cX7_isText 31 = .ok (.iload_n 3, 1) := by decide +kernel
theorem dX7_isText_32 : decode cX7_isText 32 = .ok (.invokevirtual 208, 3) := by decide +kernel
theorem dX7_isText_35 : decode cX7_isText 35 = .ok (.if_icmp .eq 5, 3) := by decide +kernel
theorem dX7_isText_38 : decode cX7_isText 38 = .ok (.iconst 0, 1) := by decide +kernel
theorem dX7_isText_39 : decode cX7_isText 39 = .ok (.ireturn, 1) := by decide +kernel
theorem dX7_isText_40 : decode cX7_isText 40 = .ok (.iinc 3 1, 3) := by decide +kernel
theorem dX7_isText_43 : decode cX7_isText 43 = .ok (.goto (-27), 3) := by decide +kernel
theorem dX7_isText_46 : decode cX7_isText 46 = .ok (.iconst 1, 1) := by decide +kernel
theorem dX7_isText_47 : decode cX7_isText 47 = .ok (.ireturn, 1) := by decide +kernel
theorem dX7_isThere_0 : decode cX7_isThere 0 = .ok (.iload_n 1, 1) := by decide +kernel
theorem dX7_isThere_1 : decode cX7_isThere 1 = .ok (.aload_n 0, 1) := by decide +kernel
theorem dX7_isThere_2 : decode cX7_isThere 2 = .ok (.getfield 38, 3) := by decide +kernel
theorem dX7_isThere_5 : decode cX7_isThere 5 = .ok (.aload_n 0, 1) := by decide +kernel
theorem dX7_isThere_6 : decode cX7_isThere 6 = .ok (.getfield 44, 3) := by decide +kernel
theorem dX7_isThere_9 : decode cX7_isThere 9 = .ok (.isub, 1) := by decide +kernel
theorem dX7_isThere_10 : decode cX7_isThere 10 = .ok (.if_icmp .le 15, 3) := by decide +kernel
theorem dX7_isThere_13 : decode cX7_isThere 13 = .ok (.aload_n 0, 1) := by decide +kernel
theorem dX7_isThere_14 : decode cX7_isThere 14 = .ok (.iconst 2, 1) := by decide +kernel
theorem dX7_isThere_15 : decode cX7_isThere 15 = .ok (.aload_n 0, 1) := by decide +kernel
theorem dX7_isThere_16 : decode cX7_isThere 16 = .ok (.getfield 38, 3) := by decide +kernel
theorem dX7_isThere_19 : decode cX7_isThere 19 = .ok (.invokevirtual 87, 3) := by decide +kernel
theorem dX7_isThere_22 : decode cX7_isThere 22 = .ok (.ifCond .eq 7, 3) := by decide +kernel
theorem dX7_isThere_25 : decode cX7_isThere 25 = .ok (.iconst 1, 1) := by decide +kernel
theorem dX7_isThere_26 : decode cX7_isThere 26 = .ok (.goto 4, 3) := by decide +kernel
theorem dX7_isThere_29 : decode cX7_isThere 29 = .ok (.iconst 0, 1) := by decide +kernel
theorem dX7_isThere_30 : decode cX7_isThere 30 = .ok (.ireturn, 1) := by decide +kernel
theorem dX7_kindOfPart_0 : decode cX7_kindOfPart 0 = .ok (.iload_n 2, 1) := by decide +kernel
theorem dX7_kindOfPart_1 : decode cX7_kindOfPart 1 = .ok (.aload_n 0, 1) := by decide +kernel
theorem dX7_kindOfPart_2 : decode cX7_kindOfPart 2 = .ok (.iload_n 1, 1) := by decide +kernel
theorem dX7_kindOfPart_3 : decode cX7_kindOfPart 3 = .ok (.invokevirtual 190, 3) := by decide +kernel
theorem dX7_kindOfPart_6 : decode cX7_kindOfPart 6 = .ok (.if_icmp .lt 5, 3) := by decide +kernel
theorem dX7_kindOfPart_9 : decode cX7_kindOfPart 9 = .ok (.iconst 0, 1) := by decide +kernel
theorem dX7_kindOfPart_10 : decode cX7_kindOfPart 10 = .ok (.ireturn, 1) := by decide +kernel
theorem dX7_kindOfPart_11 : decode cX7_kindOfPart 11 = .ok (.aload_n 0, 1) := by decide +kernel
theorem dX7_kindOfPart_12 : decode cX7_kindOfPart 12 = .ok (.iload_n 1, 1) := by decide +kernel
theorem dX7_kindOfPart_13 : decode cX7_kindOfPart 13 = .ok (.iload_n 2, 1) := by decide +kernel
theorem dX7_kindOfPart_14 : decode cX7_kindOfPart 14 = .ok (.invokevirtual 193, 3) := by decide +kernel
theorem dX7_kindOfPart_17 : decode cX7_kindOfPart 17 = .ok (.lookupswitch 69 #[(73, 35), (74, 37), (91, 39)], 35) := by decide +kernel
theorem dX7_kindOfPart_52 : decode cX7_kindOfPart 52 = .ok (.iconst 1, 1) := by decide +kernel
theorem dX7_kindOfPart_53 : decode cX7_kindOfPart 53 = .ok (.ireturn, 1) := by decide +kernel
theorem dX7_kindOfPart_54 : decode cX7_kindOfPart 54 = .ok (.iconst 2, 1) := by decide +kernel
theorem dX7_kindOfPart_55 : decode cX7_kindOfPart 55 = .ok (.ireturn, 1) := by decide +kernel
theorem dX7_kindOfPart_56 : decode cX7_kindOfPart 56 = .ok (.iload_n 2, 1) := by decide +kernel
theorem dX7_kindOfPart_57 : decode cX7_kindOfPart 57 = .ok (.iconst 1, 1) := by decide +kernel
theorem dX7_kindOfPart_58 : decode cX7_kindOfPart 58 = .ok (.iadd, 1) := by decide +kernel
theorem dX7_kindOfPart_59 : decode cX7_kindOfPart 59 = .ok (.aload_n 0, 1) := by decide +kernel
theorem dX7_kindOfPart_60 : decode cX7_kindOfPart 60 = .ok (.iload_n 1, 1) := by decide +kernel
theorem dX7_kindOfPart_61 : decode cX7_kindOfPart 61 = .ok (.invokevirtual 190, 3) := by decide +kernel
theorem dX7_kindOfPart_64 : decode cX7_kindOfPart 64 = .ok (.if_icmp .ge 20, 3) := by decide +kernel
theorem dX7_kindOfPart_67 : decode cX7_kindOfPart 67 = .ok (.aload_n 0, 1) := by decide +kernel
theorem dX7_kindOfPart_68 : decode cX7_kindOfPart 68 = .ok (.iload_n 1, 1) := by decide +kernel
theorem dX7_kindOfPart_69 : decode cX7_kindOfPart 69 = .ok (.iload_n 2, 1) := by decide +kernel
theorem dX7_kindOfPart_70 : decode cX7_kindOfPart 70 = .ok (.iconst 1, 1) := by decide +kernel
theorem dX7_kindOfPart_71 : decode cX7_kindOfPart 71 = .ok (.iadd, 1) := by decide +kernel
theorem dX7_kindOfPart_72 : decode cX7_kindOfPart 72 = .ok (.invokevirtual 193, 3) := by decide +kernel
theorem dX7_kindOfPart_75 : decode cX7_kindOfPart 75 = .ok (.bipush 73, 2) := by decide +kernel
theorem dX7_kindOfPart_77 : decode cX7_kindOfPart 77 = .ok (.if_icmp .ne 7, 3) := by decide +kernel
theorem dX7_kindOfPart_80 : decode cX7_kindOfPart 80 = .ok (.iconst 3, 1) := by decide +kernel
theorem dX7_kindOfPart_81 : decode cX7_kindOfPart 81 = .ok (.goto 4, 3) := by decide +kernel
theorem dX7_kindOfPart_84 : decode cX7_kindOfPart 84 = .ok (.iconst 0, 1) := by decide +kernel
theorem dX7_kindOfPart_85 : decode cX7_kindOfPart 85 = .ok (.ireturn, 1) := by decide +kernel
theorem dX7_kindOfPart_86 : decode cX7_kindOfPart 86 = .ok (.iconst 0, 1) := by decide +kernel
theorem dX7_kindOfPart_87 : decode cX7_kindOfPart 87 = .ok (.ireturn, 1) := by decide +kernel
theorem dX7_kindOfType_0 : decode cX7_kindOfType 0 = .ok (.aload_n 0, 1) := by decide +kernel
theorem dX7_kindOfType_1 : decode cX7_kindOfType 1 = .ok (.iload_n 1, 1) := by decide +kernel
theorem dX7_kindOfType_2 : decode cX7_kindOfType 2 = .ok (.iconst 0, 1) := by decide +kernel
theorem dX7_kindOfType_3 : decode cX7_kindOfType 3 = .ok (.invokevirtual 186, 3) := by decide +kernel
theorem dX7_kindOfType_6 : decode cX7_kindOfType 6 = .ok (.istore_n 2, 1) := by decide +kernel
theorem dX7_kindOfType_7 : decode cX7_kindOfType 7 = .ok (.aload_n 0, 1) := by decide +kernel
theorem dX7_kindOfType_8 : decode cX7_kindOfType 8 = .ok (.iload_n 1, 1) := by decide +kernel
theorem dX7_kindOfType_9 : decode cX7_kindOfType 9 = .ok (.invokevirtual 190, 3) := by decide +kernel
theorem dX7_kindOfType_12 : decode cX7_kindOfType 12 = .ok (.iload_n 2, 1) := by decide +kernel
theorem dX7_kindOfType_13 : decode cX7_kindOfType 13 = .ok (.iconst 3, 1) := by decide +kernel
theorem dX7_kindOfType_14 : decode cX7_kindOfType 14 = .ok (.if_icmp .ne 7, 3) := by decide +kernel
theorem dX7_kindOfType_17 : decode cX7_kindOfType 17 = .ok (.iconst 2, 1) := by decide +kernel
theorem dX7_kindOfType_18 : decode cX7_kindOfType 18 = .ok (.goto 4, 3) := by decide +kernel
theorem dX7_kindOfType_21 : decode cX7_kindOfType 21 = .ok (.iconst 1, 1) := by decide +kernel
theorem dX7_kindOfType_22 : decode cX7_kindOfType 22 = .ok (.if_icmp .ne 7, 3) := by decide +kernel
theorem dX7_kindOfType_25 : decode cX7_kindOfType 25 = .ok (.iload_n 2, 1) := by decide +kernel
theorem dX7_kindOfType_26 : decode cX7_kindOfType 26 = .ok (.goto 4, 3) := by decide +kernel
theorem dX7_kindOfType_29 : decode cX7_kindOfType 29 = .ok (.iconst 0, 1) := by decide +kernel
theorem dX7_kindOfType_30 : decode cX7_kindOfType 30 = .ok (.ireturn, 1) := by decide +kernel
theorem dX7_magicHolds_0 : decode cX7_magicHolds 0 = .ok (.iconst 0, 1) := by decide +kernel
theorem dX7_magicHolds_1 : decode cX7_magicHolds 1 = .ok (.istore_n 1, 1) := by decide +kernel
theorem dX7_magicHolds_2 : decode cX7_magicHolds 2 = .ok (.iload_n 1, 1) := by decide +kernel
theorem dX7_magicHolds_3 : decode cX7_magicHolds 3 = .ok (.getstatic 97, 3) := by decide +kernel
theorem dX7_magicHolds_6 : decode cX7_magicHolds 6 = .ok (.arraylength, 1) := by decide +kernel
theorem dX7_magicHolds_7 : decode cX7_magicHolds 7 = .ok (.if_icmp .ge 47, 3) := by decide +kernel
theorem dX7_magicHolds_10 : decode cX7_magicHolds 10 = .ok (.iload_n 1, 1) := by decide +kernel
theorem dX7_magicHolds_11 : decode cX7_magicHolds 11 = .ok (.aload_n 0, 1) := by decide +kernel
theorem dX7_magicHolds_12 : decode cX7_magicHolds 12 = .ok (.getfield 38, 3) := by decide +kernel
theorem dX7_magicHolds_15 : decode cX7_magicHolds 15 = .ok (.if_icmp .lt 13, 3) := by decide +kernel
theorem dX7_magicHolds_18 : decode cX7_magicHolds 18 = .ok (.aload_n 0, 1) := by decide +kernel
theorem dX7_magicHolds_19 : decode cX7_magicHolds 19 = .ok (.iconst 2, 1) := by decide +kernel
theorem dX7_magicHolds_20 : decode cX7_magicHolds 20 = .ok (.aload_n 0, 1) := by decide +kernel
theorem dX7_magicHolds_21 : decode cX7_magicHolds 21 = .ok (.getfield 38, 3) := by decide +kernel
theorem dX7_magicHolds_24 : decode cX7_magicHolds 24 = .ok (.invokevirtual 87, 3) := by decide +kernel
theorem dX7_magicHolds_27 : decode cX7_magicHolds 27 = .ok (.ireturn, 1) := by decide +kernel
theorem dX7_magicHolds_28 : decode cX7_magicHolds 28 = .ok (.aload_n 0, 1) := by decide +kernel
theorem dX7_magicHolds_29 : decode cX7_magicHolds 29 = .ok (.iload_n 1, 1) := by decide +kernel
theorem dX7_magicHolds_30 : decode cX7_magicHolds 30 = .ok (.invokevirtual 100, 3) := by decide +kernel
theorem dX7_magicHolds_33 : decode cX7_magicHolds 33 = .ok (.getstatic 97, 3) := by decide +kernel
theorem dX7_magicHolds_36 : decode cX7_magicHolds 36 = .ok (.iload_n 1, 1) := by decide +kernel
theorem dX7_magicHolds_37 : decode cX7_magicHolds 37 = .ok (.iaload, 1) := by decide +kernel
theorem dX7_magicHolds_38 : decode cX7_magicHolds 38 = .ok (.if_icmp .eq 10, 3) := by decide +kernel
theorem dX7_magicHolds_41 : decode cX7_magicHolds 41 = .ok (.aload_n 0, 1) := by decide +kernel
theorem dX7_magicHolds_42 : decode cX7_magicHolds 42 = .ok (.iconst 1, 1) := by decide +kernel
theorem dX7_magicHolds_43 : decode cX7_magicHolds 43 = .ok (.iload_n 1, 1) := by decide +kernel
theorem dX7_magicHolds_44 : decode cX7_magicHolds 44 = .ok (.invokevirtual 87, 3) := by decide +kernel
theorem dX7_magicHolds_47 : decode cX7_magicHolds 47 = .ok (.ireturn, 1) := by decide +kernel
theorem dX7_magicHolds_48 : decode cX7_magicHolds 48 = .ok (.iinc 1 1, 3) := by decide +kernel
theorem dX7_magicHolds_51 : decode cX7_magicHolds 51 = .ok (.goto (-49), 3) := by decide +kernel
theorem dX7_magicHolds_54 : decode cX7_magicHolds 54 = .ok (.aload_n 0, 1) := by decide +kernel
theorem dX7_magicHolds_55 : decode cX7_magicHolds 55 = .ok (.getstatic 97, 3) := by decide +kernel
theorem dX7_magicHolds_58 : decode cX7_magicHolds 58 = .ok (.arraylength, 1) := by decide +kernel
theorem dX7_magicHolds_59 : decode cX7_magicHolds 59 = .ok (.putfield 44, 3) := by decide +kernel
theorem dX7_magicHolds_62 : decode cX7_magicHolds 62 = .ok (.iconst 1, 1) := by decide +kernel
theorem dX7_magicHolds_63 : decode cX7_magicHolds 63 = .ok (.ireturn, 1) := by decide +kernel
theorem dX7_memberPlace_0 : decode cX7_memberPlace 0 = .ok (.iload_n 1, 1) := by decide +kernel
theorem dX7_memberPlace_1 : decode cX7_memberPlace 1 = .ok (.ifCond .lt 12, 3) := by decide +kernel
theorem dX7_memberPlace_4 : decode cX7_memberPlace 4 = .ok (.iload_n 1, 1) := by decide +kernel
theorem dX7_memberPlace_5 : decode cX7_memberPlace 5 = .ok (.aload_n 0, 1) := by decide +kernel
theorem dX7_memberPlace_6 : decode cX7_memberPlace 6 = .ok (.getfield 23, 3) := by decide +kernel
theorem dX7_memberPlace_9 : decode cX7_memberPlace 9 = .ok (.arraylength, 1) := by decide +kernel
theorem dX7_memberPlace_10 : decode cX7_memberPlace 10 = .ok (.if_icmp .lt 7, 3) := by decide +kernel
theorem dX7_memberPlace_13 : decode cX7_memberPlace 13 = .ok (.iconst 0, 1) := by decide +kernel
theorem dX7_memberPlace_14 : decode cX7_memberPlace 14 = .ok (.goto 9, 3) := by decide +kernel
theorem dX7_memberPlace_17 : decode cX7_memberPlace 17 = .ok (.aload_n 0, 1) := by decide +kernel
theorem dX7_memberPlace_18 : decode cX7_memberPlace 18 = .ok (.getfield 23, 3) := by decide +kernel
theorem dX7_memberPlace_21 : decode cX7_memberPlace 21 = .ok (.iload_n 1, 1) := by decide +kernel
theorem dX7_memberPlace_22 : decode cX7_memberPlace 22 = .ok (.iaload, 1) := by decide +kernel
theorem dX7_memberPlace_23 : decode cX7_memberPlace 23 = .ok (.ireturn, 1) := by decide +kernel
theorem dX7_membersFit_0 : decode cX7_membersFit 0 = .ok (.aload_n 0, 1) := by decide +kernel
theorem dX7_membersFit_1 : decode cX7_membersFit 1 = .ok (.iconst 2, 1) := by decide +kernel
theorem dX7_membersFit_2 : decode cX7_membersFit 2 = .ok (.invokevirtual 103, 3) := by decide +kernel
theorem dX7_membersFit_5 : decode cX7_membersFit 5 = .ok (.ifCond .ne 5, 3) := by decide +kernel
theorem dX7_membersFit_8 : decode cX7_membersFit 8 = .ok (.iconst (-1), 1) := by decide +kernel
theorem dX7_membersFit_9 : decode cX7_membersFit 9 = .ok (.ireturn, 1) := by decide +kernel
theorem dX7_membersFit_10 : decode cX7_membersFit 10 = .ok (.aload_n 0, 1) := by decide +kernel
theorem dX7_membersFit_11 : decode cX7_membersFit 11 = .ok (.aload_n 0, 1) := by decide +kernel
theorem dX7_membersFit_12 : decode cX7_membersFit 12 = .ok (.getfield 44, 3) := by decide +kernel
theorem dX7_membersFit_15 : decode cX7_membersFit 15 = .ok (.invokevirtual 107, 3) := by decide +kernel
theorem dX7_membersFit_18 : decode cX7_membersFit 18 = .ok (.istore_n 2, 1) := by decide +kernel
theorem dX7_membersFit_19 : decode cX7_membersFit 19 = .ok (.iload_n 2, 1) := by decide +kernel
theorem dX7_membersFit_20 : decode cX7_membersFit 20 = .ok (.bipush 24, 2) := by decide +kernel
theorem dX7_membersFit_22 : decode cX7_membersFit 22 = .ok (.if_icmp .le 15, 3) := by decide +kernel
theorem dX7_membersFit_25 : decode cX7_membersFit 25 = .ok (.aload_n 0, 1) := by decide +kernel
theorem dX7_membersFit_26 : decode cX7_membersFit 26 = .ok (.iconst 5, 1) := by decide +kernel
theorem dX7_membersFit_27 : decode cX7_membersFit 27 = .ok (.aload_n 0, 1) := by decide +kernel
theorem dX7_membersFit_28 : decode cX7_membersFit 28 = .ok (.getfield 44, 3) := by decide +kernel
theorem dX7_membersFit_31 : decode cX7_membersFit 31 = .ok (.invokevirtual 87, 3) := by decide +kernel
theorem dX7_membersFit_34 : decode cX7_membersFit 34 = .ok (.pop, 1) := by decide +kernel
theorem dX7_membersFit_35 : decode cX7_membersFit 35 = .ok (.iconst (-1), 1) := by decide +kernel
theorem dX7_membersFit_36 : decode cX7_membersFit 36 = .ok (.ireturn, 1) := by decide +kernel
theorem dX7_membersFit_37 : decode cX7_membersFit 37 = .ok (.aload_n 0, 1) := by decide +kernel
theorem dX7_membersFit_38 : decode cX7_membersFit 38 = .ok (.dup, 1) := by decide +kernel
theorem dX7_membersFit_39 : decode cX7_membersFit 39 = .ok (.getfield 44, 3) := by decide +kernel
theorem dX7_membersFit_42 : decode cX7_membersFit 42 = .ok (.iconst 2, 1) := by decide +kernel
theorem dX7_membersFit_43 : decode cX7_membersFit 43 = .ok (.iadd, 1) := by decide +kernel
theorem dX7_membersFit_44 : decode cX7_membersFit 44 = .ok (.putfield 44, 3) := by decide +kernel
theorem dX7_membersFit_47 : decode cX7_membersFit 47 = .ok (.iload_n 1, 1) := by decide +kernel
theorem dX7_membersFit_48 : decode cX7_membersFit 48 = .ok (.istore_n 3, 1) := by decide +kernel
theorem dX7_membersFit_49 : decode cX7_membersFit 49 = .ok (.iload_n 3, 1) := by decide +kernel
theorem dX7_membersFit_50 : decode cX7_membersFit 50 = .ok (.iload_n 1, 1) := by decide +kernel
theorem dX7_membersFit_51 : decode cX7_membersFit 51 = .ok (.iload_n 2, 1) := by decide +kernel
theorem dX7_membersFit_52 : decode cX7_membersFit 52 = .ok (.iadd, 1) := by decide +kernel
theorem dX7_membersFit_53 : decode cX7_membersFit 53 = .ok (.if_icmp .ge 59, 3) := by decide +kernel
theorem dX7_membersFit_56 : decode cX7_membersFit 56 = .ok (.iload_n 3, 1) := by decide +kernel
theorem dX7_membersFit_57 : decode cX7_membersFit 57 = .ok (.aload_n 0, 1) := by decide +kernel
theorem dX7_membersFit_58 : decode cX7_membersFit 58 = .ok (.getfield 23, 3) := by decide +kernel
theorem dX7_membersFit_61 : decode cX7_membersFit 61 = .ok (.arraylength, 1) := by decide +kernel
theorem dX7_membersFit_62 : decode cX7_membersFit 62 = .ok (.if_icmp .ge 50, 3) := by decide +kernel
theorem dX7_membersFit_65 : decode cX7_membersFit 65 = .ok (.aload_n 0, 1) := by decide +kernel
theorem dX7_membersFit_66 : decode cX7_membersFit 66 = .ok (.getfield 23, 3) := by decide +kernel
theorem dX7_membersFit_69 : decode cX7_membersFit 69 = .ok (.iload_n 3, 1) := by decide +kernel
theorem dX7_membersFit_70 : decode cX7_membersFit 70 = .ok (.aload_n 0, 1) := by decide +kernel
theorem dX7_membersFit_71 : decode cX7_membersFit 71 = .ok (.getfield 44, 3) := by decide +kernel
theorem dX7_membersFit_74 : decode cX7_membersFit 74 = .ok (.iastore, 1) := by decide +kernel
theorem dX7_membersFit_75 : decode cX7_membersFit 75 = .ok (.aload_n 0, 1) := by decide +kernel
theorem dX7_membersFit_76 : decode cX7_membersFit 76 = .ok (.bipush 6, 2) := by decide +kernel
theorem dX7_membersFit_78 : decode cX7_membersFit 78 = .ok (.invokevirtual 103, 3) := by decide +kernel
theorem dX7_membersFit_81 : decode cX7_membersFit 81 = .ok (.ifCond .ne 5, 3) := by decide +kernel
theorem dX7_membersFit_84 : decode cX7_membersFit 84 = .ok (.iconst (-1), 1) := by decide +kernel
theorem dX7_membersFit_85 : decode cX7_membersFit 85 = .ok (.ireturn, 1) := by decide +kernel
theorem dX7_membersFit_86 : decode cX7_membersFit 86 = .ok (.aload_n 0, 1) := by decide +kernel
theorem dX7_membersFit_87 : decode cX7_membersFit 87 = .ok (.dup, 1) := by decide +kernel
theorem dX7_membersFit_88 : decode cX7_membersFit 88 = .ok (.getfield 44, 3) := by decide +kernel
theorem dX7_membersFit_91 : decode cX7_membersFit 91 = .ok (.bipush 6, 2) := by decide +kernel
theorem dX7_membersFit_93 : decode cX7_membersFit 93 = .ok (.iadd, 1) := by decide +kernel
theorem dX7_membersFit_94 : decode cX7_membersFit 94 = .ok (.putfield 44, 3) := by decide +kernel
theorem dX7_membersFit_97 : decode cX7_membersFit 97 = .ok (.aload_n 0, 1) := by decide +kernel
theorem dX7_membersFit_98 : decode cX7_membersFit 98 = .ok (.invokevirtual 140, 3) := by decide +kernel
theorem dX7_membersFit_101 : decode cX7_membersFit 101 = .ok (.ifCond .ne 5, 3) := by decide +kernel
theorem dX7_membersFit_104 : decode cX7_membersFit 104 = .ok (.iconst (-1), 1) := by decide +kernel
theorem dX7_membersFit_105 : decode cX7_membersFit 105 = .ok (.ireturn, 1) := by decide +kernel
theorem dX7_membersFit_106 : decode cX7_membersFit 106 = .ok (.iinc 3 1, 3) := by decide +kernel
theorem dX7_membersFit_109 : decode cX7_membersFit 109 = .ok (.goto (-60), 3) := by decide +kernel
theorem dX7_membersFit_112 : decode cX7_membersFit 112 = .ok (.iload_n 2, 1) := by decide +kernel
theorem dX7_membersFit_113 : decode cX7_membersFit 113 = .ok (.ireturn, 1) := by decide +kernel
theorem dX7_methodsFit_0 : decode cX7_methodsFit 0 = .ok (.aload_n 0, 1) := by decide +kernel
theorem dX7_methodsFit_1 : decode cX7_methodsFit 1 = .ok (.aload_n 0, 1) := by decide +kernel
theorem dX7_methodsFit_2 : decode cX7_methodsFit 2 = .ok (.aload_n 0, 1) := by decide +kernel
theorem dX7_methodsFit_3 : decode cX7_methodsFit 3 = .ok (.getfield 134, 3) := by decide +kernel
theorem dX7_methodsFit_6 : decode cX7_methodsFit 6 = .ok (.invokevirtual 137, 3) := by decide +kernel
theorem dX7_methodsFit_9 : decode cX7_methodsFit 9 = .ok (.putfield 131, 3) := by decide +kernel
theorem dX7_methodsFit_12 : decode cX7_methodsFit 12 = .ok (.aload_n 0, 1) := by decide +kernel
theorem dX7_methodsFit_13 : decode cX7_methodsFit 13 = .ok (.getfield 131, 3) := by decide +kernel
theorem dX7_methodsFit_16 : decode cX7_methodsFit 16 = .ok (.ifCond .lt 7, 3) := by decide +kernel
theorem dX7_methodsFit_19 : decode cX7_methodsFit 19 = .ok (.iconst 1, 1) := by decide +kernel
theorem dX7_methodsFit_20 : decode cX7_methodsFit 20 = .ok (.goto 4, 3) := by decide +kernel
theorem dX7_methodsFit_23 : decode cX7_methodsFit 23 = .ok (.iconst 0, 1) := by decide +kernel
theorem dX7_methodsFit_24 : decode cX7_methodsFit 24 = .ok (.ireturn, 1) := by decide +kernel
theorem dX7_nameFits_0 : decode cX7_nameFits 0 = .ok (.aload_n 0, 1) := by decide +kernel
theorem dX7_nameFits_1 : decode cX7_nameFits 1 = .ok (.iconst 3, 1) := by decide +kernel
theorem dX7_nameFits_2 : decode cX7_nameFits 2 = .ok (.invokevirtual 103, 3) := by decide +kernel
theorem dX7_nameFits_5 : decode cX7_nameFits 5 = .ok (.ifCond .ne 5, 3) := by decide +kernel
theorem dX7_nameFits_8 : decode cX7_nameFits 8 = .ok (.iconst 0, 1) := by decide +kernel
theorem dX7_nameFits_9 : decode cX7_nameFits 9 = .ok (.ireturn, 1) := by decide +kernel
theorem dX7_nameFits_10 : decode cX7_nameFits 10 = .ok (.aload_n 0, 1) := by decide +kernel
theorem dX7_nameFits_11 : decode cX7_nameFits 11 = .ok (.aload_n 0, 1) := by decide +kernel
theorem dX7_nameFits_12 : decode cX7_nameFits 12 = .ok (.getfield 44, 3) := by decide +kernel
theorem dX7_nameFits_15 : decode cX7_nameFits 15 = .ok (.iconst 1, 1) := by decide +kernel
theorem dX7_nameFits_16 : decode cX7_nameFits 16 = .ok (.iadd, 1) := by decide +kernel
theorem dX7_nameFits_17 : decode cX7_nameFits 17 = .ok (.invokevirtual 107, 3) := by decide +kernel
theorem dX7_nameFits_20 : decode cX7_nameFits 20 = .ok (.istore_n 1, 1) := by decide +kernel
theorem dX7_nameFits_21 : decode cX7_nameFits 21 = .ok (.iload_n 1, 1) := by decide +kernel
theorem dX7_nameFits_22 : decode cX7_nameFits 22 = .ok (.iconst 1, 1) := by decide +kernel
theorem dX7_nameFits_23 : decode cX7_nameFits 23 = .ok (.if_icmp .lt 9, 3) := by decide +kernel
theorem dX7_nameFits_26 : decode cX7_nameFits 26 = .ok (.iload_n 1, 1) := by decide +kernel
theorem dX7_nameFits_27 : decode cX7_nameFits 27 = .ok (.bipush 100, 2) := by decide +kernel
theorem dX7_nameFits_29 : decode cX7_nameFits 29 = .ok (.if_icmp .le 13, 3) := by decide +kernel
theorem dX7_nameFits_32 : decode cX7_nameFits 32 = .ok (.aload_n 0, 1) := by decide +kernel
theorem dX7_nameFits_33 : decode cX7_nameFits 33 = .ok (.iconst 4, 1) := by decide +kernel
theorem dX7_nameFits_34 : decode cX7_nameFits 34 = .ok (.aload_n 0, 1) := by decide +kernel
theorem dX7_nameFits_35 : decode cX7_nameFits 35 = .ok (.getfield 44, 3) := by decide +kernel
theorem dX7_nameFits_38 : decode cX7_nameFits 38 = .ok (.invokevirtual 87, 3) := by decide +kernel
theorem dX7_nameFits_41 : decode cX7_nameFits 41 = .ok (.ireturn, 1) := by decide +kernel
theorem dX7_nameFits_42 : decode cX7_nameFits 42 = .ok (.aload_n 0, 1) := by decide +kernel
theorem dX7_nameFits_43 : decode cX7_nameFits 43 = .ok (.getfield 44, 3) := by decide +kernel
theorem dX7_nameFits_46 : decode cX7_nameFits 46 = .ok (.iconst 3, 1) := by decide +kernel
theorem dX7_nameFits_47 : decode cX7_nameFits 47 = .ok (.iadd, 1) := by decide +kernel
theorem dX7_nameFits_48 : decode cX7_nameFits 48 = .ok (.istore_n 2, 1) := by decide +kernel
theorem dX7_nameFits_49 : decode cX7_nameFits 49 = .ok (.iload_n 2, 1) := by decide +kernel
theorem dX7_nameFits_50 : decode cX7_nameFits 50 = .ok (.aload_n 0, 1) := by decide +kernel
theorem dX7_nameFits_51 : decode cX7_nameFits 51 = .ok (.getfield 44, 3) := by decide +kernel
theorem dX7_nameFits_54 : decode cX7_nameFits 54 = .ok (.iconst 3, 1) := by decide +kernel
theorem dX7_nameFits_55 : decode cX7_nameFits 55 = .ok (.iadd, 1) := by decide +kernel
theorem dX7_nameFits_56 : decode cX7_nameFits 56 = .ok (.iload_n 1, 1) := by decide +kernel
theorem dX7_nameFits_57 : decode cX7_nameFits 57 = .ok (.iadd, 1) := by decide +kernel
theorem dX7_nameFits_58 : decode cX7_nameFits 58 = .ok (.if_icmp .ge 47, 3) := by decide +kernel
theorem dX7_nameFits_61 : decode cX7_nameFits 61 = .ok (.iload_n 2, 1) := by decide +kernel
theorem dX7_nameFits_62 : decode cX7_nameFits 62 = .ok (.aload_n 0, 1) := by decide +kernel
theorem dX7_nameFits_63 : decode cX7_nameFits 63 = .ok (.getfield 38, 3) := by decide +kernel
theorem dX7_nameFits_66 : decode cX7_nameFits 66 = .ok (.if_icmp .ge 39, 3) := by decide +kernel
theorem dX7_nameFits_69 : decode cX7_nameFits 69 = .ok (.aload_n 0, 1) := by decide +kernel
theorem dX7_nameFits_70 : decode cX7_nameFits 70 = .ok (.iload_n 2, 1) := by decide +kernel
theorem dX7_nameFits_71 : decode cX7_nameFits 71 = .ok (.invokevirtual 100, 3) := by decide +kernel
theorem dX7_nameFits_74 : decode cX7_nameFits 74 = .ok (.bipush 33, 2) := by decide +kernel
theorem dX7_nameFits_76 : decode cX7_nameFits 76 = .ok (.if_icmp .lt 13, 3) := by decide +kernel
theorem dX7_nameFits_79 : decode cX7_nameFits 79 = .ok (.aload_n 0, 1) := by decide +kernel
theorem dX7_nameFits_80 : decode cX7_nameFits 80 = .ok (.iload_n 2, 1) := by decide +kernel
theorem dX7_nameFits_81 : decode cX7_nameFits 81 = .ok (.invokevirtual 100, 3) := by decide +kernel
theorem dX7_nameFits_84 : decode cX7_nameFits 84 = .ok (.bipush 126, 2) := by decide +kernel
theorem dX7_nameFits_86 : decode cX7_nameFits 86 = .ok (.if_icmp .le 13, 3) := by decide +kernel
theorem dX7_nameFits_89 : decode cX7_nameFits 89 = .ok (.aload_n 0, 1) := by decide +kernel
theorem dX7_nameFits_90 : decode cX7_nameFits 90 = .ok (.iconst 4, 1) := by decide +kernel
theorem dX7_nameFits_91 : decode cX7_nameFits 91 = .ok (.aload_n 0, 1) := by decide +kernel
theorem dX7_nameFits_92 : decode cX7_nameFits 92 = .ok (.getfield 44, 3) := by decide +kernel
theorem dX7_nameFits_95 : decode cX7_nameFits 95 = .ok (.invokevirtual 87, 3) := by decide +kernel
theorem dX7_nameFits_98 : decode cX7_nameFits 98 = .ok (.ireturn, 1) := by decide +kernel
theorem dX7_nameFits_99 : decode cX7_nameFits 99 = .ok (.iinc 2 1, 3) := by decide +kernel
theorem dX7_nameFits_102 : decode cX7_nameFits 102 = .ok (.goto (-53), 3) := by decide +kernel
theorem dX7_nameFits_105 : decode cX7_nameFits 105 = .ok (.aload_n 0, 1) := by decide +kernel
theorem dX7_nameFits_106 : decode cX7_nameFits 106 = .ok (.iconst 3, 1) := by decide +kernel
theorem dX7_nameFits_107 : decode cX7_nameFits 107 = .ok (.iload_n 1, 1) := by decide +kernel
theorem dX7_nameFits_108 : decode cX7_nameFits 108 = .ok (.iadd, 1) := by decide +kernel
theorem dX7_nameFits_109 : decode cX7_nameFits 109 = .ok (.invokevirtual 103, 3) := by decide +kernel
theorem dX7_nameFits_112 : decode cX7_nameFits 112 = .ok (.ireturn, 1) := by decide +kernel
theorem dX7_nameLength_0 : decode cX7_nameLength 0 = .ok (.aload_n 0, 1) := by decide +kernel
theorem dX7_nameLength_1 : decode cX7_nameLength 1 = .ok (.aload_n 0, 1) := by decide +kernel
theorem dX7_nameLength_2 : decode cX7_nameLength 2 = .ok (.iload_n 1, 1) := by decide +kernel
theorem dX7_nameLength_3 : decode cX7_nameLength 3 = .ok (.invokevirtual 150, 3) := by decide +kernel
theorem dX7_nameLength_6 : decode cX7_nameLength 6 = .ok (.iconst 1, 1) := by decide +kernel
theorem dX7_nameLength_7 : decode cX7_nameLength 7 = .ok (.iadd, 1) := by decide +kernel
theorem dX7_nameLength_8 : decode cX7_nameLength 8 = .ok (.invokevirtual 107, 3) := by decide +kernel
theorem dX7_nameLength_11 : decode cX7_nameLength 11 = .ok (.ireturn, 1) := by decide +kernel
theorem dX7_nameOf_0 : decode cX7_nameOf 0 = .ok (.aload_n 0, 1) := by decide +kernel
theorem dX7_nameOf_1 : decode cX7_nameOf 1 = .ok (.aload_n 0, 1) := by decide +kernel
theorem dX7_nameOf_2 : decode cX7_nameOf 2 = .ok (.iload_n 1, 1) := by decide +kernel
theorem dX7_nameOf_3 : decode cX7_nameOf 3 = .ok (.invokevirtual 165, 3) := by decide +kernel
theorem dX7_nameOf_6 : decode cX7_nameOf 6 = .ok (.iconst 2, 1) := by decide +kernel
theorem dX7_nameOf_7 : decode cX7_nameOf 7 = .ok (.iadd, 1) := by decide +kernel
theorem dX7_nameOf_8 : decode cX7_nameOf 8 = .ok (.invokevirtual 107, 3) := by decide +kernel
theorem dX7_nameOf_11 : decode cX7_nameOf 11 = .ok (.ireturn, 1) := by decide +kernel
theorem dX7_nameSign_0 : decode cX7_nameSign 0 = .ok (.aload_n 0, 1) := by decide +kernel
theorem dX7_nameSign_1 : decode cX7_nameSign 1 = .ok (.aload_n 0, 1) := by decide +kernel
theorem dX7_nameSign_2 : decode cX7_nameSign 2 = .ok (.iload_n 1, 1) := by decide +kernel
theorem dX7_nameSign_3 : decode cX7_nameSign 3 = .ok (.invokevirtual 150, 3) := by decide +kernel
theorem dX7_nameSign_6 : decode cX7_nameSign 6 = .ok (.iconst 3, 1) := by decide +kernel
theorem dX7_nameSign_7 : decode cX7_nameSign 7 = .ok (.iadd, 1) := by decide +kernel
theorem dX7_nameSign_8 : decode cX7_nameSign 8 = .ok (.iload_n 2, 1) := by decide +kernel
theorem dX7_nameSign_9 : decode cX7_nameSign 9 = .ok (.iadd, 1) := by decide +kernel
theorem dX7_nameSign_10 : decode cX7_nameSign 10 = .ok (.invokevirtual 100, 3) := by decide +kernel
theorem dX7_nameSign_13 : decode cX7_nameSign 13 = .ok (.ireturn, 1) := by decide +kernel
theorem dX7_namesHold_0 : decode cX7_namesHold 0 = .ok (.iconst 0, 1) := by decide +kernel
theorem dX7_namesHold_1 : decode cX7_namesHold 1 = .ok (.istore_n 1, 1) := by decide +kernel
theorem dX7_namesHold_2 : decode cX7_namesHold 2 = .ok (.iload_n 1, 1) := by decide +kernel
theorem dX7_namesHold_3 : decode cX7_namesHold 3 = .ok (.aload_n 0, 1) := by decide +kernel
theorem dX7_namesHold_4 : decode cX7_namesHold 4 = .ok (.getfield 134, 3) := by decide +kernel
theorem dX7_namesHold_7 : decode cX7_namesHold 7 = .ok (.aload_n 0, 1) := by decide +kernel
theorem dX7_namesHold_8 : decode cX7_namesHold 8 = .ok (.getfield 131, 3) := by decide +kernel
theorem dX7_namesHold_11 : decode cX7_namesHold 11 = .ok (.iadd, 1) := by decide +kernel
theorem dX7_namesHold_12 : decode cX7_namesHold 12 = .ok (.if_icmp .ge 48, 3) := by decide +kernel
theorem dX7_namesHold_15 : decode cX7_namesHold 15 = .ok (.aload_n 0, 1) := by decide +kernel
theorem dX7_namesHold_16 : decode cX7_namesHold 16 = .ok (.iload_n 1, 1) := by decide +kernel
theorem dX7_namesHold_17 : decode cX7_namesHold 17 = .ok (.invokevirtual 165, 3) := by decide +kernel
theorem dX7_namesHold_20 : decode cX7_namesHold 20 = .ok (.istore_n 2, 1) := by decide +kernel
theorem dX7_namesHold_21 : decode cX7_namesHold 21 = .ok (.aload_n 0, 1) := by decide +kernel
theorem dX7_namesHold_22 : decode cX7_namesHold 22 = .ok (.iload_n 2, 1) := by decide +kernel
theorem dX7_namesHold_23 : decode cX7_namesHold 23 = .ok (.iconst 2, 1) := by decide +kernel
theorem dX7_namesHold_24 : decode cX7_namesHold 24 = .ok (.iadd, 1) := by decide +kernel
theorem dX7_namesHold_25 : decode cX7_namesHold 25 = .ok (.invokevirtual 168, 3) := by decide +kernel
theorem dX7_namesHold_28 : decode cX7_namesHold 28 = .ok (.ifCond .eq 24, 3) := by decide +kernel
theorem dX7_namesHold_31 : decode cX7_namesHold 31 = .ok (.aload_n 0, 1) := by decide +kernel
theorem dX7_namesHold_32 : decode cX7_namesHold 32 = .ok (.iload_n 2, 1) := by decide +kernel
theorem dX7_namesHold_33 : decode cX7_namesHold 33 = .ok (.iconst 4, 1) := by decide +kernel
theorem dX7_namesHold_34 : decode cX7_namesHold 34 = .ok (.iadd, 1) := by decide +kernel
theorem dX7_namesHold_35 : decode cX7_namesHold 35 = .ok (.invokevirtual 168, 3) := by decide +kernel
theorem dX7_namesHold_38 : decode cX7_namesHold 38 = .ok (.ifCond .eq 14, 3) := by decide +kernel
theorem dX7_namesHold_41 : decode cX7_namesHold 41 = .ok (.aload_n 0, 1) := by decide +kernel
theorem dX7_namesHold_42 : decode cX7_namesHold 42 = .ok (.iload_n 2, 1) := by decide +kernel
theorem dX7_namesHold_43 : decode cX7_namesHold 43 = .ok (.bipush 6, 2) := by decide +kernel
theorem dX7_namesHold_45 : decode cX7_namesHold 45 = .ok (.iadd, 1) := by decide +kernel
theorem dX7_namesHold_46 : decode cX7_namesHold 46 = .ok (.invokevirtual 171, 3) := by decide +kernel
theorem dX7_namesHold_49 : decode cX7_namesHold 49 = .ok (.ifCond .ne 5, 3) := by decide +kernel
theorem dX7_namesHold_52 : decode cX7_namesHold 52 = .ok (.iconst 0, 1) := by decide +kernel
theorem dX7_namesHold_53 : decode cX7_namesHold 53 = .ok (.ireturn, 1) := by decide +kernel
theorem dX7_namesHold_54 : decode cX7_namesHold 54 = .ok (.iinc 1 1, 3) := by decide +kernel
theorem dX7_namesHold_57 : decode cX7_namesHold 57 = .ok (.goto (-55), 3) := by decide +kernel
theorem dX7_namesHold_60 : decode cX7_namesHold 60 = .ok (.aload_n 0, 1) := by decide +kernel
theorem dX7_namesHold_61 : decode cX7_namesHold 61 = .ok (.aload_n 0, 1) := by decide +kernel
theorem dX7_namesHold_62 : decode cX7_namesHold 62 = .ok (.getfield 143, 3) := by decide +kernel
theorem dX7_namesHold_65 : decode cX7_namesHold 65 = .ok (.invokevirtual 171, 3) := by decide +kernel
theorem dX7_namesHold_68 : decode cX7_namesHold 68 = .ok (.ireturn, 1) := by decide +kernel
theorem dX7_noTwins_0 : decode cX7_noTwins 0 = .ok (.iconst 0, 1) := by decide +kernel
theorem dX7_noTwins_1 : decode cX7_noTwins 1 = .ok (.istore_n 1, 1) := by decide +kernel
theorem dX7_noTwins_2 : decode cX7_noTwins 2 = .ok (.iload_n 1, 1) := by decide +kernel
theorem dX7_noTwins_3 : decode cX7_noTwins 3 = .ok (.aload_n 0, 1) := by decide +kernel
theorem dX7_noTwins_4 : decode cX7_noTwins 4 = .ok (.getfield 134, 3) := by decide +kernel
theorem dX7_noTwins_7 : decode cX7_noTwins 7 = .ok (.aload_n 0, 1) := by decide +kernel
theorem dX7_noTwins_8 : decode cX7_noTwins 8 = .ok (.getfield 131, 3) := by decide +kernel
theorem dX7_noTwins_11 : decode cX7_noTwins 11 = .ok (.iadd, 1) := by decide +kernel
theorem dX7_noTwins_12 : decode cX7_noTwins 12 = .ok (.if_icmp .ge 70, 3) := by decide +kernel
theorem dX7_noTwins_15 : decode cX7_noTwins 15 = .ok (.iload_n 1, 1) := by decide +kernel
theorem dX7_noTwins_16 : decode cX7_noTwins 16 = .ok (.aload_n 0, 1) := by decide +kernel
theorem dX7_noTwins_17 : decode cX7_noTwins 17 = .ok (.getfield 134, 3) := by decide +kernel
theorem dX7_noTwins_20 : decode cX7_noTwins 20 = .ok (.if_icmp .ge 7, 3) := by decide +kernel
theorem dX7_noTwins_23 : decode cX7_noTwins 23 = .ok (.iconst 0, 1) := by decide +kernel
theorem dX7_noTwins_24 : decode cX7_noTwins 24 = .ok (.goto 7, 3) := by decide +kernel
theorem dX7_noTwins_27 : decode cX7_noTwins 27 = .ok (.aload_n 0, 1) := by decide +kernel
theorem dX7_noTwins_28 : decode cX7_noTwins 28 = .ok (.getfield 134, 3) := by decide +kernel
theorem dX7_noTwins_31 : decode cX7_noTwins 31 = .ok (.istore_n 2, 1) := by decide +kernel
theorem dX7_noTwins_32 : decode cX7_noTwins 32 = .ok (.iload_n 2, 1) := by decide +kernel
theorem dX7_noTwins_33 : decode cX7_noTwins 33 = .ok (.istore_n 3, 1) := by decide +kernel
theorem dX7_noTwins_34 : decode cX7_noTwins 34 = .ok (.iload_n 3, 1) := by decide +kernel
theorem dX7_noTwins_35 : decode cX7_noTwins 35 = .ok (.iload_n 1, 1) := by decide +kernel
theorem dX7_noTwins_36 : decode cX7_noTwins 36 = .ok (.if_icmp .ge 40, 3) := by decide +kernel
theorem dX7_noTwins_39 : decode cX7_noTwins 39 = .ok (.aload_n 0, 1) := by decide +kernel
theorem dX7_noTwins_40 : decode cX7_noTwins 40 = .ok (.aload_n 0, 1) := by decide +kernel
theorem dX7_noTwins_41 : decode cX7_noTwins 41 = .ok (.iload_n 3, 1) := by decide +kernel
theorem dX7_noTwins_42 : decode cX7_noTwins 42 = .ok (.invokevirtual 212, 3) := by decide +kernel
theorem dX7_noTwins_45 : decode cX7_noTwins 45 = .ok (.aload_n 0, 1) := by decide +kernel
theorem dX7_noTwins_46 : decode cX7_noTwins 46 = .ok (.iload_n 1, 1) := by decide +kernel
theorem dX7_noTwins_47 : decode cX7_noTwins 47 = .ok (.invokevirtual 212, 3) := by decide +kernel
theorem dX7_noTwins_50 : decode cX7_noTwins 50 = .ok (.invokevirtual 215, 3) := by decide +kernel
theorem dX7_noTwins_53 : decode cX7_noTwins 53 = .ok (.ifCond .eq 17, 3) := by decide +kernel
theorem dX7_noTwins_56 : decode cX7_noTwins 56 = .ok (.aload_n 0, 1) := by decide +kernel
theorem dX7_noTwins_57 : decode cX7_noTwins 57 = .ok (.bipush 11, 2) := by decide +kernel
theorem dX7_noTwins_59 : decode cX7_noTwins 59 = .ok (.aload_n 0, 1) := by decide +kernel
theorem dX7_noTwins_60 : decode cX7_noTwins 60 = .ok (.iload_n 1, 1) := by decide +kernel
theorem dX7_noTwins_61 : decode cX7_noTwins 61 = .ok (.invokevirtual 165, 3) := by decide +kernel
theorem dX7_noTwins_64 : decode cX7_noTwins 64 = .ok (.iconst 2, 1) := by decide +kernel
theorem dX7_noTwins_65 : decode cX7_noTwins 65 = .ok (.iadd, 1) := by decide +kernel
theorem dX7_noTwins_66 : decode cX7_noTwins 66 = .ok (.invokevirtual 87, 3) := by decide +kernel
theorem dX7_noTwins_69 : decode cX7_noTwins 69 = .ok (.ireturn, 1) := by decide +kernel
theorem dX7_noTwins_70 : decode cX7_noTwins 70 = .ok (.iinc 3 1, 3) := by decide +kernel
theorem dX7_noTwins_73 : decode cX7_noTwins 73 = .ok (.goto (-39), 3) := by decide +kernel
theorem dX7_noTwins_76 : decode cX7_noTwins 76 = .ok (.iinc 1 1, 3) := by decide +kernel
theorem dX7_noTwins_79 : decode cX7_noTwins 79 = .ok (.goto (-77), 3) := by decide +kernel
theorem dX7_noTwins_82 : decode cX7_noTwins 82 = .ok (.iconst 1, 1) := by decide +kernel
theorem dX7_noTwins_83 : decode cX7_noTwins 83 = .ok (.ireturn, 1) := by decide +kernel
theorem dX7_poolFits_0 : decode cX7_poolFits 0 = .ok (.aload_n 0, 1) := by decide +kernel
theorem dX7_poolFits_1 : decode cX7_poolFits 1 = .ok (.iconst 2, 1) := by decide +kernel
theorem dX7_poolFits_2 : decode cX7_poolFits 2 = .ok (.invokevirtual 103, 3) := by decide +kernel
theorem dX7_poolFits_5 : decode cX7_poolFits 5 = .ok (.ifCond .ne 5, 3) := by decide +kernel
theorem dX7_poolFits_8 : decode cX7_poolFits 8 = .ok (.iconst 0, 1) := by decide +kernel
theorem dX7_poolFits_9 : decode cX7_poolFits 9 = .ok (.ireturn, 1) := by decide +kernel
theorem dX7_poolFits_10 : decode cX7_poolFits 10 = .ok (.aload_n 0, 1) := by decide +kernel
theorem dX7_poolFits_11 : decode cX7_poolFits 11 = .ok (.aload_n 0, 1) := by decide +kernel
theorem dX7_poolFits_12 : decode cX7_poolFits 12 = .ok (.aload_n 0, 1) := by decide +kernel
theorem dX7_poolFits_13 : decode cX7_poolFits 13 = .ok (.getfield 44, 3) := by decide +kernel
theorem dX7_poolFits_16 : decode cX7_poolFits 16 = .ok (.invokevirtual 107, 3) := by decide +kernel
theorem dX7_poolFits_19 : decode cX7_poolFits 19 = .ok (.putfield 110, 3) := by decide +kernel
theorem dX7_poolFits_22 : decode cX7_poolFits 22 = .ok (.aload_n 0, 1) := by decide +kernel
theorem dX7_poolFits_23 : decode cX7_poolFits 23 = .ok (.getfield 110, 3) := by decide +kernel
theorem dX7_poolFits_26 : decode cX7_poolFits 26 = .ok (.iconst 1, 1) := by decide +kernel
theorem dX7_poolFits_27 : decode cX7_poolFits 27 = .ok (.if_icmp .lt 13, 3) := by decide +kernel
theorem dX7_poolFits_30 : decode cX7_poolFits 30 = .ok (.aload_n 0, 1) := by decide +kernel
theorem dX7_poolFits_31 : decode cX7_poolFits 31 = .ok (.getfield 110, 3) := by decide +kernel
theorem dX7_poolFits_34 : decode cX7_poolFits 34 = .ok (.sipush 500, 3) := by decide +kernel
theorem dX7_poolFits_37 : decode cX7_poolFits 37 = .ok (.if_icmp .le 13, 3) := by decide +kernel
theorem dX7_poolFits_40 : decode cX7_poolFits 40 = .ok (.aload_n 0, 1) := by decide +kernel
theorem dX7_poolFits_41 : decode cX7_poolFits 41 = .ok (.iconst 5, 1) := by decide +kernel
theorem dX7_poolFits_42 : decode cX7_poolFits 42 = .ok (.aload_n 0, 1) := by decide +kernel
theorem dX7_poolFits_43 : decode cX7_poolFits 43 = .ok (.getfield 44, 3) := by decide +kernel
theorem dX7_poolFits_46 : decode cX7_poolFits 46 = .ok (.invokevirtual 87, 3) := by decide +kernel
theorem dX7_poolFits_49 : decode cX7_poolFits 49 = .ok (.ireturn, 1) := by decide +kernel
theorem dX7_poolFits_50 : decode cX7_poolFits 50 = .ok (.aload_n 0, 1) := by decide +kernel
theorem dX7_poolFits_51 : decode cX7_poolFits 51 = .ok (.dup, 1) := by decide +kernel
theorem dX7_poolFits_52 : decode cX7_poolFits 52 = .ok (.getfield 44, 3) := by decide +kernel
theorem dX7_poolFits_55 : decode cX7_poolFits 55 = .ok (.iconst 2, 1) := by decide +kernel
theorem dX7_poolFits_56 : decode cX7_poolFits 56 = .ok (.iadd, 1) := by decide +kernel
theorem dX7_poolFits_57 : decode cX7_poolFits 57 = .ok (.putfield 44, 3) := by decide +kernel
theorem dX7_poolFits_60 : decode cX7_poolFits 60 = .ok (.aload_n 0, 1) := by decide +kernel
theorem dX7_poolFits_61 : decode cX7_poolFits 61 = .ok (.getfield 19, 3) := by decide +kernel
theorem dX7_poolFits_64 : decode cX7_poolFits 64 = .ok (.iconst 0, 1) := by decide +kernel
theorem dX7_poolFits_65 : decode cX7_poolFits 65 = .ok (.invokestatic 113, 3) := by decide +kernel
theorem dX7_poolFits_68 : decode cX7_poolFits 68 = .ok (.iconst 1, 1) := by decide +kernel
theorem dX7_poolFits_69 : decode cX7_poolFits 69 = .ok (.istore_n 1, 1) := by decide +kernel
theorem dX7_poolFits_70 : decode cX7_poolFits 70 = .ok (.iload_n 1, 1) := by decide +kernel
theorem dX7_poolFits_71 : decode cX7_poolFits 71 = .ok (.aload_n 0, 1) := by decide +kernel
theorem dX7_poolFits_72 : decode cX7_poolFits 72 = .ok (.getfield 110, 3) := by decide +kernel
theorem dX7_poolFits_75 : decode cX7_poolFits 75 = .ok (.if_icmp .ge 78, 3) := by decide +kernel
theorem dX7_poolFits_78 : decode cX7_poolFits 78 = .ok (.iload_n 1, 1) := by decide +kernel
theorem dX7_poolFits_79 : decode cX7_poolFits 79 = .ok (.aload_n 0, 1) := by decide +kernel
theorem dX7_poolFits_80 : decode cX7_poolFits 80 = .ok (.getfield 19, 3) := by decide +kernel
theorem dX7_poolFits_83 : decode cX7_poolFits 83 = .ok (.arraylength, 1) := by decide +kernel
theorem dX7_poolFits_84 : decode cX7_poolFits 84 = .ok (.if_icmp .ge 69, 3) := by decide +kernel
theorem dX7_poolFits_87 : decode cX7_poolFits 87 = .ok (.aload_n 0, 1) := by decide +kernel
theorem dX7_poolFits_88 : decode cX7_poolFits 88 = .ok (.invokevirtual 119, 3) := by decide +kernel
theorem dX7_poolFits_91 : decode cX7_poolFits 91 = .ok (.ifCond .ne 5, 3) := by decide +kernel
theorem dX7_poolFits_94 : decode cX7_poolFits 94 = .ok (.iconst 0, 1) := by decide +kernel
theorem dX7_poolFits_95 : decode cX7_poolFits 95 = .ok (.ireturn, 1) := by decide +kernel
theorem dX7_poolFits_96 : decode cX7_poolFits 96 = .ok (.aload_n 0, 1) := by decide +kernel
theorem dX7_poolFits_97 : decode cX7_poolFits 97 = .ok (.getfield 19, 3) := by decide +kernel
theorem dX7_poolFits_100 : decode cX7_poolFits 100 = .ok (.iload_n 1, 1) := by decide +kernel
theorem dX7_poolFits_101 : decode cX7_poolFits 101 = .ok (.aload_n 0, 1) := by decide +kernel
theorem dX7_poolFits_102 : decode cX7_poolFits 102 = .ok (.getfield 44, 3) := by decide +kernel
theorem dX7_poolFits_105 : decode cX7_poolFits 105 = .ok (.iastore, 1) := by decide +kernel
theorem dX7_poolFits_106 : decode cX7_poolFits 106 = .ok (.iload_n 1, 1) := by decide +kernel
theorem dX7_poolFits_107 : decode cX7_poolFits 107 = .ok (.aload_n 0, 1) := by decide +kernel
theorem dX7_poolFits_108 : decode cX7_poolFits 108 = .ok (.aload_n 0, 1) := by decide +kernel
theorem dX7_poolFits_109 : decode cX7_poolFits 109 = .ok (.getfield 44, 3) := by decide +kernel
theorem dX7_poolFits_112 : decode cX7_poolFits 112 = .ok (.invokevirtual 100, 3) := by decide +kernel
theorem dX7_poolFits_115 : decode cX7_poolFits 115 = .ok (.iconst 5, 1) := by decide +kernel
theorem dX7_poolFits_116 : decode cX7_poolFits 116 = .ok (.if_icmp .ne 7, 3) := by decide +kernel
theorem dX7_poolFits_119 : decode cX7_poolFits 119 = .ok (.iconst 1, 1) := by decide +kernel
theorem dX7_poolFits_120 : decode cX7_poolFits 120 = .ok (.goto 4, 3) := by decide +kernel
theorem dX7_poolFits_123 : decode cX7_poolFits 123 = .ok (.iconst 0, 1) := by decide +kernel
theorem dX7_poolFits_124 : decode cX7_poolFits 124 = .ok (.iadd, 1) := by decide +kernel
theorem dX7_poolFits_125 : decode cX7_poolFits 125 = .ok (.istore_n 1, 1) := by decide +kernel
theorem dX7_poolFits_126 : decode cX7_poolFits 126 = .ok (.aload_n 0, 1) := by decide +kernel
theorem dX7_poolFits_127 : decode cX7_poolFits 127 = .ok (.dup, 1) := by decide +kernel
theorem dX7_poolFits_128 : decode cX7_poolFits 128 = .ok (.getfield 44, 3) := by decide +kernel
theorem dX7_poolFits_131 : decode cX7_poolFits 131 = .ok (.aload_n 0, 1) := by decide +kernel
theorem dX7_poolFits_132 : decode cX7_poolFits 132 = .ok (.aload_n 0, 1) := by decide +kernel
theorem dX7_poolFits_133 : decode cX7_poolFits 133 = .ok (.aload_n 0, 1) := by decide +kernel
theorem dX7_poolFits_134 : decode cX7_poolFits 134 = .ok (.getfield 44, 3) := by decide +kernel
theorem dX7_poolFits_137 : decode cX7_poolFits 137 = .ok (.invokevirtual 100, 3) := by decide +kernel
theorem dX7_poolFits_140 : decode cX7_poolFits 140 = .ok (.invokevirtual 122, 3) := by decide +kernel
theorem dX7_poolFits_143 : decode cX7_poolFits 143 = .ok (.iadd, 1) := by decide +kernel
theorem dX7_poolFits_144 : decode cX7_poolFits 144 = .ok (.putfield 44, 3) := by decide +kernel
theorem dX7_poolFits_147 : decode cX7_poolFits 147 = .ok (.iinc 1 1, 3) := by decide +kernel
theorem dX7_poolFits_150 : decode cX7_poolFits 150 = .ok (.goto (-80), 3) := by decide +kernel
theorem dX7_poolFits_153 : decode cX7_poolFits 153 = .ok (.iconst 1, 1) := by decide +kernel
theorem dX7_poolFits_154 : decode cX7_poolFits 154 = .ok (.ireturn, 1) := by decide +kernel
theorem dX7_s4_0 : decode cX7_s4 0 = .ok (.iload_n 1, 1) := by decide +kernel
theorem dX7_s4_1 : decode cX7_s4 1 = .ok (.ifCond .lt 25, 3) := by decide +kernel
theorem dX7_s4_4 : decode cX7_s4 4 = .ok (.iload_n 1, 1) := by decide +kernel
theorem dX7_s4_5 : decode cX7_s4 5 = .ok (.aload_n 0, 1) := by decide +kernel
theorem dX7_s4_6 : decode cX7_s4 6 = .ok (.getfield 38, 3) := by decide +kernel
theorem dX7_s4_9 : decode cX7_s4 9 = .ok (.iconst 4, 1) := by decide +kernel
theorem dX7_s4_10 : decode cX7_s4 10 = .ok (.isub, 1) := by decide +kernel
theorem dX7_s4_11 : decode cX7_s4 11 = .ok (.if_icmp .gt 15, 3) := by decide +kernel
theorem dX7_s4_14 : decode cX7_s4 14 = .ok (.aload_n 0, 1) := by decide +kernel
theorem dX7_s4_15 : decode cX7_s4 15 = .ok (.getfield 38, 3) := by decide +kernel
theorem dX7_s4_18 : decode cX7_s4 18 = .ok (.aload_n 0, 1) := by decide +kernel
theorem dX7_s4_19 : decode cX7_s4 19 = .ok (.getfield 9, 3) := by decide +kernel
theorem dX7_s4_22 : decode cX7_s4 22 = .ok (.arraylength, 1) := by decide +kernel
theorem dX7_s4_23 : decode cX7_s4 23 = .ok (.if_icmp .le 5, 3) := by decide +kernel
theorem dX7_s4_26 : decode cX7_s4 26 = .ok (.iconst 0, 1) := by decide +kernel
theorem dX7_s4_27 : decode cX7_s4 27 = .ok (.ireturn, 1) := by decide +kernel
theorem dX7_s4_28 : decode cX7_s4 28 = .ok (.aload_n 0, 1) := by decide +kernel
theorem dX7_s4_29 : decode cX7_s4 29 = .ok (.getfield 9, 3) := by decide +kernel
theorem dX7_s4_32 : decode cX7_s4 32 = .ok (.iload_n 1, 1) := by decide +kernel
theorem dX7_s4_33 : decode cX7_s4 33 = .ok (.baload, 1) := by decide +kernel
theorem dX7_s4_34 : decode cX7_s4 34 = .ok (.bipush 24, 2) := by decide +kernel
theorem dX7_s4_36 : decode cX7_s4 36 = .ok (.ishl, 1) := by decide +kernel
theorem dX7_s4_37 : decode cX7_s4 37 = .ok (.aload_n 0, 1) := by decide +kernel
theorem dX7_s4_38 : decode cX7_s4 38 = .ok (.getfield 9, 3) := by decide +kernel
theorem dX7_s4_41 : decode cX7_s4 41 = .ok (.iload_n 1, 1) := by decide +kernel
theorem dX7_s4_42 : decode cX7_s4 42 = .ok (.iconst 1, 1) := by decide +kernel
theorem dX7_s4_43 : decode cX7_s4 43 = .ok (.iadd, 1) := by decide +kernel
theorem dX7_s4_44 : decode cX7_s4 44 = .ok (.baload, 1) := by decide +kernel
theorem dX7_s4_45 : decode cX7_s4 45 = .ok (.sipush 255, 3) := by decide +kernel
theorem dX7_s4_48 : decode cX7_s4 48 = .ok (.iand, 1) := by decide +kernel
theorem dX7_s4_49 : decode cX7_s4 49 = .ok (.bipush 16, 2) := by decide +kernel
theorem dX7_s4_51 : decode cX7_s4 51 = .ok (.ishl, 1) := by decide +kernel
theorem dX7_s4_52 : decode cX7_s4 52 = .ok (.ior, 1) := by decide +kernel
theorem dX7_s4_53 : decode cX7_s4 53 = .ok (.aload_n 0, 1) := by decide +kernel
theorem dX7_s4_54 : decode cX7_s4 54 = .ok (.getfield 9, 3) := by decide +kernel
theorem dX7_s4_57 : decode cX7_s4 57 = .ok (.iload_n 1, 1) := by decide +kernel
theorem dX7_s4_58 : decode cX7_s4 58 = .ok (.iconst 2, 1) := by decide +kernel
theorem dX7_s4_59 : decode cX7_s4 59 = .ok (.iadd, 1) := by decide +kernel
theorem dX7_s4_60 : decode cX7_s4 60 = .ok (.baload, 1) := by decide +kernel
theorem dX7_s4_61 : decode cX7_s4 61 = .ok (.sipush 255, 3) := by decide +kernel
theorem dX7_s4_64 : decode cX7_s4 64 = .ok (.iand, 1) := by decide +kernel
theorem dX7_s4_65 : decode cX7_s4 65 = .ok (.bipush 8, 2) := by decide +kernel
theorem dX7_s4_67 : decode cX7_s4 67 = .ok (.ishl, 1) := by decide +kernel
theorem dX7_s4_68 : decode cX7_s4 68 = .ok (.ior, 1) := by decide +kernel
theorem dX7_s4_69 : decode cX7_s4 69 = .ok (.aload_n 0, 1) := by decide +kernel
theorem dX7_s4_70 : decode cX7_s4 70 = .ok (.getfield 9, 3) := by decide +kernel
theorem dX7_s4_73 : decode cX7_s4 73 = .ok (.iload_n 1, 1) := by decide +kernel
theorem dX7_s4_74 : decode cX7_s4 74 = .ok (.iconst 3, 1) := by decide +kernel
theorem dX7_s4_75 : decode cX7_s4 75 = .ok (.iadd, 1) := by decide +kernel
theorem dX7_s4_76 : decode cX7_s4 76 = .ok (.baload, 1) := by decide +kernel
theorem dX7_s4_77 : decode cX7_s4 77 = .ok (.sipush 255, 3) := by decide +kernel
theorem dX7_s4_80 : decode cX7_s4 80 = .ok (.iand, 1) := by decide +kernel
theorem dX7_s4_81 : decode cX7_s4 81 = .ok (.ior, 1) := by decide +kernel
theorem dX7_s4_82 : decode cX7_s4 82 = .ok (.ireturn, 1) := by decide +kernel
theorem dX7_secondOf_0 : decode cX7_secondOf 0 = .ok (.aload_n 0, 1) := by decide +kernel
theorem dX7_secondOf_1 : decode cX7_secondOf 1 = .ok (.aload_n 0, 1) := by decide +kernel
theorem dX7_secondOf_2 : decode cX7_secondOf 2 = .ok (.iload_n 1, 1) := by decide +kernel
theorem dX7_secondOf_3 : decode cX7_secondOf 3 = .ok (.invokevirtual 150, 3) := by decide +kernel
theorem dX7_secondOf_6 : decode cX7_secondOf 6 = .ok (.iconst 3, 1) := by decide +kernel
theorem dX7_secondOf_7 : decode cX7_secondOf 7 = .ok (.iadd, 1) := by decide +kernel
theorem dX7_secondOf_8 : decode cX7_secondOf 8 = .ok (.invokevirtual 107, 3) := by decide +kernel
theorem dX7_secondOf_11 : decode cX7_secondOf 11 = .ok (.ireturn, 1) := by decide +kernel
theorem dX7_tagOf_0 : decode cX7_tagOf 0 = .ok (.aload_n 0, 1) := by decide +kernel
theorem dX7_tagOf_1 : decode cX7_tagOf 1 = .ok (.iload_n 1, 1) := by decide +kernel
theorem dX7_tagOf_2 : decode cX7_tagOf 2 = .ok (.invokevirtual 150, 3) := by decide +kernel
theorem dX7_tagOf_5 : decode cX7_tagOf 5 = .ok (.ifCond .ne 7, 3) := by decide +kernel
theorem dX7_tagOf_8 : decode cX7_tagOf 8 = .ok (.iconst 0, 1) := by decide +kernel
theorem dX7_tagOf_9 : decode cX7_tagOf 9 = .ok (.goto 12, 3) := by decide +kernel
theorem dX7_tagOf_12 : decode cX7_tagOf 12 = .ok (.aload_n 0, 1) := by decide +kernel
theorem dX7_tagOf_13 : decode cX7_tagOf 13 = .ok (.aload_n 0, 1) := by decide +kernel
theorem dX7_tagOf_14 : decode cX7_tagOf 14 = .ok (.iload_n 1, 1) := by decide +kernel
theorem dX7_tagOf_15 : decode cX7_tagOf 15 = .ok (.invokevirtual 150, 3) := by decide +kernel
theorem dX7_tagOf_18 : decode cX7_tagOf 18 = .ok (.invokevirtual 100, 3) := by decide +kernel
theorem dX7_tagOf_21 : decode cX7_tagOf 21 = .ok (.ireturn, 1) := by decide +kernel
theorem dX7_typeOf_0 : decode cX7_typeOf 0 = .ok (.aload_n 0, 1) := by decide +kernel
theorem dX7_typeOf_1 : decode cX7_typeOf 1 = .ok (.aload_n 0, 1) := by decide +kernel
theorem dX7_typeOf_2 : decode cX7_typeOf 2 = .ok (.iload_n 1, 1) := by decide +kernel
theorem dX7_typeOf_3 : decode cX7_typeOf 3 = .ok (.invokevirtual 165, 3) := by decide +kernel
theorem dX7_typeOf_6 : decode cX7_typeOf 6 = .ok (.iconst 4, 1) := by decide +kernel
theorem dX7_typeOf_7 : decode cX7_typeOf 7 = .ok (.iadd, 1) := by decide +kernel
theorem dX7_typeOf_8 : decode cX7_typeOf 8 = .ok (.invokevirtual 107, 3) := by decide +kernel
theorem dX7_typeOf_11 : decode cX7_typeOf 11 = .ok (.ireturn, 1) := by decide +kernel
theorem dX7_typesHold_0 : decode cX7_typesHold 0 = .ok (.iconst 1, 1) := by decide +kernel
theorem dX7_typesHold_1 : decode cX7_typesHold 1 = .ok (.istore_n 1, 1) := by decide +kernel
theorem dX7_typesHold_2 : decode cX7_typesHold 2 = .ok (.iload_n 1, 1) := by decide +kernel
theorem dX7_typesHold_3 : decode cX7_typesHold 3 = .ok (.aload_n 0, 1) := by decide +kernel
theorem dX7_typesHold_4 : decode cX7_typesHold 4 = .ok (.getfield 110, 3) := by decide +kernel
theorem dX7_typesHold_7 : decode cX7_typesHold 7 = .ok (.if_icmp .ge 71, 3) := by decide +kernel
theorem dX7_typesHold_10 : decode cX7_typesHold 10 = .ok (.aload_n 0, 1) := by decide +kernel
theorem dX7_typesHold_11 : decode cX7_typesHold 11 = .ok (.iload_n 1, 1) := by decide +kernel
theorem dX7_typesHold_12 : decode cX7_typesHold 12 = .ok (.invokevirtual 156, 3) := by decide +kernel
theorem dX7_typesHold_15 : decode cX7_typesHold 15 = .ok (.istore_n 2, 1) := by decide +kernel
theorem dX7_typesHold_16 : decode cX7_typesHold 16 = .ok (.iload_n 2, 1) := by decide +kernel
theorem dX7_typesHold_17 : decode cX7_typesHold 17 = .ok (.bipush 9, 2) := by decide +kernel
theorem dX7_typesHold_19 : decode cX7_typesHold 19 = .ok (.if_icmp .ne 19, 3) := by decide +kernel
theorem dX7_typesHold_22 : decode cX7_typesHold 22 = .ok (.aload_n 0, 1) := by decide +kernel
theorem dX7_typesHold_23 : decode cX7_typesHold 23 = .ok (.aload_n 0, 1) := by decide +kernel
theorem dX7_typesHold_24 : decode cX7_typesHold 24 = .ok (.aload_n 0, 1) := by decide +kernel
theorem dX7_typesHold_25 : decode cX7_typesHold 25 = .ok (.iload_n 1, 1) := by decide +kernel
theorem dX7_typesHold_26 : decode cX7_typesHold 26 = .ok (.invokevirtual 162, 3) := by decide +kernel
theorem dX7_typesHold_29 : decode cX7_typesHold 29 = .ok (.invokevirtual 162, 3) := by decide +kernel
theorem dX7_typesHold_32 : decode cX7_typesHold 32 = .ok (.invokevirtual 174, 3) := by decide +kernel
theorem dX7_typesHold_35 : decode cX7_typesHold 35 = .ok (.ifCond .eq 25, 3) := by decide +kernel
theorem dX7_typesHold_38 : decode cX7_typesHold 38 = .ok (.iload_n 2, 1) := by decide +kernel
theorem dX7_typesHold_39 : decode cX7_typesHold 39 = .ok (.bipush 10, 2) := by decide +kernel
theorem dX7_typesHold_41 : decode cX7_typesHold 41 = .ok (.if_icmp .ne 31, 3) := by decide +kernel
theorem dX7_typesHold_44 : decode cX7_typesHold 44 = .ok (.aload_n 0, 1) := by decide +kernel
theorem dX7_typesHold_45 : decode cX7_typesHold 45 = .ok (.aload_n 0, 1) := by decide +kernel
theorem dX7_typesHold_46 : decode cX7_typesHold 46 = .ok (.aload_n 0, 1) := by decide +kernel
theorem dX7_typesHold_47 : decode cX7_typesHold 47 = .ok (.iload_n 1, 1) := by decide +kernel
theorem dX7_typesHold_48 : decode cX7_typesHold 48 = .ok (.invokevirtual 162, 3) := by decide +kernel
theorem dX7_typesHold_51 : decode cX7_typesHold 51 = .ok (.invokevirtual 162, 3) := by decide +kernel
theorem dX7_typesHold_54 : decode cX7_typesHold 54 = .ok (.invokevirtual 177, 3) := by decide +kernel
theorem dX7_typesHold_57 : decode cX7_typesHold 57 = .ok (.ifCond .ne 15, 3) := by decide +kernel
theorem dX7_typesHold_60 : decode cX7_typesHold 60 = .ok (.aload_n 0, 1) := by decide +kernel
theorem dX7_typesHold_61 : decode cX7_typesHold 61 = .ok (.bipush 10, 2) := by decide +kernel
theorem dX7_typesHold_63 : decode cX7_typesHold 63 = .ok (.aload_n 0, 1) := by decide +kernel
theorem dX7_typesHold_64 : decode cX7_typesHold 64 = .ok (.iload_n 1, 1) := by decide +kernel
theorem dX7_typesHold_65 : decode cX7_typesHold 65 = .ok (.invokevirtual 150, 3) := by decide +kernel
theorem dX7_typesHold_68 : decode cX7_typesHold 68 = .ok (.invokevirtual 87, 3) := by decide +kernel
theorem dX7_typesHold_71 : decode cX7_typesHold 71 = .ok (.ireturn, 1) := by decide +kernel
theorem dX7_typesHold_72 : decode cX7_typesHold 72 = .ok (.iinc 1 1, 3) := by decide +kernel
theorem dX7_typesHold_75 : decode cX7_typesHold 75 = .ok (.goto (-73), 3) := by decide +kernel
theorem dX7_typesHold_78 : decode cX7_typesHold 78 = .ok (.iconst 0, 1) := by decide +kernel
theorem dX7_typesHold_79 : decode cX7_typesHold 79 = .ok (.istore_n 1, 1) := by decide +kernel
theorem dX7_typesHold_80 : decode cX7_typesHold 80 = .ok (.iload_n 1, 1) := by decide +kernel
theorem dX7_typesHold_81 : decode cX7_typesHold 81 = .ok (.aload_n 0, 1) := by decide +kernel
theorem dX7_typesHold_82 : decode cX7_typesHold 82 = .ok (.getfield 134, 3) := by decide +kernel
theorem dX7_typesHold_85 : decode cX7_typesHold 85 = .ok (.aload_n 0, 1) := by decide +kernel
theorem dX7_typesHold_86 : decode cX7_typesHold 86 = .ok (.getfield 131, 3) := by decide +kernel
theorem dX7_typesHold_89 : decode cX7_typesHold 89 = .ok (.iadd, 1) := by decide +kernel
theorem dX7_typesHold_90 : decode cX7_typesHold 90 = .ok (.if_icmp .ge 82, 3) := by decide +kernel
theorem dX7_typesHold_93 : decode cX7_typesHold 93 = .ok (.iload_n 1, 1) := by decide +kernel
theorem dX7_typesHold_94 : decode cX7_typesHold 94 = .ok (.aload_n 0, 1) := by decide +kernel
theorem dX7_typesHold_95 : decode cX7_typesHold 95 = .ok (.getfield 134, 3) := by decide +kernel
theorem dX7_typesHold_98 : decode cX7_typesHold 98 = .ok (.if_icmp .ge 23, 3) := by decide +kernel
theorem dX7_typesHold_101 : decode cX7_typesHold 101 = .ok (.aload_n 0, 1) := by decide +kernel
theorem dX7_typesHold_102 : decode cX7_typesHold 102 = .ok (.aload_n 0, 1) := by decide +kernel
theorem dX7_typesHold_103 : decode cX7_typesHold 103 = .ok (.iload_n 1, 1) := by decide +kernel
theorem dX7_typesHold_104 : decode cX7_typesHold 104 = .ok (.invokevirtual 180, 3) := by decide +kernel
theorem dX7_typesHold_107 : decode cX7_typesHold 107 = .ok (.invokevirtual 174, 3) := by decide +kernel
theorem dX7_typesHold_110 : decode cX7_typesHold 110 = .ok (.ifCond .eq 7, 3) := by decide +kernel
theorem dX7_typesHold_113 : decode cX7_typesHold 113 = .ok (.iconst 1, 1) := by decide +kernel
theorem dX7_typesHold_114 : decode cX7_typesHold 114 = .ok (.goto 33, 3) := by decide +kernel
theorem dX7_typesHold_117 : decode cX7_typesHold 117 = .ok (.iconst 0, 1) := by decide +kernel
theorem dX7_typesHold_118 : decode cX7_typesHold 118 = .ok (.goto 29, 3) := by decide +kernel
theorem dX7_typesHold_121 : decode cX7_typesHold 121 = .ok (.aload_n 0, 1) := by decide +kernel
theorem dX7_typesHold_122 : decode cX7_typesHold 122 = .ok (.aload_n 0, 1) := by decide +kernel
theorem dX7_typesHold_123 : decode cX7_typesHold 123 = .ok (.iload_n 1, 1) := by decide +kernel
theorem dX7_typesHold_124 : decode cX7_typesHold 124 = .ok (.invokevirtual 180, 3) := by decide +kernel
theorem dX7_typesHold_127 : decode cX7_typesHold 127 = .ok (.invokevirtual 177, 3) := by decide +kernel
theorem dX7_typesHold_130 : decode cX7_typesHold 130 = .ok (.ifCond .eq 16, 3) := by decide +kernel
theorem dX7_typesHold_133 : decode cX7_typesHold 133 = .ok (.aload_n 0, 1) := by decide +kernel
theorem dX7_typesHold_134 : decode cX7_typesHold 134 = .ok (.getfield 183, 3) := by decide +kernel
theorem dX7_typesHold_137 : decode cX7_typesHold 137 = .ok (.bipush 8, 2) := by decide +kernel
theorem dX7_typesHold_139 : decode cX7_typesHold 139 = .ok (.if_icmp .gt 7, 3) := by decide +kernel
theorem dX7_typesHold_142 : decode cX7_typesHold 142 = .ok (.iconst 1, 1) := by decide +kernel
theorem dX7_typesHold_143 : decode cX7_typesHold 143 = .ok (.goto 4, 3) := by decide +kernel
theorem dX7_typesHold_146 : decode cX7_typesHold 146 = .ok (.iconst 0, 1) := by decide +kernel
theorem dX7_typesHold_147 : decode cX7_typesHold 147 = .ok (.istore_n 2, 1) := by decide +kernel
theorem dX7_typesHold_148 : decode cX7_typesHold 148 = .ok (.iload_n 2, 1) := by decide +kernel
theorem dX7_typesHold_149 : decode cX7_typesHold 149 = .ok (.ifCond .ne 17, 3) := by decide +kernel
theorem dX7_typesHold_152 : decode cX7_typesHold 152 = .ok (.aload_n 0, 1) := by decide +kernel
theorem dX7_typesHold_153 : decode cX7_typesHold 153 = .ok (.bipush 10, 2) := by decide +kernel
theorem dX7_typesHold_155 : decode cX7_typesHold 155 = .ok (.aload_n 0, 1) := by decide +kernel
theorem dX7_typesHold_156 : decode cX7_typesHold 156 = .ok (.iload_n 1, 1) := by decide +kernel
theorem dX7_typesHold_157 : decode cX7_typesHold 157 = .ok (.invokevirtual 165, 3) := by decide +kernel
theorem dX7_typesHold_160 : decode cX7_typesHold 160 = .ok (.iconst 4, 1) := by decide +kernel
theorem dX7_typesHold_161 : decode cX7_typesHold 161 = .ok (.iadd, 1) := by decide +kernel
theorem dX7_typesHold_162 : decode cX7_typesHold 162 = .ok (.invokevirtual 87, 3) := by decide +kernel
theorem dX7_typesHold_165 : decode cX7_typesHold 165 = .ok (.ireturn, 1) := by decide +kernel
theorem dX7_typesHold_166 : decode cX7_typesHold 166 = .ok (.iinc 1 1, 3) := by decide +kernel
theorem dX7_typesHold_169 : decode cX7_typesHold 169 = .ok (.goto (-89), 3) := by decide +kernel
theorem dX7_typesHold_172 : decode cX7_typesHold 172 = .ok (.iconst 1, 1) := by decide +kernel
theorem dX7_typesHold_173 : decode cX7_typesHold 173 = .ok (.ireturn, 1) := by decide +kernel
theorem dX7_u1_0 : decode cX7_u1 0 = .ok (.iload_n 1, 1) := by decide +kernel
theorem dX7_u1_1 : decode cX7_u1 1 = .ok (.ifCond .lt 20, 3) := by decide +kernel
theorem dX7_u1_4 : decode cX7_u1 4 = .ok (.iload_n 1, 1) := by decide +kernel
theorem dX7_u1_5 : decode cX7_u1 5 = .ok (.aload_n 0, 1) := by decide +kernel
theorem dX7_u1_6 : decode cX7_u1 6 = .ok (.getfield 38, 3) := by decide +kernel
theorem dX7_u1_9 : decode cX7_u1 9 = .ok (.if_icmp .ge 12, 3) := by decide +kernel
theorem dX7_u1_12 : decode cX7_u1 12 = .ok (.iload_n 1, 1) := by decide +kernel
theorem dX7_u1_13 : decode cX7_u1 13 = .ok (.aload_n 0, 1) := by decide +kernel
theorem dX7_u1_14 : decode cX7_u1 14 = .ok (.getfield 9, 3) := by decide +kernel
theorem dX7_u1_17 : decode cX7_u1 17 = .ok (.arraylength, 1) := by decide +kernel
theorem dX7_u1_18 : decode cX7_u1 18 = .ok (.if_icmp .lt 7, 3) := by decide +kernel
theorem dX7_u1_21 : decode cX7_u1 21 = .ok (.iconst 0, 1) := by decide +kernel
theorem dX7_u1_22 : decode cX7_u1 22 = .ok (.goto 13, 3) := by decide +kernel
theorem dX7_u1_25 : decode cX7_u1 25 = .ok (.aload_n 0, 1) := by decide +kernel
theorem dX7_u1_26 : decode cX7_u1 26 = .ok (.getfield 9, 3) := by decide +kernel
theorem dX7_u1_29 : decode cX7_u1 29 = .ok (.iload_n 1, 1) := by decide +kernel
theorem dX7_u1_30 : decode cX7_u1 30 = .ok (.baload, 1) := by decide +kernel
theorem dX7_u1_31 : decode cX7_u1 31 = .ok (.sipush 255, 3) := by decide +kernel
theorem dX7_u1_34 : decode cX7_u1 34 = .ok (.iand, 1) := by decide +kernel
theorem dX7_u1_35 : decode cX7_u1 35 = .ok (.ireturn, 1) := by decide +kernel
theorem dX7_u2_0 : decode cX7_u2 0 = .ok (.iload_n 1, 1) := by decide +kernel
theorem dX7_u2_1 : decode cX7_u2 1 = .ok (.ifCond .lt 25, 3) := by decide +kernel
theorem dX7_u2_4 : decode cX7_u2 4 = .ok (.iload_n 1, 1) := by decide +kernel
theorem dX7_u2_5 : decode cX7_u2 5 = .ok (.aload_n 0, 1) := by decide +kernel
theorem dX7_u2_6 : decode cX7_u2 6 = .ok (.getfield 38, 3) := by decide +kernel
theorem dX7_u2_9 : decode cX7_u2 9 = .ok (.iconst 2, 1) := by decide +kernel
theorem dX7_u2_10 : decode cX7_u2 10 = .ok (.isub, 1) := by decide +kernel
theorem dX7_u2_11 : decode cX7_u2 11 = .ok (.if_icmp .gt 15, 3) := by decide +kernel
theorem dX7_u2_14 : decode cX7_u2 14 = .ok (.aload_n 0, 1) := by decide +kernel
theorem dX7_u2_15 : decode cX7_u2 15 = .ok (.getfield 38, 3) := by decide +kernel
theorem dX7_u2_18 : decode cX7_u2 18 = .ok (.aload_n 0, 1) := by decide +kernel
theorem dX7_u2_19 : decode cX7_u2 19 = .ok (.getfield 9, 3) := by decide +kernel
theorem dX7_u2_22 : decode cX7_u2 22 = .ok (.arraylength, 1) := by decide +kernel
theorem dX7_u2_23 : decode cX7_u2 23 = .ok (.if_icmp .le 5, 3) := by decide +kernel
theorem dX7_u2_26 : decode cX7_u2 26 = .ok (.iconst 0, 1) := by decide +kernel
theorem dX7_u2_27 : decode cX7_u2 27 = .ok (.ireturn, 1) := by decide +kernel
theorem dX7_u2_28 : decode cX7_u2 28 = .ok (.aload_n 0, 1) := by decide +kernel
theorem dX7_u2_29 : decode cX7_u2 29 = .ok (.getfield 9, 3) := by decide +kernel
theorem dX7_u2_32 : decode cX7_u2 32 = .ok (.iload_n 1, 1) := by decide +kernel
theorem dX7_u2_33 : decode cX7_u2 33 = .ok (.baload, 1) := by decide +kernel
theorem dX7_u2_34 : decode cX7_u2 34 = .ok (.sipush 255, 3) := by decide +kernel
theorem dX7_u2_37 : decode cX7_u2 37 = .ok (.iand, 1) := by decide +kernel
theorem dX7_u2_38 : decode cX7_u2 38 = .ok (.bipush 8, 2) := by decide +kernel
theorem dX7_u2_40 : decode cX7_u2 40 = .ok (.ishl, 1) := by decide +kernel
theorem dX7_u2_41 : decode cX7_u2 41 = .ok (.aload_n 0, 1) := by decide +kernel
theorem dX7_u2_42 : decode cX7_u2 42 = .ok (.getfield 9, 3) := by decide +kernel
theorem dX7_u2_45 : decode cX7_u2 45 = .ok (.iload_n 1, 1) := by decide +kernel
theorem dX7_u2_46 : decode cX7_u2 46 = .ok (.iconst 1, 1) := by decide +kernel
theorem dX7_u2_47 : decode cX7_u2 47 = .ok (.iadd, 1) := by decide +kernel
theorem dX7_u2_48 : decode cX7_u2 48 = .ok (.baload, 1) := by decide +kernel
theorem dX7_u2_49 : decode cX7_u2 49 = .ok (.sipush 255, 3) := by decide +kernel
theorem dX7_u2_52 : decode cX7_u2 52 = .ok (.iand, 1) := by decide +kernel
theorem dX7_u2_53 : decode cX7_u2 53 = .ok (.ior, 1) := by decide +kernel
theorem dX7_u2_54 : decode cX7_u2 54 = .ok (.ireturn, 1) := by decide +kernel
theorem dX7_u4_0 : decode cX7_u4 0 = .ok (.aload_n 0, 1) := by decide +kernel
theorem dX7_u4_1 : decode cX7_u4 1 = .ok (.iload_n 1, 1) := by decide +kernel
theorem dX7_u4_2 : decode cX7_u4 2 = .ok (.invokevirtual 91, 3) := by decide +kernel
theorem dX7_u4_5 : decode cX7_u4 5 = .ok (.i2l, 1) := by decide +kernel
theorem dX7_u4_6 : decode cX7_u4 6 = .ok (.ldc2_w 95, 3) := by decide +kernel
theorem dX7_u4_9 : decode cX7_u4 9 = .ok (.land, 1) := by decide +kernel
theorem dX7_u4_10 : decode cX7_u4 10 = .ok (.lreturn, 1) := by decide +kernel
theorem dX8_add_0 : decode cX8_add 0 = .ok (.aload_n 0, 1) := by decide +kernel
theorem dX8_add_1 : decode cX8_add 1 = .ok (.getfield 34, 3) := by decide +kernel
theorem dX8_add_4 : decode cX8_add 4 = .ok (.aload_n 0, 1) := by decide +kernel
theorem dX8_add_5 : decode cX8_add 5 = .ok (.getfield 9, 3) := by decide +kernel
theorem dX8_add_8 : decode cX8_add 8 = .ok (.arraylength, 1) := by decide +kernel
theorem dX8_add_9 : decode cX8_add 9 = .ok (.if_icmp .ge 23, 3) := by decide +kernel
theorem dX8_add_12 : decode cX8_add 12 = .ok (.aload_n 0, 1) := by decide +kernel
theorem dX8_add_13 : decode cX8_add 13 = .ok (.aload_n 0, 1) := by decide +kernel
theorem dX8_add_14 : decode cX8_add 14 = .ok (.getfield 34, 3) := by decide +kernel
theorem dX8_add_17 : decode cX8_add 17 = .ok (.iload_n 1, 1) := by decide +kernel
theorem dX8_add_18 : decode cX8_add 18 = .ok (.lload_n 2, 1) := by decide +kernel
theorem dX8_add_19 : decode cX8_add 19 = .ok (.invokevirtual 45, 3) := by decide +kernel
theorem dX8_add_22 : decode cX8_add 22 = .ok (.aload_n 0, 1) := by decide +kernel
theorem dX8_add_23 : decode cX8_add 23 = .ok (.dup, 1) := by decide +kernel
theorem dX8_add_24 : decode cX8_add 24 = .ok (.getfield 34, 3) := by decide +kernel
theorem dX8_add_27 : decode cX8_add 27 = .ok (.iconst 1, 1) := by decide +kernel
theorem dX8_add_28 : decode cX8_add 28 = .ok (.iadd, 1) := by decide +kernel
theorem dX8_add_29 : decode cX8_add 29 = .ok (.putfield 34, 3) := by decide +kernel
theorem dX8_add_32 : decode cX8_add 32 = .ok (.return_, 1) := by decide +kernel
theorem dX8_addCatch_0 : decode cX8_addCatch 0 = .ok (.aload_n 0, 1) := by decide +kernel
theorem dX8_addCatch_1 : decode cX8_addCatch 1 = .ok (.getfield 49, 3) := by decide +kernel
theorem dX8_addCatch_4 : decode cX8_addCatch 4 = .ok (.aload_n 0, 1) := by decide +kernel
theorem dX8_addCatch_5 : decode cX8_addCatch 5 = .ok (.getfield 22, 3) := by decide +kernel
theorem dX8_addCatch_8 : decode cX8_addCatch 8 = .ok (.arraylength, 1) := by decide +kernel
theorem dX8_addCatch_9 : decode cX8_addCatch 9 = .ok (.if_icmp .ge 54, 3) := by decide +kernel
theorem dX8_addCatch_12 : decode cX8_addCatch 12 = .ok (.aload_n 0, 1) := by decide +kernel
theorem dX8_addCatch_13 : decode cX8_addCatch 13 = .ok (.getfield 22, 3) := by decide +kernel
theorem dX8_addCatch_16 : decode cX8_addCatch 16 = .ok (.aload_n 0, 1) := by decide +kernel
theorem dX8_addCatch_17 : decode cX8_addCatch 17 = .ok (.getfield 49, 3) := by decide +kernel
theorem dX8_addCatch_20 : decode cX8_addCatch 20 = .ok (.iload_n 1, 1) := by decide +kernel
theorem dX8_addCatch_21 : decode cX8_addCatch 21 = .ok (.iastore, 1) := by decide +kernel
theorem dX8_addCatch_22 : decode cX8_addCatch 22 = .ok (.aload_n 0, 1) := by decide +kernel
theorem dX8_addCatch_23 : decode cX8_addCatch 23 = .ok (.getfield 25, 3) := by decide +kernel
theorem dX8_addCatch_26 : decode cX8_addCatch 26 = .ok (.aload_n 0, 1) := by decide +kernel
theorem dX8_addCatch_27 : decode cX8_addCatch 27 = .ok (.getfield 49, 3) := by decide +kernel
theorem dX8_addCatch_30 : decode cX8_addCatch 30 = .ok (.iload_n 2, 1) := by decide +kernel
theorem dX8_addCatch_31 : decode cX8_addCatch 31 = .ok (.iastore, 1) := by decide +kernel
theorem dX8_addCatch_32 : decode cX8_addCatch 32 = .ok (.aload_n 0, 1) := by decide +kernel
theorem dX8_addCatch_33 : decode cX8_addCatch 33 = .ok (.getfield 28, 3) := by decide +kernel
theorem dX8_addCatch_36 : decode cX8_addCatch 36 = .ok (.aload_n 0, 1) := by decide +kernel
theorem dX8_addCatch_37 : decode cX8_addCatch 37 = .ok (.getfield 49, 3) := by decide +kernel
theorem dX8_addCatch_40 : decode cX8_addCatch 40 = .ok (.iload_n 3, 1) := by decide +kernel
theorem dX8_addCatch_41 : decode cX8_addCatch 41 = .ok (.iastore, 1) := by decide +kernel
theorem dX8_addCatch_42 : decode cX8_addCatch 42 = .ok (.aload_n 0, 1) := by decide +kernel
theorem dX8_addCatch_43 : decode cX8_addCatch 43 = .ok (.getfield 31, 3) := by decide +kernel

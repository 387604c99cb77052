theorem dX7_codesHold_103 : decode cX7_codesHold 103 = .ok (.getfield 29, 3) := by decide +kernel
theorem dX7_codesHold_106 : decode cX7_codesHold 106 = .ok (.iload_n 1, 1) := by decide +kernel
theorem dX7_codesHold_107 : decode cX7_codesHold 107 = .ok (.iload 7, 2) := by decide +kernel
theorem dX7_codesHold_109 : decode cX7_codesHold 109 = .ok (.iastore, 1) := by decide +kernel
theorem dX7_codesHold_110 : decode cX7_codesHold 110 = .ok (.iload 7, 2) := by decide +kernel
theorem dX7_codesHold_112 : decode cX7_codesHold 112 = .ok (.istore 4, 2) := by decide +kernel
theorem dX7_codesHold_114 : decode cX7_codesHold 114 = .ok (.iinc 6 1, 3) := by decide +kernel
theorem dX7_codesHold_117 : decode cX7_codesHold 117 = .ok (.goto (-66), 3) := by decide +kernel
theorem dX7_codesHold_120 : decode cX7_codesHold 120 = .ok (.iload 5, 2) := by decide +kernel
theorem dX7_codesHold_122 : decode cX7_codesHold 122 = .ok (.iconst 1, 1) := by decide +kernel
theorem dX7_codesHold_123 : decode cX7_codesHold 123 = .ok (.if_icmp .eq 11, 3) := by decide +kernel
theorem dX7_codesHold_126 : decode cX7_codesHold 126 = .ok (.aload_n 0, 1) := by decide +kernel
theorem dX7_codesHold_127 : decode cX7_codesHold 127 = .ok (.bipush 12, 2) := by decide +kernel
theorem dX7_codesHold_129 : decode cX7_codesHold 129 = .ok (.iload_n 2, 1) := by decide +kernel
theorem dX7_codesHold_130 : decode cX7_codesHold 130 = .ok (.invokevirtual 87, 3) := by decide +kernel
theorem dX7_codesHold_133 : decode cX7_codesHold 133 = .ok (.ireturn, 1) := by decide +kernel
theorem dX7_codesHold_134 : decode cX7_codesHold 134 = .ok (.iinc 1 1, 3) := by decide +kernel
theorem dX7_codesHold_137 : decode cX7_codesHold 137 = .ok (.goto (-135), 3) := by decide +kernel
theorem dX7_codesHold_140 : decode cX7_codesHold 140 = .ok (.iconst 1, 1) := by decide +kernel
theorem dX7_codesHold_141 : decode cX7_codesHold 141 = .ok (.ireturn, 1) := by decide +kernel
theorem dX7_entriesPoint_0 : decode cX7_entriesPoint 0 = .ok (.iconst 1, 1) := by decide +kernel
theorem dX7_entriesPoint_1 : decode cX7_entriesPoint 1 = .ok (.istore_n 1, 1) := by decide +kernel
theorem dX7_entriesPoint_2 : decode cX7_entriesPoint 2 = .ok (.iload_n 1, 1) := by decide +kernel
theorem dX7_entriesPoint_3 : decode cX7_entriesPoint 3 = .ok (.aload_n 0, 1) := by decide +kernel
theorem dX7_entriesPoint_4 : decode cX7_entriesPoint 4 = .ok (.getfield 110, 3) := by decide +kernel
theorem dX7_entriesPoint_7 : decode cX7_entriesPoint 7 = .ok (.if_icmp .ge 29, 3) := by decide +kernel
theorem dX7_entriesPoint_10 : decode cX7_entriesPoint 10 = .ok (.aload_n 0, 1) := by decide +kernel
theorem dX7_entriesPoint_11 : decode cX7_entriesPoint 11 = .ok (.iload_n 1, 1) := by decide +kernel
theorem dX7_entriesPoint_12 : decode cX7_entriesPoint 12 = .ok (.invokevirtual 153, 3) := by decide +kernel
theorem dX7_entriesPoint_15 : decode cX7_entriesPoint 15 = .ok (.ifCond .ne 15, 3) := by decide +kernel
theorem dX7_entriesPoint_18 : decode cX7_entriesPoint 18 = .ok (.aload_n 0, 1) := by decide +kernel
theorem dX7_entriesPoint_19 : decode cX7_entriesPoint 19 = .ok (.bipush 6, 2) := by decide +kernel
theorem dX7_entriesPoint_21 : decode cX7_entriesPoint 21 = .ok (.aload_n 0, 1) := by decide +kernel
theorem dX7_entriesPoint_22 : decode cX7_entriesPoint 22 = .ok (.iload_n 1, 1) := by decide +kernel
theorem dX7_entriesPoint_23 : decode cX7_entriesPoint 23 = .ok (.invokevirtual 150, 3) := by decide +kernel
theorem dX7_entriesPoint_26 : decode cX7_entriesPoint 26 = .ok (.invokevirtual 87, 3) := by decide +kernel
theorem dX7_entriesPoint_29 : decode cX7_entriesPoint 29 = .ok (.ireturn, 1) := by decide +kernel
theorem dX7_entriesPoint_30 : decode cX7_entriesPoint 30 = .ok (.iinc 1 1, 3) := by decide +kernel
theorem dX7_entriesPoint_33 : decode cX7_entriesPoint 33 = .ok (.goto (-31), 3) := by decide +kernel
theorem dX7_entriesPoint_36 : decode cX7_entriesPoint 36 = .ok (.iconst 1, 1) := by decide +kernel
theorem dX7_entriesPoint_37 : decode cX7_entriesPoint 37 = .ok (.ireturn, 1) := by decide +kernel
theorem dX7_entryAt_0 : decode cX7_entryAt 0 = .ok (.iload_n 1, 1) := by decide +kernel
theorem dX7_entryAt_1 : decode cX7_entryAt 1 = .ok (.iconst 1, 1) := by decide +kernel
theorem dX7_entryAt_2 : decode cX7_entryAt 2 = .ok (.if_icmp .lt 20, 3) := by decide +kernel
theorem dX7_entryAt_5 : decode cX7_entryAt 5 = .ok (.iload_n 1, 1) := by decide +kernel
theorem dX7_entryAt_6 : decode cX7_entryAt 6 = .ok (.aload_n 0, 1) := by decide +kernel
theorem dX7_entryAt_7 : decode cX7_entryAt 7 = .ok (.getfield 110, 3) := by decide +kernel
theorem dX7_entryAt_10 : decode cX7_entryAt 10 = .ok (.if_icmp .ge 12, 3) := by decide +kernel
theorem dX7_entryAt_13 : decode cX7_entryAt 13 = .ok (.iload_n 1, 1) := by decide +kernel
theorem dX7_entryAt_14 : decode cX7_entryAt 14 = .ok (.aload_n 0, 1) := by decide +kernel
theorem dX7_entryAt_15 : decode cX7_entryAt 15 = .ok (.getfield 19, 3) := by decide +kernel
theorem dX7_entryAt_18 : decode cX7_entryAt 18 = .ok (.arraylength, 1) := by decide +kernel
theorem dX7_entryAt_19 : decode cX7_entryAt 19 = .ok (.if_icmp .lt 7, 3) := by decide +kernel
theorem dX7_entryAt_22 : decode cX7_entryAt 22 = .ok (.iconst 0, 1) := by decide +kernel
theorem dX7_entryAt_23 : decode cX7_entryAt 23 = .ok (.goto 9, 3) := by decide +kernel
theorem dX7_entryAt_26 : decode cX7_entryAt 26 = .ok (.aload_n 0, 1) := by decide +kernel
theorem dX7_entryAt_27 : decode cX7_entryAt 27 = .ok (.getfield 19, 3) := by decide +kernel
theorem dX7_entryAt_30 : decode cX7_entryAt 30 = .ok (.iload_n 1, 1) := by decide +kernel
theorem dX7_entryAt_31 : decode cX7_entryAt 31 = .ok (.iaload, 1) := by decide +kernel
theorem dX7_entryAt_32 : decode cX7_entryAt 32 = .ok (.ireturn, 1) := by decide +kernel
theorem dX7_entryFits_0 : decode cX7_entryFits 0 = .ok (.aload_n 0, 1) := by decide +kernel
theorem dX7_entryFits_1 : decode cX7_entryFits 1 = .ok (.iconst 1, 1) := by decide +kernel
theorem dX7_entryFits_2 : decode cX7_entryFits 2 = .ok (.invokevirtual 103, 3) := by decide +kernel
theorem dX7_entryFits_5 : decode cX7_entryFits 5 = .ok (.ifCond .ne 5, 3) := by decide +kernel
theorem dX7_entryFits_8 : decode cX7_entryFits 8 = .ok (.iconst 0, 1) := by decide +kernel
theorem dX7_entryFits_9 : decode cX7_entryFits 9 = .ok (.ireturn, 1) := by decide +kernel
theorem dX7_entryFits_10 : decode cX7_entryFits 10 = .ok (.aload_n 0, 1) := by decide +kernel
theorem dX7_entryFits_11 : decode cX7_entryFits 11 = .ok (.aload_n 0, 1) := by decide +kernel
theorem dX7_entryFits_12 : decode cX7_entryFits 12 = .ok (.getfield 44, 3) := by decide +kernel
theorem dX7_entryFits_15 : decode cX7_entryFits 15 = .ok (.invokevirtual 100, 3) := by decide +kernel
theorem dX7_entryFits_18 : decode cX7_entryFits 18 = .ok (.istore_n 1, 1) := by decide +kernel
theorem dX7_entryFits_19 : decode cX7_entryFits 19 = .ok (.iload_n 1, 1) := by decide +kernel
theorem dX7_entryFits_20 : decode cX7_entryFits 20 = .ok (.iconst 1, 1) := by decide +kernel
theorem dX7_entryFits_21 : decode cX7_entryFits 21 = .ok (.if_icmp .ne 8, 3) := by decide +kernel
theorem dX7_entryFits_24 : decode cX7_entryFits 24 = .ok (.aload_n 0, 1) := by decide +kernel
theorem dX7_entryFits_25 : decode cX7_entryFits 25 = .ok (.invokevirtual 125, 3) := by decide +kernel
theorem dX7_entryFits_28 : decode cX7_entryFits 28 = .ok (.ireturn, 1) := by decide +kernel
theorem dX7_entryFits_29 : decode cX7_entryFits 29 = .ok (.aload_n 0, 1) := by decide +kernel
theorem dX7_entryFits_30 : decode cX7_entryFits 30 = .ok (.iload_n 1, 1) := by decide +kernel
theorem dX7_entryFits_31 : decode cX7_entryFits 31 = .ok (.invokevirtual 122, 3) := by decide +kernel
theorem dX7_entryFits_34 : decode cX7_entryFits 34 = .ok (.ifCond .ne 15, 3) := by decide +kernel
theorem dX7_entryFits_37 : decode cX7_entryFits 37 = .ok (.aload_n 0, 1) := by decide +kernel
theorem dX7_entryFits_38 : decode cX7_entryFits 38 = .ok (.iconst 3, 1) := by decide +kernel
theorem dX7_entryFits_39 : decode cX7_entryFits 39 = .ok (.aload_n 0, 1) := by decide +kernel
theorem dX7_entryFits_40 : decode cX7_entryFits 40 = .ok (.getfield 44, 3) := by decide +kernel
theorem dX7_entryFits_43 : decode cX7_entryFits 43 = .ok (.invokevirtual 87, 3) := by decide +kernel
theorem dX7_entryFits_46 : decode cX7_entryFits 46 = .ok (.goto 12, 3) := by decide +kernel
theorem dX7_entryFits_49 : decode cX7_entryFits 49 = .ok (.aload_n 0, 1) := by decide +kernel
theorem dX7_entryFits_50 : decode cX7_entryFits 50 = .ok (.aload_n 0, 1) := by decide +kernel
theorem dX7_entryFits_51 : decode cX7_entryFits 51 = .ok (.iload_n 1, 1) := by decide +kernel
theorem dX7_entryFits_52 : decode cX7_entryFits 52 = .ok (.invokevirtual 122, 3) := by decide +kernel
theorem dX7_entryFits_55 : decode cX7_entryFits 55 = .ok (.invokevirtual 103, 3) := by decide +kernel
theorem dX7_entryFits_58 : decode cX7_entryFits 58 = .ok (.ireturn, 1) := by decide +kernel
theorem dX7_entryLength_0 : decode cX7_entryLength 0 = .ok (.iload_n 1, 1) := by decide +kernel
theorem dX7_entryLength_1 : decode cX7_entryLength 1 = .ok (.tableswitch 83 1 12 #[63, 83, 78, 83, 80, 83, 76, 83, 78, 78, 83, 78], 63) := by decide +kernel
theorem dX7_entryLength_64 : decode cX7_entryLength 64 = .ok (.iconst 3, 1) := by decide +kernel
theorem dX7_entryLength_65 : decode cX7_entryLength 65 = .ok (.aload_n 0, 1) := by decide +kernel
theorem dX7_entryLength_66 : decode cX7_entryLength 66 = .ok (.aload_n 0, 1) := by decide +kernel
theorem dX7_entryLength_67 : decode cX7_entryLength 67 = .ok (.getfield 44, 3) := by decide +kernel
theorem dX7_entryLength_70 : decode cX7_entryLength 70 = .ok (.iconst 1, 1) := by decide +kernel
theorem dX7_entryLength_71 : decode cX7_entryLength 71 = .ok (.iadd, 1) := by decide +kernel
theorem dX7_entryLength_72 : decode cX7_entryLength 72 = .ok (.invokevirtual 107, 3) := by decide +kernel
theorem dX7_entryLength_75 : decode cX7_entryLength 75 = .ok (.iadd, 1) := by decide +kernel
theorem dX7_entryLength_76 : decode cX7_entryLength 76 = .ok (.ireturn, 1) := by decide +kernel
theorem dX7_entryLength_77 : decode cX7_entryLength 77 = .ok (.iconst 3, 1) := by decide +kernel
theorem dX7_entryLength_78 : decode cX7_entryLength 78 = .ok (.ireturn, 1) := by decide +kernel
theorem dX7_entryLength_79 : decode cX7_entryLength 79 = .ok (.iconst 5, 1) := by decide +kernel
theorem dX7_entryLength_80 : decode cX7_entryLength 80 = .ok (.ireturn, 1) := by decide +kernel
theorem dX7_entryLength_81 : decode cX7_entryLength 81 = .ok (.bipush 9, 2) := by decide +kernel
theorem dX7_entryLength_83 : decode cX7_entryLength 83 = .ok (.ireturn, 1) := by decide +kernel
theorem dX7_entryLength_84 : decode cX7_entryLength 84 = .ok (.iconst 0, 1) := by decide +kernel
theorem dX7_entryLength_85 : decode cX7_entryLength 85 = .ok (.ireturn, 1) := by decide +kernel
theorem dX7_entryPoints_0 : decode cX7_entryPoints 0 = .ok (.aload_n 0, 1) := by decide +kernel
theorem dX7_entryPoints_1 : decode cX7_entryPoints 1 = .ok (.iload_n 1, 1) := by decide +kernel
theorem dX7_entryPoints_2 : decode cX7_entryPoints 2 = .ok (.invokevirtual 156, 3) := by decide +kernel
theorem dX7_entryPoints_5 : decode cX7_entryPoints 5 = .ok (.tableswitch 124 7 12 #[39, 124, 90, 90, 124, 58], 39) := by decide +kernel
theorem dX7_entryPoints_44 : decode cX7_entryPoints 44 = .ok (.aload_n 0, 1) := by decide +kernel
theorem dX7_entryPoints_45 : decode cX7_entryPoints 45 = .ok (.aload_n 0, 1) := by decide +kernel
theorem dX7_entryPoints_46 : decode cX7_entryPoints 46 = .ok (.iload_n 1, 1) := by decide +kernel
theorem dX7_entryPoints_47 : decode cX7_entryPoints 47 = .ok (.invokevirtual 159, 3) := by decide +kernel
theorem dX7_entryPoints_50 : decode cX7_entryPoints 50 = .ok (.invokevirtual 156, 3) := by decide +kernel
theorem dX7_entryPoints_53 : decode cX7_entryPoints 53 = .ok (.iconst 1, 1) := by decide +kernel
theorem dX7_entryPoints_54 : decode cX7_entryPoints 54 = .ok (.if_icmp .ne 7, 3) := by decide +kernel
theorem dX7_entryPoints_57 : decode cX7_entryPoints 57 = .ok (.iconst 1, 1) := by decide +kernel
theorem dX7_entryPoints_58 : decode cX7_entryPoints 58 = .ok (.goto 4, 3) := by decide +kernel
theorem dX7_entryPoints_61 : decode cX7_entryPoints 61 = .ok (.iconst 0, 1) := by decide +kernel
theorem dX7_entryPoints_62 : decode cX7_entryPoints 62 = .ok (.ireturn, 1) := by decide +kernel
theorem dX7_entryPoints_63 : decode cX7_entryPoints 63 = .ok (.aload_n 0, 1) := by decide +kernel
theorem dX7_entryPoints_64 : decode cX7_entryPoints 64 = .ok (.aload_n 0, 1) := by decide +kernel
theorem dX7_entryPoints_65 : decode cX7_entryPoints 65 = .ok (.iload_n 1, 1) := by decide +kernel
theorem dX7_entryPoints_66 : decode cX7_entryPoints 66 = .ok (.invokevirtual 159, 3) := by decide +kernel
theorem dX7_entryPoints_69 : decode cX7_entryPoints 69 = .ok (.invokevirtual 156, 3) := by decide +kernel
theorem dX7_entryPoints_72 : decode cX7_entryPoints 72 = .ok (.iconst 1, 1) := by decide +kernel
theorem dX7_entryPoints_73 : decode cX7_entryPoints 73 = .ok (.if_icmp .ne 20, 3) := by decide +kernel
theorem dX7_entryPoints_76 : decode cX7_entryPoints 76 = .ok (.aload_n 0, 1) := by decide +kernel
theorem dX7_entryPoints_77 : decode cX7_entryPoints 77 = .ok (.aload_n 0, 1) := by decide +kernel
theorem dX7_entryPoints_78 : decode cX7_entryPoints 78 = .ok (.iload_n 1, 1) := by decide +kernel
theorem dX7_entryPoints_79 : decode cX7_entryPoints 79 = .ok (.invokevirtual 162, 3) := by decide +kernel
theorem dX7_entryPoints_82 : decode cX7_entryPoints 82 = .ok (.invokevirtual 156, 3) := by decide +kernel
theorem dX7_entryPoints_85 : decode cX7_entryPoints 85 = .ok (.iconst 1, 1) := by decide +kernel
theorem dX7_entryPoints_86 : decode cX7_entryPoints 86 = .ok (.if_icmp .ne 7, 3) := by decide +kernel
theorem dX7_entryPoints_89 : decode cX7_entryPoints 89 = .ok (.iconst 1, 1) := by decide +kernel
theorem dX7_entryPoints_90 : decode cX7_entryPoints 90 = .ok (.goto 4, 3) := by decide +kernel
theorem dX7_entryPoints_93 : decode cX7_entryPoints 93 = .ok (.iconst 0, 1) := by decide +kernel
theorem dX7_entryPoints_94 : decode cX7_entryPoints 94 = .ok (.ireturn, 1) := by decide +kernel
theorem dX7_entryPoints_95 : decode cX7_entryPoints 95 = .ok (.aload_n 0, 1) := by decide +kernel
theorem dX7_entryPoints_96 : decode cX7_entryPoints 96 = .ok (.aload_n 0, 1) := by decide +kernel
theorem dX7_entryPoints_97 : decode cX7_entryPoints 97 = .ok (.iload_n 1, 1) := by decide +kernel
theorem dX7_entryPoints_98 : decode cX7_entryPoints 98 = .ok (.invokevirtual 159, 3) := by decide +kernel
theorem dX7_entryPoints_101 : decode cX7_entryPoints 101 = .ok (.invokevirtual 156, 3) := by decide +kernel

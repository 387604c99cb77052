theorem dX7_entryFits_9 : decode cX7_entryFits 9 = .ok (.ireturn, 1) := by decide +kernel
theorem dX7_entryFits_10 : decode cX7_entryFits 10 = .ok (.aload_n 0, 1) := by decide +kernel
theorem dX7_entryFits_11 : decode cX7_entryFits 11 = .ok (.aload_n 0, 1) := by decide +kernel
theorem dX7_entryFits_12 : decode cX7_entryFits 12 = .ok (.getfield 44, 3) := by decide +kernel
theorem dX7_entryFits_15 : decode cX7_entryFits 15 = .ok (.invokevirtual 100, 3) := by decide +kernel
theorem dX7_entryFits_18 : decode cX7_entryFits 18 = .ok (.istore_n 1, 1) := by decide +kernel
theorem dX7_entryFits_19 : decode cX7_entryFits 19 = .ok (.iload_n 1, 1) := by decide +kernel
theorem dX7_entryFits_20 : decode cX7_entryFits 20 = .ok (.iconst 1, 1) := by decide +kernel
theorem dX7_entryFits_21 : decode cX7_entryFits 21 = .ok (.if_icmp .ne 8, 3) := by decide +kernel
theorem dX7_entryFits_24 : decode cX7_entryFits 24 = .ok (.aload_n 0, 1) := by decide +kernel
theorem dX7_entryFits_25 : decode cX7_entryFits 25 = .ok (.invokevirtual 125, 3) := by decide +kernel
theorem dX7_entryFits_28 : decode cX7_entryFits 28 = .ok (.ireturn, 1) := by decide +kernel
theorem dX7_entryFits_29 : decode cX7_entryFits 29 = .ok (.aload_n 0, 1) := by decide +kernel
theorem dX7_entryFits_30 : decode cX7_entryFits 30 = .ok (.iload_n 1, 1) := by decide +kernel
theorem dX7_entryFits_31 : decode cX7_entryFits 31 = .ok (.invokevirtual 122, 3) := by decide +kernel
theorem dX7_entryFits_34 : decode cX7_entryFits 34 = .ok (.ifCond .ne 15, 3) := by decide +kernel
theorem dX7_entryFits_37 : decode cX7_entryFits 37 = .ok (.aload_n 0, 1) := by decide +kernel
theorem dX7_entryFits_38 : decode cX7_entryFits 38 = .ok (.iconst 3, 1) := by decide +kernel
theorem dX7_entryFits_39 : decode cX7_entryFits 39 = .ok (.aload_n 0, 1) := by decide +kernel
theorem dX7_entryFits_40 : decode cX7_entryFits 40 = .ok (.getfield 44, 3) := by decide +kernel
theorem dX7_entryFits_43 : decode cX7_entryFits 43 = .ok (.invokevirtual 87, 3) := by decide +kernel
theorem dX7_entryFits_46 : decode cX7_entryFits 46 = .ok (.goto 12, 3) := by decide +kernel
theorem dX7_entryFits_49 : decode cX7_entryFits 49 = .ok (.aload_n 0, 1) := by decide +kernel
theorem dX7_entryFits_50 : decode cX7_entryFits 50 = .ok (.aload_n 0, 1) := by decide +kernel
theorem dX7_entryFits_51 : decode cX7_entryFits 51 = .ok (.iload_n 1, 1) := by decide +kernel
theorem dX7_entryFits_52 : decode cX7_entryFits 52 = .ok (.invokevirtual 122, 3) := by decide +kernel
theorem dX7_entryFits_55 : decode cX7_entryFits 55 = .ok (.invokevirtual 103, 3) := by decide +kernel
theorem dX7_entryFits_58 : decode cX7_entryFits 58 = .ok (.ireturn, 1) := by decide +kernel
theorem dX7_entryLength_0 : decode cX7_entryLength 0 = .ok (.iload_n 1, 1) := by decide +kernel
theorem dX7_entryLength_1 : decode cX7_entryLength 1 = .ok (.tableswitch 83 1 12 #[63, 83, 78, 83, 80, 83, 76, 83, 78, 78, 83, 78], 63) := by decide +kernel
theorem dX7_entryLength_64 : decode cX7_entryLength 64 = .ok (.iconst 3, 1) := by decide +kernel
theorem dX7_entryLength_65 : decode cX7_entryLength 65 = .ok (.aload_n 0, 1) := by decide +kernel
theorem dX7_entryLength_66 : decode cX7_entryLength 66 = .ok (.aload_n 0, 1) := by decide +kernel
theorem dX7_entryLength_67 : decode cX7_entryLength 67 = .ok (.getfield 44, 3) := by decide +kernel
theorem dX7_entryLength_70 : decode cX7_entryLength 70 = .ok (.iconst 1, 1) := by decide +kernel
theorem dX7_entryLength_71 : decode cX7_entryLength 71 = .ok (.iadd, 1) := by decide +kernel
theorem dX7_entryLength_72 : decode cX7_entryLength 72 = .ok (.invokevirtual 107, 3) := by decide +kernel
theorem dX7_entryLength_75 : decode cX7_entryLength 75 = .ok (.iadd, 1) := by decide +kernel
theorem dX7_entryLength_76 : decode cX7_entryLength 76 = .ok (.ireturn, 1) := by decide +kernel
theorem dX7_entryLength_77 : decode cX7_entryLength 77 = .ok (.iconst 3, 1) := by decide +kernel
theorem dX7_entryLength_78 : decode cX7_entryLength 78 = .ok (.ireturn, 1) := by decide +kernel
theorem dX7_entryLength_79 : decode cX7_entryLength 79 = .ok (.iconst 5, 1) := by decide +kernel
theorem dX7_entryLength_80 : decode cX7_entryLength 80 = .ok (.ireturn, 1) := by decide +kernel
theorem dX7_entryLength_81 : decode cX7_entryLength 81 = .ok (.bipush 9, 2) := by decide +kernel
theorem dX7_entryLength_83 : decode cX7_entryLength 83 = .ok (.ireturn, 1) := by decide +kernel
theorem dX7_entryLength_84 : decode cX7_entryLength 84 = .ok (.iconst 0, 1) := by decide +kernel
theorem dX7_entryLength_85 : decode cX7_entryLength 85 = .ok (.ireturn, 1) := by decide +kernel
theorem dX7_entryPoints_0 : decode cX7_entryPoints 0 = .ok (.aload_n 0, 1) := by decide +kernel
theorem dX7_entryPoints_1 : decode cX7_entryPoints 1 = .ok (.iload_n 1, 1) := by decide +kernel
theorem dX7_entryPoints_2 : decode cX7_entryPoints 2 = .ok (.invokevirtual 156, 3) := by decide +kernel
theorem dX7_entryPoints_5 : decode cX7_entryPoints 5 = .ok (.tableswitch 124 7 12 #[39, 124, 90, 90, 124, 58], 39) := by decide +kernel
theorem dX7_entryPoints_44 : decode cX7_entryPoints 44 = .ok (.aload_n 0, 1) := by decide +kernel
theorem dX7_entryPoints_45 : decode cX7_entryPoints 45 = .ok (.aload_n 0, 1) := by decide +kernel
theorem dX7_entryPoints_46 : decode cX7_entryPoints 46 = .ok (.iload_n 1, 1) := by decide +kernel
theorem dX7_entryPoints_47 : decode cX7_entryPoints 47 = .ok (.invokevirtual 159, 3) := by decide +kernel
theorem dX7_entryPoints_50 : decode cX7_entryPoints 50 = .ok (.invokevirtual 156, 3) := by decide +kernel
theorem dX7_entryPoints_53 : decode cX7_entryPoints 53 = .ok (.iconst 1, 1) := by decide +kernel
theorem dX7_entryPoints_54 : decode cX7_entryPoints 54 = .ok (.if_icmp .ne 7, 3) := by decide +kernel
theorem dX7_entryPoints_57 : decode cX7_entryPoints 57 = .ok (.iconst 1, 1) := by decide +kernel
theorem dX7_entryPoints_58 : decode cX7_entryPoints 58 = .ok (.goto 4, 3) := by decide +kernel
theorem dX7_entryPoints_61 : decode cX7_entryPoints 61 = .ok (.iconst 0, 1) := by decide +kernel
theorem dX7_entryPoints_62 : decode cX7_entryPoints 62 = .ok (.ireturn, 1) := by decide +kernel
theorem dX7_entryPoints_63 : decode cX7_entryPoints 63 = .ok (.aload_n 0, 1) := by decide +kernel
theorem dX7_entryPoints_64 : decode cX7_entryPoints 64 = .ok (.aload_n 0, 1) := by decide +kernel
theorem dX7_entryPoints_65 : decode cX7_entryPoints 65 = .ok (.iload_n 1, 1) := by decide +kernel
theorem dX7_entryPoints_66 : decode cX7_entryPoints 66 = .ok (.invokevirtual 159, 3) := by decide +kernel
theorem dX7_entryPoints_69 : decode cX7_entryPoints 69 = .ok (.invokevirtual 156, 3) := by decide +kernel
theorem dX7_entryPoints_72 : decode cX7_entryPoints 72 = .ok (.iconst 1, 1) := by decide +kernel
theorem dX7_entryPoints_73 : decode cX7_entryPoints 73 = .ok (.if_icmp .ne 20, 3) := by decide +kernel
theorem dX7_entryPoints_76 : decode cX7_entryPoints 76 = .ok (.aload_n 0, 1) := by decide +kernel
theorem dX7_entryPoints_77 : decode cX7_entryPoints 77 = .ok (.aload_n 0, 1) := by decide +kernel
theorem dX7_entryPoints_78 : decode cX7_entryPoints 78 = .ok (.iload_n 1, 1) := by decide +kernel
theorem dX7_entryPoints_79 : decode cX7_entryPoints 79 = .ok (.invokevirtual 162, 3) := by decide +kernel
theorem dX7_entryPoints_82 : decode cX7_entryPoints 82 = .ok (.invokevirtual 156, 3) := by decide +kernel
theorem dX7_entryPoints_85 : decode cX7_entryPoints 85 = .ok (.iconst 1, 1) := by decide +kernel
theorem dX7_entryPoints_86 : decode cX7_entryPoints 86 = .ok (.if_icmp .ne 7, 3) := by decide +kernel
theorem dX7_entryPoints_89 : decode cX7_entryPoints 89 = .ok (.iconst 1, 1) := by decide +kernel
theorem dX7_entryPoints_90 : decode cX7_entryPoints 90 = .ok (.goto 4, 3) := by decide +kernel
theorem dX7_entryPoints_93 : decode cX7_entryPoints 93 = .ok (.iconst 0, 1) := by decide +kernel
theorem dX7_entryPoints_94 : decode cX7_entryPoints 94 = .ok (.ireturn, 1) := by decide +kernel
theorem dX7_entryPoints_95 : decode cX7_entryPoints 95 = .ok (.aload_n 0, 1) := by decide +kernel
theorem dX7_entryPoints_96 : decode cX7_entryPoints 96 = .ok (.aload_n 0, 1) := by decide +kernel
theorem dX7_entryPoints_97 : decode cX7_entryPoints 97 = .ok (.iload_n 1, 1) := by decide +kernel
theorem dX7_entryPoints_98 : decode cX7_entryPoints 98 = .ok (.invokevirtual 159, 3) := by decide +kernel
theorem dX7_entryPoints_101 : decode cX7_entryPoints 101 = .ok (.invokevirtual 156, 3) := by decide +kernel
theorem dX7_entryPoints_104 : decode cX7_entryPoints 104 = .ok (.bipush 7, 2) := by decide +kernel
theorem dX7_entryPoints_106 : decode cX7_entryPoints 106 = .ok (.if_icmp .ne 21, 3) := by decide +kernel
theorem dX7_entryPoints_109 : decode cX7_entryPoints 109 = .ok (.aload_n 0, 1) := by decide +kernel
theorem dX7_entryPoints_110 : decode cX7_entryPoints 110 = .ok (.aload_n 0, 1) := by decide +kernel
theorem dX7_entryPoints_111 : decode cX7_entryPoints 111 = .ok (.iload_n 1, 1) := by decide +kernel
theorem dX7_entryPoints_112 : decode cX7_entryPoints 112 = .ok (.invokevirtual 162, 3) := by decide +kernel
theorem dX7_entryPoints_115 : decode cX7_entryPoints 115 = .ok (.invokevirtual 156, 3) := by decide +kernel
theorem dX7_entryPoints_118 : decode cX7_entryPoints 118 = .ok (.bipush 12, 2) := by decide +kernel
theorem dX7_entryPoints_120 : decode cX7_entryPoints 120 = .ok (.if_icmp .ne 7, 3) := by decide +kernel
theorem dX7_entryPoints_123 : decode cX7_entryPoints 123 = .ok (.iconst 1, 1) := by decide +kernel
theorem dX7_entryPoints_124 : decode cX7_entryPoints 124 = .ok (.goto 4, 3) := by decide +kernel
theorem dX7_entryPoints_127 : decode cX7_entryPoints 127 = .ok (.iconst 0, 1) := by decide +kernel
theorem dX7_entryPoints_128 : decode cX7_entryPoints 128 = .ok (.ireturn, 1) := by decide +kernel
theorem dX7_entryPoints_129 : decode cX7_entryPoints 129 = .ok (.iconst 1, 1) := by decide +kernel
theorem dX7_entryPoints_130 : decode cX7_entryPoints 130 = .ok (.ireturn, 1) := by decide +kernel
theorem dX7_fieldsFit_0 : decode cX7_fieldsFit 0 = .ok (.aload_n 0, 1) := by decide +kernel
theorem dX7_fieldsFit_1 : decode cX7_fieldsFit 1 = .ok (.iconst 0, 1) := by decide +kernel
theorem dX7_fieldsFit_2 : decode cX7_fieldsFit 2 = .ok (.putfield 131, 3) := by decide +kernel
theorem dX7_fieldsFit_5 : decode cX7_fieldsFit 5 = .ok (.aload_n 0, 1) := by decide +kernel
theorem dX7_fieldsFit_6 : decode cX7_fieldsFit 6 = .ok (.iconst 0, 1) := by decide +kernel
theorem dX7_fieldsFit_7 : decode cX7_fieldsFit 7 = .ok (.putfield 134, 3) := by decide +kernel
theorem dX7_fieldsFit_10 : decode cX7_fieldsFit 10 = .ok (.aload_n 0, 1) := by decide +kernel
theorem dX7_fieldsFit_11 : decode cX7_fieldsFit 11 = .ok (.aload_n 0, 1) := by decide +kernel
theorem dX7_fieldsFit_12 : decode cX7_fieldsFit 12 = .ok (.iconst 0, 1) := by decide +kernel
theorem dX7_fieldsFit_13 : decode cX7_fieldsFit 13 = .ok (.invokevirtual 137, 3) := by decide +kernel
theorem dX7_fieldsFit_16 : decode cX7_fieldsFit 16 = .ok (.putfield 134, 3) := by decide +kernel
theorem dX7_fieldsFit_19 : decode cX7_fieldsFit 19 = .ok (.aload_n 0, 1) := by decide +kernel
theorem dX7_fieldsFit_20 : decode cX7_fieldsFit 20 = .ok (.getfield 134, 3) := by decide +kernel
theorem dX7_fieldsFit_23 : decode cX7_fieldsFit 23 = .ok (.ifCond .lt 7, 3) := by decide +kernel
theorem dX7_fieldsFit_26 : decode cX7_fieldsFit 26 = .ok (.iconst 1, 1) := by decide +kernel
theorem dX7_fieldsFit_27 : decode cX7_fieldsFit 27 = .ok (.goto 4, 3) := by decide +kernel
theorem dX7_fieldsFit_30 : decode cX7_fieldsFit 30 = .ok (.iconst 0, 1) := by decide +kernel
theorem dX7_fieldsFit_31 : decode cX7_fieldsFit 31 = .ok (.ireturn, 1) := by decide +kernel
theorem dX7_fileAttributesFit_0 : decode cX7_fileAttributesFit 0 = .ok (.aload_n 0, 1) := by decide +kernel
theorem dX7_fileAttributesFit_1 : decode cX7_fileAttributesFit 1 = .ok (.aload_n 0, 1) := by decide +kernel
theorem dX7_fileAttributesFit_2 : decode cX7_fileAttributesFit 2 = .ok (.getfield 44, 3) := by decide +kernel
theorem dX7_fileAttributesFit_5 : decode cX7_fileAttributesFit 5 = .ok (.putfield 143, 3) := by decide +kernel
theorem dX7_fileAttributesFit_8 : decode cX7_fileAttributesFit 8 = .ok (.aload_n 0, 1) := by decide +kernel
theorem dX7_fileAttributesFit_9 : decode cX7_fileAttributesFit 9 = .ok (.invokevirtual 140, 3) := by decide +kernel
theorem dX7_fileAttributesFit_12 : decode cX7_fileAttributesFit 12 = .ok (.ireturn, 1) := by decide +kernel
theorem dX7_firstOf_0 : decode cX7_firstOf 0 = .ok (.aload_n 0, 1) := by decide +kernel
theorem dX7_firstOf_1 : decode cX7_firstOf 1 = .ok (.aload_n 0, 1) := by decide +kernel
theorem dX7_firstOf_2 : decode cX7_firstOf 2 = .ok (.iload_n 1, 1) := by decide +kernel
theorem dX7_firstOf_3 : decode cX7_firstOf 3 = .ok (.invokevirtual 150, 3) := by decide +kernel
theorem dX7_firstOf_6 : decode cX7_firstOf 6 = .ok (.iconst 1, 1) := by decide +kernel
theorem dX7_firstOf_7 : decode cX7_firstOf 7 = .ok (.iadd, 1) := by decide +kernel
theorem dX7_firstOf_8 : decode cX7_firstOf 8 = .ok (.invokevirtual 107, 3) := by decide +kernel
theorem dX7_firstOf_11 : decode cX7_firstOf 11 = .ok (.ireturn, 1) := by decide +kernel
theorem dX7_flagsHold_0 : decode cX7_flagsHold 0 = .ok (.aload_n 0, 1) := by decide +kernel
theorem dX7_flagsHold_1 : decode cX7_flagsHold 1 = .ok (.aload_n 0, 1) := by decide +kernel
theorem dX7_flagsHold_2 : decode cX7_flagsHold 2 = .ok (.getfield 128, 3) := by decide +kernel
theorem dX7_flagsHold_5 : decode cX7_flagsHold 5 = .ok (.invokevirtual 107, 3) := by decide +kernel
theorem dX7_flagsHold_8 : decode cX7_flagsHold 8 = .ok (.bipush 33, 2) := by decide +kernel
theorem dX7_flagsHold_10 : decode cX7_flagsHold 10 = .ok (.if_icmp .eq 14, 3) := by decide +kernel
theorem dX7_flagsHold_13 : decode cX7_flagsHold 13 = .ok (.aload_n 0, 1) := by decide +kernel
theorem dX7_flagsHold_14 : decode cX7_flagsHold 14 = .ok (.bipush 7, 2) := by decide +kernel
theorem dX7_flagsHold_16 : decode cX7_flagsHold 16 = .ok (.aload_n 0, 1) := by decide +kernel
theorem dX7_flagsHold_17 : decode cX7_flagsHold 17 = .ok (.getfield 128, 3) := by decide +kernel
theorem dX7_flagsHold_20 : decode cX7_flagsHold 20 = .ok (.invokevirtual 87, 3) := by decide +kernel
theorem dX7_flagsHold_23 : decode cX7_flagsHold 23 = .ok (.ireturn, 1) := by decide +kernel
theorem dX7_flagsHold_24 : decode cX7_flagsHold 24 = .ok (.iconst 0, 1) := by decide +kernel
theorem dX7_flagsHold_25 : decode cX7_flagsHold 25 = .ok (.istore_n 1, 1) := by decide +kernel
theorem dX7_flagsHold_26 : decode cX7_flagsHold 26 = .ok (.iload_n 1, 1) := by decide +kernel
theorem dX7_flagsHold_27 : decode cX7_flagsHold 27 = .ok (.aload_n 0, 1) := by decide +kernel
theorem dX7_flagsHold_28 : decode cX7_flagsHold 28 = .ok (.getfield 134, 3) := by decide +kernel

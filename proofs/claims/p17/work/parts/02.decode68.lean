theorem dX7_entryPoints_104 : decode cX7_entryPoints 104 = .ok (.bipush 7, 2) := by decide +kernel
theorem dX7_entryPoints_106 : decode cX7_entryPoints 106 = .ok (.if_icmp .ne 21, 3) := by decide +kernel
theorem dX7_entryPoints_109 : decode cX7_entryPoints 109 = .ok (.aload_n 0, 1) := by decide +kernel
theorem dX7_entryPoints_110 : decode cX7_entryPoints 110 = .ok (.aload_n 0, 1) := by decide +kernel
theorem dX7_entryPoints_111 : decode cX7_entryPoints 111 = .ok (.iload_n 1, 1) := by decide +kernel
theorem dX7_entryPoints_112 : decode cX7_entryPoints 112 = .ok (.invokevirtual 162, 3) := by decide +kernel
theorem dX7_entryPoints_115 : decode cX7_entryPoints 115 = .ok (.invokevirtual 156, 3) := by decide +kernel
theorem dX7_entryPoints_118 : decode cX7_entryPoints 118 = .ok (.bipush 12, 2) := by decide +kernel
theorem dX7_entryPoints_120 : decode cX7_entryPoints 120 = .ok (.if_icmp .ne 7, 3) := by decide +kernel
theorem dX7_entryPoints_123 : decode cX7_entryPoints 123 = .ok (.iconst 1, 1) := by decide +kernel
theorem dX7_entryPoints_124 : decode cX7_entryPoints 124 = .ok (.goto 4, 3) := by decide +kernel
theorem dX7_entryPoints_127 : decode cX7_entryPoints 127 = .ok (.iconst 0, 1) := by decide +kernel
theorem dX7_entryPoints_128 : decode cX7_entryPoints 128 = .ok (.ireturn, 1) := by decide +kernel
theorem dX7_entryPoints_129 : decode cX7_entryPoints 129 = .ok (.iconst 1, 1) := by decide +kernel
theorem dX7_entryPoints_130 : decode cX7_entryPoints 130 = .ok (.ireturn, 1) := by decide +kernel
theorem dX7_fieldsFit_0 : decode cX7_fieldsFit 0 = .ok (.aload_n 0, 1) := by decide +kernel
theorem dX7_fieldsFit_1 : decode cX7_fieldsFit 1 = .ok (.iconst 0, 1) := by decide +kernel
theorem dX7_fieldsFit_2 : decode cX7_fieldsFit 2 = .ok (.putfield 131, 3) := by decide +kernel
theorem dX7_fieldsFit_5 : decode cX7_fieldsFit 5 = .ok (.aload_n 0, 1) := by decide +kernel
theorem dX7_fieldsFit_6 : decode cX7_fieldsFit 6 = .ok (.iconst 0, 1) := by decide +kernel
theorem dX7_fieldsFit_7 : decode cX7_fieldsFit 7 = .ok (.putfield 134, 3) := by decide +kernel
theorem dX7_fieldsFit_10 : decode cX7_fieldsFit 10 = .ok (.aload_n 0, 1) := by decide +kernel
theorem dX7_fieldsFit_11 : decode cX7_fieldsFit 11 = .ok (.aload_n 0, 1) := by decide +kernel
theorem dX7_fieldsFit_12 : decode cX7_fieldsFit 12 = .ok (.iconst 0, 1) := by decide +kernel
theorem dX7_fieldsFit_13 : decode cX7_fieldsFit 13 = .ok (.invokevirtual 137, 3) := by decide +kernel
theorem dX7_fieldsFit_16 : decode cX7_fieldsFit 16 = .ok (.putfield 134, 3) := by decide +kernel
theorem dX7_fieldsFit_19 : decode cX7_fieldsFit 19 = .ok (.aload_n 0, 1) := by decide +kernel
theorem dX7_fieldsFit_20 : decode cX7_fieldsFit 20 = .ok (.getfield 134, 3) := by decide +kernel
theorem dX7_fieldsFit_23 : decode cX7_fieldsFit 23 = .ok (.ifCond .lt 7, 3) := by decide +kernel
theorem dX7_fieldsFit_26 : decode cX7_fieldsFit 26 = .ok (.iconst 1, 1) := by decide +kernel
theorem dX7_fieldsFit_27 : decode cX7_fieldsFit 27 = .ok (.goto 4, 3) := by decide +kernel
theorem dX7_fieldsFit_30 : decode cX7_fieldsFit 30 = .ok (.iconst 0, 1) := by decide +kernel
theorem dX7_fieldsFit_31 : decode cX7_fieldsFit 31 = .ok (.ireturn, 1) := by decide +kernel
theorem dX7_fileAttributesFit_0 : decode cX7_fileAttributesFit 0 = .ok (.aload_n 0, 1) := by decide +kernel
theorem dX7_fileAttributesFit_1 : decode cX7_fileAttributesFit 1 = .ok (.aload_n 0, 1) := by decide +kernel
theorem dX7_fileAttributesFit_2 : decode cX7_fileAttributesFit 2 = .ok (.getfield 44, 3) := by decide +kernel
theorem dX7_fileAttributesFit_5 : decode cX7_fileAttributesFit 5 = .ok (.putfield 143, 3) := by decide +kernel
theorem dX7_fileAttributesFit_8 : decode cX7_fileAttributesFit 8 = .ok (.aload_n 0, 1) := by decide +kernel
theorem dX7_fileAttributesFit_9 : decode cX7_fileAttributesFit 9 = .ok (.invokevirtual 140, 3) := by decide +kernel
theorem dX7_fileAttributesFit_12 : decode cX7_fileAttributesFit 12 = .ok (.ireturn, 1) := by decide +kernel
theorem dX7_firstOf_0 : decode cX7_firstOf 0 = .ok (.aload_n 0, 1) := by decide +kernel
theorem dX7_firstOf_1 : decode cX7_firstOf 1 = .ok (.aload_n 0, 1) := by decide +kernel
theorem dX7_firstOf_2 : decode cX7_firstOf 2 = .ok (.iload_n 1, 1) := by decide +kernel
theorem dX7_firstOf_3 : decode cX7_firstOf 3 = .ok (.invokevirtual 150, 3) := by decide +kernel
theorem dX7_firstOf_6 : decode cX7_firstOf 6 = .ok (.iconst 1, 1) := by decide +kernel
theorem dX7_firstOf_7 : decode cX7_firstOf 7 = .ok (.iadd, 1) := by decide +kernel
theorem dX7_firstOf_8 : decode cX7_firstOf 8 = .ok (.invokevirtual 107, 3) := by decide +kernel
theorem dX7_firstOf_11 : decode cX7_firstOf 11 = .ok (.ireturn, 1) := by decide +kernel
theorem dX7_flagsHold_0 : decode cX7_flagsHold 0 = .ok (.aload_n 0, 1) := by decide +kernel
theorem dX7_flagsHold_1 : decode cX7_flagsHold 1 = .ok (.aload_n 0, 1) := by decide +kernel
theorem dX7_flagsHold_2 : decode cX7_flagsHold 2 = .ok (.getfield 128, 3) := by decide +kernel
theorem dX7_flagsHold_5 : decode cX7_flagsHold 5 = .ok (.invokevirtual 107, 3) := by decide +kernel
theorem dX7_flagsHold_8 : decode cX7_flagsHold 8 = .ok (.bipush 33, 2) := by decide +kernel
theorem dX7_flagsHold_10 : decode cX7_flagsHold 10 = .ok (.if_icmp .eq 14, 3) := by decide +kernel
theorem dX7_flagsHold_13 : decode cX7_flagsHold 13 = .ok (.aload_n 0, 1) := by decide +kernel
theorem dX7_flagsHold_14 : decode cX7_flagsHold 14 = .ok (.bipush 7, 2) := by decide +kernel
theorem dX7_flagsHold_16 : decode cX7_flagsHold 16 = .ok (.aload_n 0, 1) := by decide +kernel
theorem dX7_flagsHold_17 : decode cX7_flagsHold 17 = .ok (.getfield 128, 3) := by decide +kernel
theorem dX7_flagsHold_20 : decode cX7_flagsHold 20 = .ok (.invokevirtual 87, 3) := by decide +kernel
theorem dX7_flagsHold_23 : decode cX7_flagsHold 23 = .ok (.ireturn, 1) := by decide +kernel
theorem dX7_flagsHold_24 : decode cX7_flagsHold 24 = .ok (.iconst 0, 1) := by decide +kernel
theorem dX7_flagsHold_25 : decode cX7_flagsHold 25 = .ok (.istore_n 1, 1) := by decide +kernel
theorem dX7_flagsHold_26 : decode cX7_flagsHold 26 = .ok (.iload_n 1, 1) := by decide +kernel
theorem dX7_flagsHold_27 : decode cX7_flagsHold 27 = .ok (.aload_n 0, 1) := by decide +kernel
theorem dX7_flagsHold_28 : decode cX7_flagsHold 28 = .ok (.getfield 134, 3) := by decide +kernel
theorem dX7_flagsHold_31 : decode cX7_flagsHold 31 = .ok (.aload_n 0, 1) := by decide +kernel
theorem dX7_flagsHold_32 : decode cX7_flagsHold 32 = .ok (.getfield 131, 3) := by decide +kernel
theorem dX7_flagsHold_35 : decode cX7_flagsHold 35 = .ok (.iadd, 1) := by decide +kernel
theorem dX7_flagsHold_36 : decode cX7_flagsHold 36 = .ok (.if_icmp .ge 35, 3) := by decide +kernel
theorem dX7_flagsHold_39 : decode cX7_flagsHold 39 = .ok (.aload_n 0, 1) := by decide +kernel
theorem dX7_flagsHold_40 : decode cX7_flagsHold 40 = .ok (.aload_n 0, 1) := by decide +kernel
theorem dX7_flagsHold_41 : decode cX7_flagsHold 41 = .ok (.iload_n 1, 1) := by decide +kernel
theorem dX7_flagsHold_42 : decode cX7_flagsHold 42 = .ok (.invokevirtual 165, 3) := by decide +kernel
theorem dX7_flagsHold_45 : decode cX7_flagsHold 45 = .ok (.invokevirtual 107, 3) := by decide +kernel
theorem dX7_flagsHold_48 : decode cX7_flagsHold 48 = .ok (.bipush 9, 2) := by decide +kernel
theorem dX7_flagsHold_50 : decode cX7_flagsHold 50 = .ok (.if_icmp .eq 15, 3) := by decide +kernel
theorem dX7_flagsHold_53 : decode cX7_flagsHold 53 = .ok (.aload_n 0, 1) := by decide +kernel
theorem dX7_flagsHold_54 : decode cX7_flagsHold 54 = .ok (.bipush 7, 2) := by decide +kernel
theorem dX7_flagsHold_56 : decode cX7_flagsHold 56 = .ok (.aload_n 0, 1) := by decide +kernel
theorem dX7_flagsHold_57 : decode cX7_flagsHold 57 = .ok (.iload_n 1, 1) := by decide +kernel
theorem dX7_flagsHold_58 : decode cX7_flagsHold 58 = .ok (.invokevirtual 165, 3) := by decide +kernel
theorem dX7_flagsHold_61 : decode cX7_flagsHold 61 = .ok (.invokevirtual 87, 3) := by decide +kernel
theorem dX7_flagsHold_64 : decode cX7_flagsHold 64 = .ok (.ireturn, 1) := by decide +kernel
theorem dX7_flagsHold_65 : decode cX7_flagsHold 65 = .ok (.iinc 1 1, 3) := by decide +kernel
theorem dX7_flagsHold_68 : decode cX7_flagsHold 68 = .ok (.goto (-42), 3) := by decide +kernel
theorem dX7_flagsHold_71 : decode cX7_flagsHold 71 = .ok (.iconst 1, 1) := by decide +kernel
theorem dX7_flagsHold_72 : decode cX7_flagsHold 72 = .ok (.ireturn, 1) := by decide +kernel
theorem dX7_headFits_0 : decode cX7_headFits 0 = .ok (.aload_n 0, 1) := by decide +kernel
theorem dX7_headFits_1 : decode cX7_headFits 1 = .ok (.aload_n 0, 1) := by decide +kernel
theorem dX7_headFits_2 : decode cX7_headFits 2 = .ok (.getfield 44, 3) := by decide +kernel
theorem dX7_headFits_5 : decode cX7_headFits 5 = .ok (.putfield 128, 3) := by decide +kernel
theorem dX7_headFits_8 : decode cX7_headFits 8 = .ok (.aload_n 0, 1) := by decide +kernel
theorem dX7_headFits_9 : decode cX7_headFits 9 = .ok (.bipush 8, 2) := by decide +kernel
theorem dX7_headFits_11 : decode cX7_headFits 11 = .ok (.invokevirtual 103, 3) := by decide +kernel
theorem dX7_headFits_14 : decode cX7_headFits 14 = .ok (.ifCond .ne 5, 3) := by decide +kernel
theorem dX7_headFits_17 : decode cX7_headFits 17 = .ok (.iconst 0, 1) := by decide +kernel
theorem dX7_headFits_18 : decode cX7_headFits 18 = .ok (.ireturn, 1) := by decide +kernel
theorem dX7_headFits_19 : decode cX7_headFits 19 = .ok (.aload_n 0, 1) := by decide +kernel
theorem dX7_headFits_20 : decode cX7_headFits 20 = .ok (.dup, 1) := by decide +kernel
theorem dX7_headFits_21 : decode cX7_headFits 21 = .ok (.getfield 44, 3) := by decide +kernel
theorem dX7_headFits_24 : decode cX7_headFits 24 = .ok (.bipush 8, 2) := by decide +kernel
theorem dX7_headFits_26 : decode cX7_headFits 26 = .ok (.iadd, 1) := by decide +kernel
theorem dX7_headFits_27 : decode cX7_headFits 27 = .ok (.putfield 44, 3) := by decide +kernel
theorem dX7_headFits_30 : decode cX7_headFits 30 = .ok (.iconst 1, 1) := by decide +kernel
theorem dX7_headFits_31 : decode cX7_headFits 31 = .ok (.ireturn, 1) := by decide +kernel
theorem dX7_headHolds_0 : decode cX7_headHolds 0 = .ok (.aload_n 0, 1) := by decide +kernel
theorem dX7_headHolds_1 : decode cX7_headHolds 1 = .ok (.aload_n 0, 1) := by decide +kernel
theorem dX7_headHolds_2 : decode cX7_headHolds 2 = .ok (.aload_n 0, 1) := by decide +kernel
theorem dX7_headHolds_3 : decode cX7_headHolds 3 = .ok (.getfield 128, 3) := by decide +kernel
theorem dX7_headHolds_6 : decode cX7_headHolds 6 = .ok (.iconst 2, 1) := by decide +kernel
theorem dX7_headHolds_7 : decode cX7_headHolds 7 = .ok (.iadd, 1) := by decide +kernel
theorem dX7_headHolds_8 : decode cX7_headHolds 8 = .ok (.invokevirtual 107, 3) := by decide +kernel
theorem dX7_headHolds_11 : decode cX7_headHolds 11 = .ok (.invokevirtual 156, 3) := by decide +kernel
theorem dX7_headHolds_14 : decode cX7_headHolds 14 = .ok (.bipush 7, 2) := by decide +kernel
theorem dX7_headHolds_16 : decode cX7_headHolds 16 = .ok (.if_icmp .eq 16, 3) := by decide +kernel
theorem dX7_headHolds_19 : decode cX7_headHolds 19 = .ok (.aload_n 0, 1) := by decide +kernel
theorem dX7_headHolds_20 : decode cX7_headHolds 20 = .ok (.bipush 8, 2) := by decide +kernel
theorem dX7_headHolds_22 : decode cX7_headHolds 22 = .ok (.aload_n 0, 1) := by decide +kernel
theorem dX7_headHolds_23 : decode cX7_headHolds 23 = .ok (.getfield 128, 3) := by decide +kernel
theorem dX7_headHolds_26 : decode cX7_headHolds 26 = .ok (.iconst 2, 1) := by decide +kernel
theorem dX7_headHolds_27 : decode cX7_headHolds 27 = .ok (.iadd, 1) := by decide +kernel
theorem dX7_headHolds_28 : decode cX7_headHolds 28 = .ok (.invokevirtual 87, 3) := by decide +kernel
theorem dX7_headHolds_31 : decode cX7_headHolds 31 = .ok (.ireturn, 1) := by decide +kernel
theorem dX7_headHolds_32 : decode cX7_headHolds 32 = .ok (.aload_n 0, 1) := by decide +kernel
theorem dX7_headHolds_33 : decode cX7_headHolds 33 = .ok (.aload_n 0, 1) := by decide +kernel
theorem dX7_headHolds_34 : decode cX7_headHolds 34 = .ok (.aload_n 0, 1) := by decide +kernel
theorem dX7_headHolds_35 : decode cX7_headHolds 35 = .ok (.getfield 128, 3) := by decide +kernel
theorem dX7_headHolds_38 : decode cX7_headHolds 38 = .ok (.iconst 4, 1) := by decide +kernel
theorem dX7_headHolds_39 : decode cX7_headHolds 39 = .ok (.iadd, 1) := by decide +kernel
theorem dX7_headHolds_40 : decode cX7_headHolds 40 = .ok (.invokevirtual 107, 3) := by decide +kernel
theorem dX7_headHolds_43 : decode cX7_headHolds 43 = .ok (.invokevirtual 156, 3) := by decide +kernel
theorem dX7_headHolds_46 : decode cX7_headHolds 46 = .ok (.bipush 7, 2) := by decide +kernel
theorem dX7_headHolds_48 : decode cX7_headHolds 48 = .ok (.if_icmp .eq 16, 3) := by decide +kernel
theorem dX7_headHolds_51 : decode cX7_headHolds 51 = .ok (.aload_n 0, 1) := by decide +kernel
theorem dX7_headHolds_52 : decode cX7_headHolds 52 = .ok (.bipush 8, 2) := by decide +kernel
theorem dX7_headHolds_54 : decode cX7_headHolds 54 = .ok (.aload_n 0, 1) := by decide +kernel
theorem dX7_headHolds_55 : decode cX7_headHolds 55 = .ok (.getfield 128, 3) := by decide +kernel
theorem dX7_headHolds_58 : decode cX7_headHolds 58 = .ok (.iconst 4, 1) := by decide +kernel
theorem dX7_headHolds_59 : decode cX7_headHolds 59 = .ok (.iadd, 1) := by decide +kernel
theorem dX7_headHolds_60 : decode cX7_headHolds 60 = .ok (.invokevirtual 87, 3) := by decide +kernel
theorem dX7_headHolds_63 : decode cX7_headHolds 63 = .ok (.ireturn, 1) := by decide +kernel
theorem dX7_headHolds_64 : decode cX7_headHolds 64 = .ok (.aload_n 0, 1) := by decide +kernel
theorem dX7_headHolds_65 : decode cX7_headHolds 65 = .ok (.aload_n 0, 1) := by decide +kernel
theorem dX7_headHolds_66 : decode cX7_headHolds 66 = .ok (.getfield 128, 3) := by decide +kernel
theorem dX7_headHolds_69 : decode cX7_headHolds 69 = .ok (.bipush 6, 2) := by decide +kernel
theorem dX7_headHolds_71 : decode cX7_headHolds 71 = .ok (.iadd, 1) := by decide +kernel
theorem dX7_headHolds_72 : decode cX7_headHolds 72 = .ok (.invokevirtual 107, 3) := by decide +kernel
theorem dX7_headHolds_75 : decode cX7_headHolds 75 = .ok (.ifCond .eq 19, 3) := by decide +kernel
theorem dX7_headHolds_78 : decode cX7_headHolds 78 = .ok (.aload_n 0, 1) := by decide +kernel
theorem dX7_headHolds_79 : decode cX7_headHolds 79 = .ok (.bipush 8, 2) := by decide +kernel

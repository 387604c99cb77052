theorem dX7_flagsHold_31 : decode cX7_flagsHold 31 = .ok (.aload_n 0, 1) := by decide +kernel
theorem dX7_flagsHold_32 : decode cX7_flagsHold 32 = .ok (.getfield 131, 3) := by decide +kernel
theorem dX7_flagsHold_35 : decode cX7_flagsHold 35 = .ok (.iadd, 1) := by decide +kernel
theorem dX7_flagsHold_36 : decode cX7_flagsHold 36 = .ok (.if_icmp .ge 35, 3) := by decide +kernel
theorem dX7_flagsHold_39 : decode cX7_flagsHold 39 = .ok (.aload_n 0, 1) := by decide +kernel
theorem dX7_flagsHold_40 : decode cX7_flagsHold 40 = .ok (.aload_n 0, 1) := by decide +kernel
theorem dX7_flagsHold_41 : decode cX7_flagsHold 41 = .ok (.iload_n 1, 1) := by decide +kernel
theorem dX7_flagsHold_42 : decode cX7_flagsHold 42 = .ok (.invokevirtual 165, 3) := by decide +kernel
theorem dX7_flagsHold_45 : decode cX7_flagsHold 45 = .ok (.invokevirtual 107, 3) := by decide +kernel
theorem dX7_flagsHold_48 : decode cX7_flagsHold 48 = .ok (.bipush 9, 2) := by decide +kernel
theorem dX7_flagsHold_50 : decode cX7_flagsHold 50 = .ok (.if_icmp .eq 15, 3) := by decide +kernel
theorem dX7_flagsHold_53 : decode cX7_flagsHold 53 = .ok (.aload_n 0, 1) := by decide +kernel
theorem dX7_flagsHold_54 : decode cX7_flagsHold 54 = .ok (.bipush 7, 2) := by decide +kernel
theorem dX7_flagsHold_56 : decode cX7_flagsHold 56 = .ok (.aload_n 0, 1) := by decide +kernel
theorem dX7_flagsHold_57 : decode cX7_flagsHold 57 = .ok (.iload_n 1, 1) := by decide +kernel
theorem dX7_flagsHold_58 : decode cX7_flagsHold 58 = .ok (.invokevirtual 165, 3) := by decide +kernel
theorem dX7_flagsHold_61 : decode cX7_flagsHold 61 = .ok (.invokevirtual 87, 3) := by decide +kernel
theorem dX7_flagsHold_64 : decode cX7_flagsHold 64 = .ok (.ireturn, 1) := by decide +kernel
theorem dX7_flagsHold_65 : decode cX7_flagsHold 65 = .ok (.iinc 1 1, 3) := by decide +kernel
theorem dX7_flagsHold_68 : decode cX7_flagsHold 68 = .ok (.goto (-42), 3) := by decide +kernel
theorem dX7_flagsHold_71 : decode cX7_flagsHold 71 = .ok (.iconst 1, 1) := by decide +kernel
theorem dX7_flagsHold_72 : decode cX7_flagsHold 72 = .ok (.ireturn, 1) := by decide +kernel
theorem dX7_headFits_0 : decode cX7_headFits 0 = .ok (.aload_n 0, 1) := by decide +kernel
theorem dX7_headFits_1 : decode cX7_headFits 1 = .ok (.aload_n 0, 1) := by decide +kernel
theorem dX7_headFits_2 : decode cX7_headFits 2 = .ok (.getfield 44, 3) := by decide +kernel
theorem dX7_headFits_5 : decode cX7_headFits 5 = .ok (.putfield 128, 3) := by decide +kernel
theorem dX7_headFits_8 : decode cX7_headFits 8 = .ok (.aload_n 0, 1) := by decide +kernel
theorem dX7_headFits_9 : decode cX7_headFits 9 = .ok (.bipush 8, 2) := by decide +kernel
theorem dX7_headFits_11 : decode cX7_headFits 11 = .ok (.invokevirtual 103, 3) := by decide +kernel
theorem dX7_headFits_14 : decode cX7_headFits 14 = .ok (.ifCond .ne 5, 3) := by decide +kernel
theorem dX7_headFits_17 : decode cX7_headFits 17 = .ok (.iconst 0, 1) := by decide +kernel
theorem dX7_headFits_18 : decode cX7_headFits 18 = .ok (.ireturn, 1) := by decide +kernel
theorem dX7_headFits_19 : decode cX7_headFits 19 = .ok (.aload_n 0, 1) := by decide +kernel
theorem dX7_headFits_20 : decode cX7_headFits 20 = .ok (.dup, 1) := by decide +kernel
theorem dX7_headFits_21 : decode cX7_headFits 21 = .ok (.getfield 44, 3) := by decide +kernel
theorem dX7_headFits_24 : decode cX7_headFits 24 = .ok (.bipush 8, 2) := by decide +kernel
theorem dX7_headFits_26 : decode cX7_headFits 26 = .ok (.iadd, 1) := by decide +kernel
theorem dX7_headFits_27 : decode cX7_headFits 27 = .ok (.putfield 44, 3) := by decide +kernel
theorem dX7_headFits_30 : decode cX7_headFits 30 = .ok (.iconst 1, 1) := by decide +kernel
theorem dX7_headFits_31 : decode cX7_headFits 31 = .ok (.ireturn, 1) := by decide +kernel
theorem dX7_headHolds_0 : decode cX7_headHolds 0 = .ok (.aload_n 0, 1) := by decide +kernel
theorem dX7_headHolds_1 : decode cX7_headHolds 1 = .ok (.aload_n 0, 1) := by decide +kernel
theorem dX7_headHolds_2 : decode cX7_headHolds 2 = .ok (.aload_n 0, 1) := by decide +kernel
theorem dX7_headHolds_3 : decode cX7_headHolds 3 = .ok (.getfield 128, 3) := by decide +kernel
theorem dX7_headHolds_6 : decode cX7_headHolds 6 = .ok (.iconst 2, 1) := by decide +kernel
theorem dX7_headHolds_7 : decode cX7_headHolds 7 = .ok (.iadd, 1) := by decide +kernel
theorem dX7_headHolds_8 : decode cX7_headHolds 8 = .ok (.invokevirtual 107, 3) := by decide +kernel
theorem dX7_headHolds_11 : decode cX7_headHolds 11 = .ok (.invokevirtual 156, 3) := by decide +kernel
theorem dX7_headHolds_14 : decode cX7_headHolds 14 = .ok (.bipush 7, 2) := by decide +kernel
theorem dX7_headHolds_16 : decode cX7_headHolds 16 = .ok (.if_icmp .eq 16, 3) := by decide +kernel
theorem dX7_headHolds_19 : decode cX7_headHolds 19 = .ok (.aload_n 0, 1) := by decide +kernel
theorem dX7_headHolds_20 : decode cX7_headHolds 20 = .ok (.bipush 8, 2) := by decide +kernel
theorem dX7_headHolds_22 : decode cX7_headHolds 22 = .ok (.aload_n 0, 1) := by decide +kernel
theorem dX7_headHolds_23 : decode cX7_headHolds 23 = .ok (.getfield 128, 3) := by decide +kernel
theorem dX7_headHolds_26 : decode cX7_headHolds 26 = .ok (.iconst 2, 1) := by decide +kernel
theorem dX7_headHolds_27 : decode cX7_headHolds 27 = .ok (.iadd, 1) := by decide +kernel
theorem dX7_headHolds_28 : decode cX7_headHolds 28 = .ok (.invokevirtual 87, 3) := by decide +kernel
theorem dX7_headHolds_31 : decode cX7_headHolds 31 = .ok (.ireturn, 1) := by decide +kernel
theorem dX7_headHolds_32 : decode cX7_headHolds 32 = .ok (.aload_n 0, 1) := by decide +kernel
theorem dX7_headHolds_33 : decode cX7_headHolds 33 = .ok (.aload_n 0, 1) := by decide +kernel
theorem dX7_headHolds_34 : decode cX7_headHolds 34 = .ok (.aload_n 0, 1) := by decide +kernel
theorem dX7_headHolds_35 : decode cX7_headHolds 35 = .ok (.getfield 128, 3) := by decide +kernel
theorem dX7_headHolds_38 : decode cX7_headHolds 38 = .ok (.iconst 4, 1) := by decide +kernel
theorem dX7_headHolds_39 : decode cX7_headHolds 39 = .ok (.iadd, 1) := by decide +kernel
theorem dX7_headHolds_40 : decode cX7_headHolds 40 = .ok (.invokevirtual 107, 3) := by decide +kernel
theorem dX7_headHolds_43 : decode cX7_headHolds 43 = .ok (.invokevirtual 156, 3) := by decide +kernel
theorem dX7_headHolds_46 : decode cX7_headHolds 46 = .ok (.bipush 7, 2) := by decide +kernel
theorem dX7_headHolds_48 : decode cX7_headHolds 48 = .ok (.if_icmp .eq 16, 3) := by decide +kernel
theorem dX7_headHolds_51 : decode cX7_headHolds 51 = .ok (.aload_n 0, 1) := by decide +kernel
theorem dX7_headHolds_52 : decode cX7_headHolds 52 = .ok (.bipush 8, 2) := by decide +kernel
theorem dX7_headHolds_54 : decode cX7_headHolds 54 = .ok (.aload_n 0, 1) := by decide +kernel
theorem dX7_headHolds_55 : decode cX7_headHolds 55 = .ok (.getfield 128, 3) := by decide +kernel
theorem dX7_headHolds_58 : decode cX7_headHolds 58 = .ok (.iconst 4, 1) := by decide +kernel
theorem dX7_headHolds_59 : decode cX7_headHolds 59 = .ok (.iadd, 1) := by decide +kernel
theorem dX7_headHolds_60 : decode cX7_headHolds 60 = .ok (.invokevirtual 87, 3) := by decide +kernel
theorem dX7_headHolds_63 : decode cX7_headHolds 63 = .ok (.ireturn, 1) := by decide +kernel
theorem dX7_headHolds_64 : decode cX7_headHolds 64 = .ok (.aload_n 0, 1) := by decide +kernel
theorem dX7_headHolds_65 : decode cX7_headHolds 65 = .ok (.aload_n 0, 1) := by decide +kernel
theorem dX7_headHolds_66 : decode cX7_headHolds 66 = .ok (.getfield 128, 3) := by decide +kernel
theorem dX7_headHolds_69 : decode cX7_headHolds 69 = .ok (.bipush 6, 2) := by decide +kernel
theorem dX7_headHolds_71 : decode cX7_headHolds 71 = .ok (.iadd, 1) := by decide +kernel
theorem dX7_headHolds_72 : decode cX7_headHolds 72 = .ok (.invokevirtual 107, 3) := by decide +kernel
theorem dX7_headHolds_75 : decode cX7_headHolds 75 = .ok (.ifCond .eq 19, 3) := by decide +kernel
theorem dX7_headHolds_78 : decode cX7_headHolds 78 = .ok (.aload_n 0, 1) := by decide +kernel
theorem dX7_headHolds_79 : decode cX7_headHolds 79 = .ok (.bipush 8, 2) := by decide +kernel
theorem dX7_headHolds_81 : decode cX7_headHolds 81 = .ok (.aload_n 0, 1) := by decide +kernel
theorem dX7_headHolds_82 : decode cX7_headHolds 82 = .ok (.getfield 128, 3) := by decide +kernel
theorem dX7_headHolds_85 : decode cX7_headHolds 85 = .ok (.bipush 6, 2) := by decide +kernel
theorem dX7_headHolds_87 : decode cX7_headHolds 87 = .ok (.iadd, 1) := by decide +kernel
theorem dX7_headHolds_88 : decode cX7_headHolds 88 = .ok (.invokevirtual 87, 3) := by decide +kernel
theorem dX7_headHolds_91 : decode cX7_headHolds 91 = .ok (.ifCond .eq 7, 3) := by decide +kernel
theorem dX7_headHolds_94 : decode cX7_headHolds 94 = .ok (.iconst 1, 1) := by decide +kernel
theorem dX7_headHolds_95 : decode cX7_headHolds 95 = .ok (.goto 4, 3) := by decide +kernel
theorem dX7_headHolds_98 : decode cX7_headHolds 98 = .ok (.iconst 0, 1) := by decide +kernel
theorem dX7_headHolds_99 : decode cX7_headHolds 99 = .ok (.ireturn, 1) := by decide +kernel
theorem dX7_init_0 : decode cX7_init 0 = .ok (.aload_n 0, 1) := by decide +kernel
theorem dX7_init_1 : decode cX7_init 1 = .ok (.invokespecial 3, 3) := by decide +kernel
theorem dX7_init_4 : decode cX7_init 4 = .ok (.aload_n 0, 1) := by decide +kernel
theorem dX7_init_5 : decode cX7_init 5 = .ok (.iconst 0, 1) := by decide +kernel
theorem dX7_init_6 : decode cX7_init 6 = .ok (.newarray .byte, 2) := by decide +kernel
theorem dX7_init_8 : decode cX7_init 8 = .ok (.putfield 9, 3) := by decide +kernel
theorem dX7_init_11 : decode cX7_init 11 = .ok (.aload_n 0, 1) := by decide +kernel
theorem dX7_init_12 : decode cX7_init 12 = .ok (.iconst (-1), 1) := by decide +kernel
theorem dX7_init_13 : decode cX7_init 13 = .ok (.putfield 15, 3) := by decide +kernel
theorem dX7_init_16 : decode cX7_init 16 = .ok (.aload_n 0, 1) := by decide +kernel
theorem dX7_init_17 : decode cX7_init 17 = .ok (.sipush 500, 3) := by decide +kernel
theorem dX7_init_20 : decode cX7_init 20 = .ok (.newarray .int, 2) := by decide +kernel
theorem dX7_init_22 : decode cX7_init 22 = .ok (.putfield 19, 3) := by decide +kernel
theorem dX7_init_25 : decode cX7_init 25 = .ok (.aload_n 0, 1) := by decide +kernel
theorem dX7_init_26 : decode cX7_init 26 = .ok (.bipush 48, 2) := by decide +kernel
theorem dX7_init_28 : decode cX7_init 28 = .ok (.newarray .int, 2) := by decide +kernel
theorem dX7_init_30 : decode cX7_init 30 = .ok (.putfield 23, 3) := by decide +kernel
theorem dX7_init_33 : decode cX7_init 33 = .ok (.aload_n 0, 1) := by decide +kernel
theorem dX7_init_34 : decode cX7_init 34 = .ok (.bipush 24, 2) := by decide +kernel
theorem dX7_init_36 : decode cX7_init 36 = .ok (.newarray .int, 2) := by decide +kernel
theorem dX7_init_38 : decode cX7_init 38 = .ok (.putfield 26, 3) := by decide +kernel
theorem dX7_init_41 : decode cX7_init 41 = .ok (.aload_n 0, 1) := by decide +kernel
theorem dX7_init_42 : decode cX7_init 42 = .ok (.bipush 24, 2) := by decide +kernel
theorem dX7_init_44 : decode cX7_init 44 = .ok (.newarray .int, 2) := by decide +kernel
theorem dX7_init_46 : decode cX7_init 46 = .ok (.putfield 29, 3) := by decide +kernel
theorem dX7_init_49 : decode cX7_init 49 = .ok (.return_, 1) := by decide +kernel
theorem dX7_isMethodType_0 : decode cX7_isMethodType 0 = .ok (.aload_n 0, 1) := by decide +kernel
theorem dX7_isMethodType_1 : decode cX7_isMethodType 1 = .ok (.iconst 0, 1) := by decide +kernel
theorem dX7_isMethodType_2 : decode cX7_isMethodType 2 = .ok (.putfield 196, 3) := by decide +kernel
theorem dX7_isMethodType_5 : decode cX7_isMethodType 5 = .ok (.aload_n 0, 1) := by decide +kernel
theorem dX7_isMethodType_6 : decode cX7_isMethodType 6 = .ok (.iconst 0, 1) := by decide +kernel
theorem dX7_isMethodType_7 : decode cX7_isMethodType 7 = .ok (.putfield 183, 3) := by decide +kernel
theorem dX7_isMethodType_10 : decode cX7_isMethodType 10 = .ok (.aload_n 0, 1) := by decide +kernel
theorem dX7_isMethodType_11 : decode cX7_isMethodType 11 = .ok (.iconst 0, 1) := by decide +kernel
theorem dX7_isMethodType_12 : decode cX7_isMethodType 12 = .ok (.putfield 199, 3) := by decide +kernel
theorem dX7_isMethodType_15 : decode cX7_isMethodType 15 = .ok (.aload_n 0, 1) := by decide +kernel
theorem dX7_isMethodType_16 : decode cX7_isMethodType 16 = .ok (.iload_n 1, 1) := by decide +kernel
theorem dX7_isMethodType_17 : decode cX7_isMethodType 17 = .ok (.invokevirtual 190, 3) := by decide +kernel
theorem dX7_isMethodType_20 : decode cX7_isMethodType 20 = .ok (.istore_n 2, 1) := by decide +kernel
theorem dX7_isMethodType_21 : decode cX7_isMethodType 21 = .ok (.aload_n 0, 1) := by decide +kernel
theorem dX7_isMethodType_22 : decode cX7_isMethodType 22 = .ok (.iload_n 1, 1) := by decide +kernel
theorem dX7_isMethodType_23 : decode cX7_isMethodType 23 = .ok (.iconst 0, 1) := by decide +kernel
theorem dX7_isMethodType_24 : decode cX7_isMethodType 24 = .ok (.invokevirtual 193, 3) := by decide +kernel
theorem dX7_isMethodType_27 : decode cX7_isMethodType 27 = .ok (.bipush 40, 2) := by decide +kernel
theorem dX7_isMethodType_29 : decode cX7_isMethodType 29 = .ok (.if_icmp .eq 5, 3) := by decide +kernel
theorem dX7_isMethodType_32 : decode cX7_isMethodType 32 = .ok (.iconst 0, 1) := by decide +kernel
theorem dX7_isMethodType_33 : decode cX7_isMethodType 33 = .ok (.ireturn, 1) := by decide +kernel
theorem dX7_isMethodType_34 : decode cX7_isMethodType 34 = .ok (.iconst 1, 1) := by decide +kernel
theorem dX7_isMethodType_35 : decode cX7_isMethodType 35 = .ok (.istore_n 3, 1) := by decide +kernel
theorem dX7_isMethodType_36 : decode cX7_isMethodType 36 = .ok (.aload_n 0, 1) := by decide +kernel
theorem dX7_isMethodType_37 : decode cX7_isMethodType 37 = .ok (.iload_n 1, 1) := by decide +kernel
theorem dX7_isMethodType_38 : decode cX7_isMethodType 38 = .ok (.iload_n 3, 1) := by decide +kernel
theorem dX7_isMethodType_39 : decode cX7_isMethodType 39 = .ok (.invokevirtual 186, 3) := by decide +kernel
theorem dX7_isMethodType_42 : decode cX7_isMethodType 42 = .ok (.istore 4, 2) := by decide +kernel
theorem dX7_isMethodType_44 : decode cX7_isMethodType 44 = .ok (.iload 4, 2) := by decide +kernel

theorem dX7_kindOfType_13 : decode cX7_kindOfType 13 = .ok (.iconst 3, 1) := by decide +kernel
theorem dX7_kindOfType_14 : decode cX7_kindOfType 14 = .ok (.if_icmp .ne 7, 3) := by decide +kernel
theorem dX7_kindOfType_17 : decode cX7_kindOfType 17 = .ok (.iconst 2, 1) := by decide +kernel
theorem dX7_kindOfType_18 : decode cX7_kindOfType 18 = .ok (.goto 4, 3) := by decide +kernel
theorem dX7_kindOfType_21 : decode cX7_kindOfType 21 = .ok (.iconst 1, 1) := by decide +kernel
theorem dX7_kindOfType_22 : decode cX7_kindOfType 22 = .ok (.if_icmp .ne 7, 3) := by decide +kernel
theorem dX7_kindOfType_25 : decode cX7_kindOfType 25 = .ok (.iload_n 2, 1) := by decide +kernel
theorem dX7_kindOfType_26 : decode cX7_kindOfType 26 = .ok (.goto 4, 3) := by decide +kernel
theorem dX7_kindOfType_29 : decode cX7_kindOfType 29 = .ok (.iconst 0, 1) := by decide +kernel
theorem dX7_kindOfType_30 : decode cX7_kindOfType 30 = .ok (.ireturn, 1) := by decide +kernel
theorem dX7_magicHolds_0 : decode cX7_magicHolds 0 = .ok (.iconst 0, 1) := by decide +kernel
theorem dX7_magicHolds_1 : decode cX7_magicHolds 1 = .ok (.istore_n 1, 1) := by decide +kernel
theorem dX7_magicHolds_2 : decode cX7_magicHolds 2 = .ok (.iload_n 1, 1) := by decide +kernel
theorem dX7_magicHolds_3 : decode cX7_magicHolds 3 = .ok (.getstatic 97, 3) := by decide +kernel
theorem dX7_magicHolds_6 : decode cX7_magicHolds 6 = .ok (.arraylength, 1) := by decide +kernel
theorem dX7_magicHolds_7 : decode cX7_magicHolds 7 = .ok (.if_icmp .ge 47, 3) := by decide +kernel
theorem dX7_magicHolds_10 : decode cX7_magicHolds 10 = .ok (.iload_n 1, 1) := by decide +kernel
theorem dX7_magicHolds_11 : decode cX7_magicHolds 11 = .ok (.aload_n 0, 1) := by decide +kernel
theorem dX7_magicHolds_12 : decode cX7_magicHolds 12 = .ok (.getfield 38, 3) := by decide +kernel
theorem dX7_magicHolds_15 : decode cX7_magicHolds 15 = .ok (.if_icmp .lt 13, 3) := by decide +kernel
theorem dX7_magicHolds_18 : decode cX7_magicHolds 18 = .ok (.aload_n 0, 1) := by decide +kernel
theorem dX7_magicHolds_19 : decode cX7_magicHolds 19 = .ok (.iconst 2, 1) := by decide +kernel
theorem dX7_magicHolds_20 : decode cX7_magicHolds 20 = .ok (.aload_n 0, 1) := by decide +kernel
theorem dX7_magicHolds_21 : decode cX7_magicHolds 21 = .ok (.getfield 38, 3) := by decide +kernel
theorem dX7_magicHolds_24 : decode cX7_magicHolds 24 = .ok (.invokevirtual 87, 3) := by decide +kernel
theorem dX7_magicHolds_27 : decode cX7_magicHolds 27 = .ok (.ireturn, 1) := by decide +kernel
theorem dX7_magicHolds_28 : decode cX7_magicHolds 28 = .ok (.aload_n 0, 1) := by decide +kernel
theorem dX7_magicHolds_29 : decode cX7_magicHolds 29 = .ok (.iload_n 1, 1) := by decide +kernel
theorem dX7_magicHolds_30 : decode cX7_magicHolds 30 = .ok (.invokevirtual 100, 3) := by decide +kernel
theorem dX7_magicHolds_33 : decode cX7_magicHolds 33 = .ok (.getstatic 97, 3) := by decide +kernel
theorem dX7_magicHolds_36 : decode cX7_magicHolds 36 = .ok (.iload_n 1, 1) := by decide +kernel
theorem dX7_magicHolds_37 : decode cX7_magicHolds 37 = .ok (.iaload, 1) := by decide +kernel
theorem dX7_magicHolds_38 : decode cX7_magicHolds 38 = .ok (.if_icmp .eq 10, 3) := by decide +kernel
theorem dX7_magicHolds_41 : decode cX7_magicHolds 41 = .ok (.aload_n 0, 1) := by decide +kernel
theorem dX7_magicHolds_42 : decode cX7_magicHolds 42 = .ok (.iconst 1, 1) := by decide +kernel
theorem dX7_magicHolds_43 : decode cX7_magicHolds 43 = .ok (.iload_n 1, 1) := by decide +kernel
theorem dX7_magicHolds_44 : decode cX7_magicHolds 44 = .ok (.invokevirtual 87, 3) := by decide +kernel
theorem dX7_magicHolds_47 : decode cX7_magicHolds 47 = .ok (.ireturn, 1) := by decide +kernel
theorem dX7_magicHolds_48 : decode cX7_magicHolds 48 = .ok (.iinc 1 1, 3) := by decide +kernel
theorem dX7_magicHolds_51 : decode cX7_magicHolds 51 = .ok (.goto (-49), 3) := by decide +kernel
theorem dX7_magicHolds_54 : decode cX7_magicHolds 54 = .ok (.aload_n 0, 1) := by decide +kernel
theorem dX7_magicHolds_55 : decode cX7_magicHolds 55 = .ok (.getstatic 97, 3) := by decide +kernel
theorem dX7_magicHolds_58 : decode cX7_magicHolds 58 = .ok (.arraylength, 1) := by decide +kernel
theorem dX7_magicHolds_59 : decode cX7_magicHolds 59 = .ok (.putfield 44, 3) := by decide +kernel
theorem dX7_magicHolds_62 : decode cX7_magicHolds 62 = .ok (.iconst 1, 1) := by decide +kernel
theorem dX7_magicHolds_63 : decode cX7_magicHolds 63 = .ok (.ireturn, 1) := by decide +kernel
theorem dX7_memberPlace_0 : decode cX7_memberPlace 0 = .ok (.iload_n 1, 1) := by decide +kernel
theorem dX7_memberPlace_1 : decode cX7_memberPlace 1 = .ok (.ifCond .lt 12, 3) := by decide +kernel
theorem dX7_memberPlace_4 : decode cX7_memberPlace 4 = .ok (.iload_n 1, 1) := by decide +kernel
theorem dX7_memberPlace_5 : decode cX7_memberPlace 5 = .ok (.aload_n 0, 1) := by decide +kernel
theorem dX7_memberPlace_6 : decode cX7_memberPlace 6 = .ok (.getfield 23, 3) := by decide +kernel
theorem dX7_memberPlace_9 : decode cX7_memberPlace 9 = .ok (.arraylength, 1) := by decide +kernel
theorem dX7_memberPlace_10 : decode cX7_memberPlace 10 = .ok (.if_icmp .lt 7, 3) := by decide +kernel
theorem dX7_memberPlace_13 : decode cX7_memberPlace 13 = .ok (.iconst 0, 1) := by decide +kernel
theorem dX7_memberPlace_14 : decode cX7_memberPlace 14 = .ok (.goto 9, 3) := by decide +kernel
theorem dX7_memberPlace_17 : decode cX7_memberPlace 17 = .ok (.aload_n 0, 1) := by decide +kernel
theorem dX7_memberPlace_18 : decode cX7_memberPlace 18 = .ok (.getfield 23, 3) := by decide +kernel
theorem dX7_memberPlace_21 : decode cX7_memberPlace 21 = .ok (.iload_n 1, 1) := by decide +kernel
theorem dX7_memberPlace_22 : decode cX7_memberPlace 22 = .ok (.iaload, 1) := by decide +kernel
theorem dX7_memberPlace_23 : decode cX7_memberPlace 23 = .ok (.ireturn, 1) := by decide +kernel
theorem dX7_membersFit_0 : decode cX7_membersFit 0 = .ok (.aload_n 0, 1) := by decide +kernel
theorem dX7_membersFit_1 : decode cX7_membersFit 1 = .ok (.iconst 2, 1) := by decide +kernel
theorem dX7_membersFit_2 : decode cX7_membersFit 2 = .ok (.invokevirtual 103, 3) := by decide +kernel
theorem dX7_membersFit_5 : decode cX7_membersFit 5 = .ok (.ifCond .ne 5, 3) := by decide +kernel
theorem dX7_membersFit_8 : decode cX7_membersFit 8 = .ok (.iconst (-1), 1) := by decide +kernel
theorem dX7_membersFit_9 : decode cX7_membersFit 9 = .ok (.ireturn, 1) := by decide +kernel
theorem dX7_membersFit_10 : decode cX7_membersFit 10 = .ok (.aload_n 0, 1) := by decide +kernel
theorem dX7_membersFit_11 : decode cX7_membersFit 11 = .ok (.aload_n 0, 1) := by decide +kernel
theorem dX7_membersFit_12 : decode cX7_membersFit 12 = .ok (.getfield 44, 3) := by decide +kernel
theorem dX7_membersFit_15 : decode cX7_membersFit 15 = .ok (.invokevirtual 107, 3) := by decide +kernel
theorem dX7_membersFit_18 : decode cX7_membersFit 18 = .ok (.istore_n 2, 1) := by decide +kernel
theorem dX7_membersFit_19 : decode cX7_membersFit 19 = .ok (.iload_n 2, 1) := by decide +kernel
theorem dX7_membersFit_20 : decode cX7_membersFit 20 = .ok (.bipush 24, 2) := by decide +kernel
theorem dX7_membersFit_22 : decode cX7_membersFit 22 = .ok (.if_icmp .le 15, 3) := by decide +kernel
theorem dX7_membersFit_25 : decode cX7_membersFit 25 = .ok (.aload_n 0, 1) := by decide +kernel
theorem dX7_membersFit_26 : decode cX7_membersFit 26 = .ok (.iconst 5, 1) := by decide +kernel
theorem dX7_membersFit_27 : decode cX7_membersFit 27 = .ok (.aload_n 0, 1) := by decide +kernel
theorem dX7_membersFit_28 : decode cX7_membersFit 28 = .ok (.getfield 44, 3) := by decide +kernel
theorem dX7_membersFit_31 : decode cX7_membersFit 31 = .ok (.invokevirtual 87, 3) := by decide +kernel
theorem dX7_membersFit_34 : decode cX7_membersFit 34 = .ok (.pop, 1) := by decide +kernel
theorem dX7_membersFit_35 : decode cX7_membersFit 35 = .ok (.iconst (-1), 1) := by decide +kernel
theorem dX7_membersFit_36 : decode cX7_membersFit 36 = .ok (.ireturn, 1) := by decide +kernel
theorem dX7_membersFit_37 : decode cX7_membersFit 37 = .ok (.aload_n 0, 1) := by decide +kernel
theorem dX7_membersFit_38 : decode cX7_membersFit 38 = .ok (.dup, 1) := by decide +kernel
theorem dX7_membersFit_39 : decode cX7_membersFit 39 = .ok (.getfield 44, 3) := by decide +kernel
theorem dX7_membersFit_42 : decode cX7_membersFit 42 = .ok (.iconst 2, 1) := by decide +kernel
theorem dX7_membersFit_43 : decode cX7_membersFit 43 = .ok (.iadd, 1) := by decide +kernel
theorem dX7_membersFit_44 : decode cX7_membersFit 44 = .ok (.putfield 44, 3) := by decide +kernel
theorem dX7_membersFit_47 : decode cX7_membersFit 47 = .ok (.iload_n 1, 1) := by decide +kernel
theorem dX7_membersFit_48 : decode cX7_membersFit 48 = .ok (.istore_n 3, 1) := by decide +kernel
theorem dX7_membersFit_49 : decode cX7_membersFit 49 = .ok (.iload_n 3, 1) := by decide +kernel
theorem dX7_membersFit_50 : decode cX7_membersFit 50 = .ok (.iload_n 1, 1) := by decide +kernel
theorem dX7_membersFit_51 : decode cX7_membersFit 51 = .ok (.iload_n 2, 1) := by decide +kernel
theorem dX7_membersFit_52 : decode cX7_membersFit 52 = .ok (.iadd, 1) := by decide +kernel
theorem dX7_membersFit_53 : decode cX7_membersFit 53 = .ok (.if_icmp .ge 59, 3) := by decide +kernel
theorem dX7_membersFit_56 : decode cX7_membersFit 56 = .ok (.iload_n 3, 1) := by decide +kernel
theorem dX7_membersFit_57 : decode cX7_membersFit 57 = .ok (.aload_n 0, 1) := by decide +kernel
theorem dX7_membersFit_58 : decode cX7_membersFit 58 = .ok (.getfield 23, 3) := by decide +kernel
theorem dX7_membersFit_61 : decode cX7_membersFit 61 = .ok (.arraylength, 1) := by decide +kernel
theorem dX7_membersFit_62 : decode cX7_membersFit 62 = .ok (.if_icmp .ge 50, 3) := by decide +kernel
theorem dX7_membersFit_65 : decode cX7_membersFit 65 = .ok (.aload_n 0, 1) := by decide +kernel
theorem dX7_membersFit_66 : decode cX7_membersFit 66 = .ok (.getfield 23, 3) := by decide +kernel
theorem dX7_membersFit_69 : decode cX7_membersFit 69 = .ok (.iload_n 3, 1) := by decide +kernel
theorem dX7_membersFit_70 : decode cX7_membersFit 70 = .ok (.aload_n 0, 1) := by decide +kernel
theorem dX7_membersFit_71 : decode cX7_membersFit 71 = .ok (.getfield 44, 3) := by decide +kernel
theorem dX7_membersFit_74 : decode cX7_membersFit 74 = .ok (.iastore, 1) := by decide +kernel
theorem dX7_membersFit_75 : decode cX7_membersFit 75 = .ok (.aload_n 0, 1) := by decide +kernel
theorem dX7_membersFit_76 : decode cX7_membersFit 76 = .ok (.bipush 6, 2) := by decide +kernel
theorem dX7_membersFit_78 : decode cX7_membersFit 78 = .ok (.invokevirtual 103, 3) := by decide +kernel
theorem dX7_membersFit_81 : decode cX7_membersFit 81 = .ok (.ifCond .ne 5, 3) := by decide +kernel
theorem dX7_membersFit_84 : decode cX7_membersFit 84 = .ok (.iconst (-1), 1) := by decide +kernel
theorem dX7_membersFit_85 : decode cX7_membersFit 85 = .ok (.ireturn, 1) := by decide +kernel
theorem dX7_membersFit_86 : decode cX7_membersFit 86 = .ok (.aload_n 0, 1) := by decide +kernel
theorem dX7_membersFit_87 : decode cX7_membersFit 87 = .ok (.dup, 1) := by decide +kernel
theorem dX7_membersFit_88 : decode cX7_membersFit 88 = .ok (.getfield 44, 3) := by decide +kernel
theorem dX7_membersFit_91 : decode cX7_membersFit 91 = .ok (.bipush 6, 2) := by decide +kernel
theorem dX7_membersFit_93 : decode cX7_membersFit 93 = .ok (.iadd, 1) := by decide +kernel
theorem dX7_membersFit_94 : decode cX7_membersFit 94 = .ok (.putfield 44, 3) := by decide +kernel
theorem dX7_membersFit_97 : decode cX7_membersFit 97 = .ok (.aload_n 0, 1) := by decide +kernel
theorem dX7_membersFit_98 : decode cX7_membersFit 98 = .ok (.invokevirtual 140, 3) := by decide +kernel
theorem dX7_membersFit_101 : decode cX7_membersFit 101 = .ok (.ifCond .ne 5, 3) := by decide +kernel
theorem dX7_membersFit_104 : decode cX7_membersFit 104 = .ok (.iconst (-1), 1) := by decide +kernel
theorem dX7_membersFit_105 : decode cX7_membersFit 105 = .ok (.ireturn, 1) := by decide +kernel
theorem dX7_membersFit_106 : decode cX7_membersFit 106 = .ok (.iinc 3 1, 3) := by decide +kernel
theorem dX7_membersFit_109 : decode cX7_membersFit 109 = .ok (.goto (-60), 3) := by decide +kernel
theorem dX7_membersFit_112 : decode cX7_membersFit 112 = .ok (.iload_n 2, 1) := by decide +kernel
theorem dX7_membersFit_113 : decode cX7_membersFit 113 = .ok (.ireturn, 1) := by decide +kernel
theorem dX7_methodsFit_0 : decode cX7_methodsFit 0 = .ok (.aload_n 0, 1) := by decide +kernel
theorem dX7_methodsFit_1 : decode cX7_methodsFit 1 = .ok (.aload_n 0, 1) := by decide +kernel
theorem dX7_methodsFit_2 : decode cX7_methodsFit 2 = .ok (.aload_n 0, 1) := by decide +kernel
theorem dX7_methodsFit_3 : decode cX7_methodsFit 3 = .ok (.getfield 134, 3) := by decide +kernel
theorem dX7_methodsFit_6 : decode cX7_methodsFit 6 = .ok (.invokevirtual 137, 3) := by decide +kernel
theorem dX7_methodsFit_9 : decode cX7_methodsFit 9 = .ok (.putfield 131, 3) := by decide +kernel
theorem dX7_methodsFit_12 : decode cX7_methodsFit 12 = .ok (.aload_n 0, 1) := by decide +kernel
theorem dX7_methodsFit_13 : decode cX7_methodsFit 13 = .ok (.getfield 131, 3) := by decide +kernel
theorem dX7_methodsFit_16 : decode cX7_methodsFit 16 = .ok (.ifCond .lt 7, 3) := by decide +kernel
theorem dX7_methodsFit_19 : decode cX7_methodsFit 19 = .ok (.iconst 1, 1) := by decide +kernel
theorem dX7_methodsFit_20 : decode cX7_methodsFit 20 = .ok (.goto 4, 3) := by decide +kernel
theorem dX7_methodsFit_23 : decode cX7_methodsFit 23 = .ok (.iconst 0, 1) := by decide +kernel
theorem dX7_methodsFit_24 : decode cX7_methodsFit 24 = .ok (.ireturn, 1) := by decide +kernel
theorem dX7_nameFits_0 : decode cX7_nameFits 0 = .ok (.aload_n 0, 1) := by decide +kernel
theorem dX7_nameFits_1 : decode cX7_nameFits 1 = .ok (.iconst 3, 1) := by decide +kernel
theorem dX7_nameFits_2 : decode cX7_nameFits 2 = .ok (.invokevirtual 103, 3) := by decide +kernel
theorem dX7_nameFits_5 : decode cX7_nameFits 5 = .ok (.ifCond .ne 5, 3) := by decide +kernel
theorem dX7_nameFits_8 : decode cX7_nameFits 8 = .ok (.iconst 0, 1) := by decide +kernel
theorem dX7_nameFits_9 : decode cX7_nameFits 9 = .ok (.ireturn, 1) := by decide +kernel
theorem dX7_nameFits_10 : decode cX7_nameFits 10 = .ok (.aload_n 0, 1) := by decide +kernel
theorem dX7_nameFits_11 : decode cX7_nameFits 11 = .ok (.aload_n 0, 1) := by decide +kernel
theorem dX7_nameFits_12 : decode cX7_nameFits 12 = .ok (.getfield 44, 3) := by decide +kernel
theorem dX7_nameFits_15 : decode cX7_nameFits 15 = .ok (.iconst 1, 1) := by decide +kernel

theorem dX2_longAt_15 : decode cX2_longAt 15 = .ok (.iload_n 1, 1) := by decide +kernel
theorem dX2_longAt_16 : decode cX2_longAt 16 = .ok (.iconst 4, 1) := by decide +kernel
theorem dX2_longAt_17 : decode cX2_longAt 17 = .ok (.iadd, 1) := by decide +kernel
theorem dX2_longAt_18 : decode cX2_longAt 18 = .ok (.invokevirtual 93, 3) := by decide +kernel
theorem dX2_longAt_21 : decode cX2_longAt 21 = .ok (.lor, 1) := by decide +kernel
theorem dX2_longAt_22 : decode cX2_longAt 22 = .ok (.lreturn, 1) := by decide +kernel
theorem dX2_lookAt_0 : decode cX2_lookAt 0 = .ok (.iload_n 1, 1) := by decide +kernel
theorem dX2_lookAt_1 : decode cX2_lookAt 1 = .ok (.ifCond .lt 9, 3) := by decide +kernel
theorem dX2_lookAt_4 : decode cX2_lookAt 4 = .ok (.iload_n 1, 1) := by decide +kernel
theorem dX2_lookAt_5 : decode cX2_lookAt 5 = .ok (.bipush 24, 2) := by decide +kernel
theorem dX2_lookAt_7 : decode cX2_lookAt 7 = .ok (.if_icmp .lt 7, 3) := by decide +kernel
theorem dX2_lookAt_10 : decode cX2_lookAt 10 = .ok (.iconst 0, 1) := by decide +kernel
theorem dX2_lookAt_11 : decode cX2_lookAt 11 = .ok (.goto 12, 3) := by decide +kernel
theorem dX2_lookAt_14 : decode cX2_lookAt 14 = .ok (.aload_n 0, 1) := by decide +kernel
theorem dX2_lookAt_15 : decode cX2_lookAt 15 = .ok (.getfield 12, 3) := by decide +kernel
theorem dX2_lookAt_18 : decode cX2_lookAt 18 = .ok (.getfield 73, 3) := by decide +kernel
theorem dX2_lookAt_21 : decode cX2_lookAt 21 = .ok (.iload_n 1, 1) := by decide +kernel
theorem dX2_lookAt_22 : decode cX2_lookAt 22 = .ok (.iaload, 1) := by decide +kernel
theorem dX2_lookAt_23 : decode cX2_lookAt 23 = .ok (.istore_n 2, 1) := by decide +kernel
theorem dX2_lookAt_24 : decode cX2_lookAt 24 = .ok (.aload_n 0, 1) := by decide +kernel
theorem dX2_lookAt_25 : decode cX2_lookAt 25 = .ok (.aload_n 0, 1) := by decide +kernel
theorem dX2_lookAt_26 : decode cX2_lookAt 26 = .ok (.getfield 12, 3) := by decide +kernel
theorem dX2_lookAt_29 : decode cX2_lookAt 29 = .ok (.iload_n 2, 1) := by decide +kernel
theorem dX2_lookAt_30 : decode cX2_lookAt 30 = .ok (.invokevirtual 90, 3) := by decide +kernel
theorem dX2_lookAt_33 : decode cX2_lookAt 33 = .ok (.putfield 105, 3) := by decide +kernel
theorem dX2_lookAt_36 : decode cX2_lookAt 36 = .ok (.aload_n 0, 1) := by decide +kernel
theorem dX2_lookAt_37 : decode cX2_lookAt 37 = .ok (.aload_n 0, 1) := by decide +kernel
theorem dX2_lookAt_38 : decode cX2_lookAt 38 = .ok (.getfield 12, 3) := by decide +kernel
theorem dX2_lookAt_41 : decode cX2_lookAt 41 = .ok (.iload_n 2, 1) := by decide +kernel
theorem dX2_lookAt_42 : decode cX2_lookAt 42 = .ok (.iconst 2, 1) := by decide +kernel
theorem dX2_lookAt_43 : decode cX2_lookAt 43 = .ok (.iadd, 1) := by decide +kernel
theorem dX2_lookAt_44 : decode cX2_lookAt 44 = .ok (.invokevirtual 90, 3) := by decide +kernel
theorem dX2_lookAt_47 : decode cX2_lookAt 47 = .ok (.putfield 108, 3) := by decide +kernel
theorem dX2_lookAt_50 : decode cX2_lookAt 50 = .ok (.aload_n 0, 1) := by decide +kernel
theorem dX2_lookAt_51 : decode cX2_lookAt 51 = .ok (.aload_n 0, 1) := by decide +kernel
theorem dX2_lookAt_52 : decode cX2_lookAt 52 = .ok (.getfield 12, 3) := by decide +kernel
theorem dX2_lookAt_55 : decode cX2_lookAt 55 = .ok (.iload_n 2, 1) := by decide +kernel
theorem dX2_lookAt_56 : decode cX2_lookAt 56 = .ok (.iconst 4, 1) := by decide +kernel
theorem dX2_lookAt_57 : decode cX2_lookAt 57 = .ok (.iadd, 1) := by decide +kernel
theorem dX2_lookAt_58 : decode cX2_lookAt 58 = .ok (.invokevirtual 102, 3) := by decide +kernel
theorem dX2_lookAt_61 : decode cX2_lookAt 61 = .ok (.sipush 1200, 3) := by decide +kernel
theorem dX2_lookAt_64 : decode cX2_lookAt 64 = .ok (.invokestatic 111, 3) := by decide +kernel
theorem dX2_lookAt_67 : decode cX2_lookAt 67 = .ok (.putfield 117, 3) := by decide +kernel
theorem dX2_lookAt_70 : decode cX2_lookAt 70 = .ok (.aload_n 0, 1) := by decide +kernel
theorem dX2_lookAt_71 : decode cX2_lookAt 71 = .ok (.iload_n 2, 1) := by decide +kernel
theorem dX2_lookAt_72 : decode cX2_lookAt 72 = .ok (.bipush 8, 2) := by decide +kernel
theorem dX2_lookAt_74 : decode cX2_lookAt 74 = .ok (.iadd, 1) := by decide +kernel
theorem dX2_lookAt_75 : decode cX2_lookAt 75 = .ok (.putfield 120, 3) := by decide +kernel
theorem dX2_lookAt_78 : decode cX2_lookAt 78 = .ok (.aload_n 0, 1) := by decide +kernel
theorem dX2_lookAt_79 : decode cX2_lookAt 79 = .ok (.aload_n 0, 1) := by decide +kernel
theorem dX2_lookAt_80 : decode cX2_lookAt 80 = .ok (.getfield 120, 3) := by decide +kernel
theorem dX2_lookAt_83 : decode cX2_lookAt 83 = .ok (.aload_n 0, 1) := by decide +kernel
theorem dX2_lookAt_84 : decode cX2_lookAt 84 = .ok (.getfield 117, 3) := by decide +kernel
theorem dX2_lookAt_87 : decode cX2_lookAt 87 = .ok (.iadd, 1) := by decide +kernel
theorem dX2_lookAt_88 : decode cX2_lookAt 88 = .ok (.iconst 2, 1) := by decide +kernel
theorem dX2_lookAt_89 : decode cX2_lookAt 89 = .ok (.iadd, 1) := by decide +kernel
theorem dX2_lookAt_90 : decode cX2_lookAt 90 = .ok (.putfield 123, 3) := by decide +kernel
theorem dX2_lookAt_93 : decode cX2_lookAt 93 = .ok (.aload_n 0, 1) := by decide +kernel
theorem dX2_lookAt_94 : decode cX2_lookAt 94 = .ok (.aload_n 0, 1) := by decide +kernel
theorem dX2_lookAt_95 : decode cX2_lookAt 95 = .ok (.getfield 12, 3) := by decide +kernel
theorem dX2_lookAt_98 : decode cX2_lookAt 98 = .ok (.aload_n 0, 1) := by decide +kernel
theorem dX2_lookAt_99 : decode cX2_lookAt 99 = .ok (.getfield 120, 3) := by decide +kernel
theorem dX2_lookAt_102 : decode cX2_lookAt 102 = .ok (.aload_n 0, 1) := by decide +kernel
theorem dX2_lookAt_103 : decode cX2_lookAt 103 = .ok (.getfield 117, 3) := by decide +kernel
theorem dX2_lookAt_106 : decode cX2_lookAt 106 = .ok (.iadd, 1) := by decide +kernel
theorem dX2_lookAt_107 : decode cX2_lookAt 107 = .ok (.invokevirtual 90, 3) := by decide +kernel
theorem dX2_lookAt_110 : decode cX2_lookAt 110 = .ok (.putfield 126, 3) := by decide +kernel
theorem dX2_lookAt_113 : decode cX2_lookAt 113 = .ok (.return_, 1) := by decide +kernel
theorem dX2_lookupLength_0 : decode cX2_lookupLength 0 = .ok (.iload_n 1, 1) := by decide +kernel
theorem dX2_lookupLength_1 : decode cX2_lookupLength 1 = .ok (.invokestatic 160, 3) := by decide +kernel
theorem dX2_lookupLength_4 : decode cX2_lookupLength 4 = .ok (.istore_n 2, 1) := by decide +kernel
theorem dX2_lookupLength_5 : decode cX2_lookupLength 5 = .ok (.aload_n 0, 1) := by decide +kernel
theorem dX2_lookupLength_6 : decode cX2_lookupLength 6 = .ok (.iload_n 2, 1) := by decide +kernel
theorem dX2_lookupLength_7 : decode cX2_lookupLength 7 = .ok (.iconst 4, 1) := by decide +kernel
theorem dX2_lookupLength_8 : decode cX2_lookupLength 8 = .ok (.iadd, 1) := by decide +kernel
theorem dX2_lookupLength_9 : decode cX2_lookupLength 9 = .ok (.invokevirtual 163, 3) := by decide +kernel
theorem dX2_lookupLength_12 : decode cX2_lookupLength 12 = .ok (.istore_n 3, 1) := by decide +kernel
theorem dX2_lookupLength_13 : decode cX2_lookupLength 13 = .ok (.iload_n 2, 1) := by decide +kernel
theorem dX2_lookupLength_14 : decode cX2_lookupLength 14 = .ok (.bipush 8, 2) := by decide +kernel
theorem dX2_lookupLength_16 : decode cX2_lookupLength 16 = .ok (.iadd, 1) := by decide +kernel
theorem dX2_lookupLength_17 : decode cX2_lookupLength 17 = .ok (.aload_n 0, 1) := by decide +kernel
theorem dX2_lookupLength_18 : decode cX2_lookupLength 18 = .ok (.getfield 117, 3) := by decide +kernel
theorem dX2_lookupLength_21 : decode cX2_lookupLength 21 = .ok (.if_icmp .gt 30, 3) := by decide +kernel
theorem dX2_lookupLength_24 : decode cX2_lookupLength 24 = .ok (.iload_n 3, 1) := by decide +kernel
theorem dX2_lookupLength_25 : decode cX2_lookupLength 25 = .ok (.ifCond .lt 26, 3) := by decide +kernel
theorem dX2_lookupLength_28 : decode cX2_lookupLength 28 = .ok (.iload_n 3, 1) := by decide +kernel
theorem dX2_lookupLength_29 : decode cX2_lookupLength 29 = .ok (.sipush 200, 3) := by decide +kernel
theorem dX2_lookupLength_32 : decode cX2_lookupLength 32 = .ok (.if_icmp .gt 19, 3) := by decide +kernel
theorem dX2_lookupLength_35 : decode cX2_lookupLength 35 = .ok (.iload_n 2, 1) := by decide +kernel
theorem dX2_lookupLength_36 : decode cX2_lookupLength 36 = .ok (.bipush 8, 2) := by decide +kernel
theorem dX2_lookupLength_38 : decode cX2_lookupLength 38 = .ok (.iadd, 1) := by decide +kernel
theorem dX2_lookupLength_39 : decode cX2_lookupLength 39 = .ok (.bipush 8, 2) := by decide +kernel
theorem dX2_lookupLength_41 : decode cX2_lookupLength 41 = .ok (.iload_n 3, 1) := by decide +kernel
theorem dX2_lookupLength_42 : decode cX2_lookupLength 42 = .ok (.imul, 1) := by decide +kernel
theorem dX2_lookupLength_43 : decode cX2_lookupLength 43 = .ok (.iadd, 1) := by decide +kernel
theorem dX2_lookupLength_44 : decode cX2_lookupLength 44 = .ok (.aload_n 0, 1) := by decide +kernel
theorem dX2_lookupLength_45 : decode cX2_lookupLength 45 = .ok (.getfield 117, 3) := by decide +kernel
theorem dX2_lookupLength_48 : decode cX2_lookupLength 48 = .ok (.if_icmp .le 5, 3) := by decide +kernel
theorem dX2_lookupLength_51 : decode cX2_lookupLength 51 = .ok (.iconst 0, 1) := by decide +kernel
theorem dX2_lookupLength_52 : decode cX2_lookupLength 52 = .ok (.ireturn, 1) := by decide +kernel
theorem dX2_lookupLength_53 : decode cX2_lookupLength 53 = .ok (.iconst 1, 1) := by decide +kernel
theorem dX2_lookupLength_54 : decode cX2_lookupLength 54 = .ok (.istore 4, 2) := by decide +kernel
theorem dX2_lookupLength_56 : decode cX2_lookupLength 56 = .ok (.iload 4, 2) := by decide +kernel
theorem dX2_lookupLength_58 : decode cX2_lookupLength 58 = .ok (.iload_n 3, 1) := by decide +kernel
theorem dX2_lookupLength_59 : decode cX2_lookupLength 59 = .ok (.if_icmp .ge 39, 3) := by decide +kernel
theorem dX2_lookupLength_62 : decode cX2_lookupLength 62 = .ok (.aload_n 0, 1) := by decide +kernel
theorem dX2_lookupLength_63 : decode cX2_lookupLength 63 = .ok (.iload_n 2, 1) := by decide +kernel
theorem dX2_lookupLength_64 : decode cX2_lookupLength 64 = .ok (.bipush 8, 2) := by decide +kernel
theorem dX2_lookupLength_66 : decode cX2_lookupLength 66 = .ok (.iadd, 1) := by decide +kernel
theorem dX2_lookupLength_67 : decode cX2_lookupLength 67 = .ok (.bipush 8, 2) := by decide +kernel
theorem dX2_lookupLength_69 : decode cX2_lookupLength 69 = .ok (.iload 4, 2) := by decide +kernel
theorem dX2_lookupLength_71 : decode cX2_lookupLength 71 = .ok (.imul, 1) := by decide +kernel
theorem dX2_lookupLength_72 : decode cX2_lookupLength 72 = .ok (.iadd, 1) := by decide +kernel
theorem dX2_lookupLength_73 : decode cX2_lookupLength 73 = .ok (.invokevirtual 163, 3) := by decide +kernel
theorem dX2_lookupLength_76 : decode cX2_lookupLength 76 = .ok (.aload_n 0, 1) := by decide +kernel
theorem dX2_lookupLength_77 : decode cX2_lookupLength 77 = .ok (.iload_n 2, 1) := by decide +kernel
theorem dX2_lookupLength_78 : decode cX2_lookupLength 78 = .ok (.bipush 8, 2) := by decide +kernel
theorem dX2_lookupLength_80 : decode cX2_lookupLength 80 = .ok (.iload 4, 2) := by decide +kernel
theorem dX2_lookupLength_82 : decode cX2_lookupLength 82 = .ok (.imul, 1) := by decide +kernel
theorem dX2_lookupLength_83 : decode cX2_lookupLength 83 = .ok (.iadd, 1) := by decide +kernel
theorem dX2_lookupLength_84 : decode cX2_lookupLength 84 = .ok (.invokevirtual 163, 3) := by decide +kernel
theorem dX2_lookupLength_87 : decode cX2_lookupLength 87 = .ok (.if_icmp .gt 5, 3) := by decide +kernel
theorem dX2_lookupLength_90 : decode cX2_lookupLength 90 = .ok (.iconst 0, 1) := by decide +kernel
theorem dX2_lookupLength_91 : decode cX2_lookupLength 91 = .ok (.ireturn, 1) := by decide +kernel
theorem dX2_lookupLength_92 : decode cX2_lookupLength 92 = .ok (.iinc 4 1, 3) := by decide +kernel
theorem dX2_lookupLength_95 : decode cX2_lookupLength 95 = .ok (.goto (-39), 3) := by decide +kernel
theorem dX2_lookupLength_98 : decode cX2_lookupLength 98 = .ok (.iload_n 2, 1) := by decide +kernel
theorem dX2_lookupLength_99 : decode cX2_lookupLength 99 = .ok (.bipush 8, 2) := by decide +kernel
theorem dX2_lookupLength_101 : decode cX2_lookupLength 101 = .ok (.iadd, 1) := by decide +kernel
theorem dX2_lookupLength_102 : decode cX2_lookupLength 102 = .ok (.bipush 8, 2) := by decide +kernel
theorem dX2_lookupLength_104 : decode cX2_lookupLength 104 = .ok (.iload_n 3, 1) := by decide +kernel
theorem dX2_lookupLength_105 : decode cX2_lookupLength 105 = .ok (.imul, 1) := by decide +kernel
theorem dX2_lookupLength_106 : decode cX2_lookupLength 106 = .ok (.iadd, 1) := by decide +kernel
theorem dX2_lookupLength_107 : decode cX2_lookupLength 107 = .ok (.iload_n 1, 1) := by decide +kernel
theorem dX2_lookupLength_108 : decode cX2_lookupLength 108 = .ok (.isub, 1) := by decide +kernel
theorem dX2_lookupLength_109 : decode cX2_lookupLength 109 = .ok (.ireturn, 1) := by decide +kernel
theorem dX2_memberOf_0 : decode cX2_memberOf 0 = .ok (.aload_n 0, 1) := by decide +kernel
theorem dX2_memberOf_1 : decode cX2_memberOf 1 = .ok (.getfield 12, 3) := by decide +kernel
theorem dX2_memberOf_4 : decode cX2_memberOf 4 = .ok (.iload_n 1, 1) := by decide +kernel
theorem dX2_memberOf_5 : decode cX2_memberOf 5 = .ok (.invokevirtual 231, 3) := by decide +kernel
theorem dX2_memberOf_8 : decode cX2_memberOf 8 = .ok (.iload_n 2, 1) := by decide +kernel
theorem dX2_memberOf_9 : decode cX2_memberOf 9 = .ok (.if_icmp .eq 5, 3) := by decide +kernel
theorem dX2_memberOf_12 : decode cX2_memberOf 12 = .ok (.iconst (-1), 1) := by decide +kernel
theorem dX2_memberOf_13 : decode cX2_memberOf 13 = .ok (.ireturn, 1) := by decide +kernel
theorem dX2_memberOf_14 : decode cX2_memberOf 14 = .ok (.aload_n 0, 1) := by decide +kernel
theorem dX2_memberOf_15 : decode cX2_memberOf 15 = .ok (.getfield 12, 3) := by decide +kernel
theorem dX2_memberOf_18 : decode cX2_memberOf 18 = .ok (.aload_n 0, 1) := by decide +kernel
theorem dX2_memberOf_19 : decode cX2_memberOf 19 = .ok (.getfield 12, 3) := by decide +kernel
theorem dX2_memberOf_22 : decode cX2_memberOf 22 = .ok (.getfield 258, 3) := by decide +kernel
theorem dX2_memberOf_25 : decode cX2_memberOf 25 = .ok (.iconst 2, 1) := by decide +kernel

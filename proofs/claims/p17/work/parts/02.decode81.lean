theorem dX9_findReached_66 : decode cX9_findReached 66 = .ok (.baload, 1) := by decide +kernel
theorem dX9_findReached_67 : decode cX9_findReached 67 = .ok (.ifCond .eq 11, 3) := by decide +kernel
theorem dX9_findReached_70 : decode cX9_findReached 70 = .ok (.iload_n 1, 1) := by decide +kernel
theorem dX9_findReached_71 : decode cX9_findReached 71 = .ok (.aload_n 0, 1) := by decide +kernel
theorem dX9_findReached_72 : decode cX9_findReached 72 = .ok (.iload_n 3, 1) := by decide +kernel
theorem dX9_findReached_73 : decode cX9_findReached 73 = .ok (.invokevirtual 183, 3) := by decide +kernel
theorem dX9_findReached_76 : decode cX9_findReached 76 = .ok (.ior, 1) := by decide +kernel
theorem dX9_findReached_77 : decode cX9_findReached 77 = .ok (.istore_n 1, 1) := by decide +kernel
theorem dX9_findReached_78 : decode cX9_findReached 78 = .ok (.iinc 3 1, 3) := by decide +kernel
theorem dX9_findReached_81 : decode cX9_findReached 81 = .ok (.goto (-31), 3) := by decide +kernel
theorem dX9_findReached_84 : decode cX9_findReached 84 = .ok (.iinc 2 1, 3) := by decide +kernel
theorem dX9_findReached_87 : decode cX9_findReached 87 = .ok (.goto (-51), 3) := by decide +kernel
theorem dX9_findReached_90 : decode cX9_findReached 90 = .ok (.return_, 1) := by decide +kernel
theorem dX9_forgetApplied_0 : decode cX9_forgetApplied 0 = .ok (.aload_n 0, 1) := by decide +kernel
theorem dX9_forgetApplied_1 : decode cX9_forgetApplied 1 = .ok (.getfield 20, 3) := by decide +kernel
theorem dX9_forgetApplied_4 : decode cX9_forgetApplied 4 = .ok (.iconst 0, 1) := by decide +kernel
theorem dX9_forgetApplied_5 : decode cX9_forgetApplied 5 = .ok (.invokestatic 37, 3) := by decide +kernel
theorem dX9_forgetApplied_8 : decode cX9_forgetApplied 8 = .ok (.return_, 1) := by decide +kernel
theorem dX9_goThrough_0 : decode cX9_goThrough 0 = .ok (.iconst 0, 1) := by decide +kernel
theorem dX9_goThrough_1 : decode cX9_goThrough 1 = .ok (.istore_n 2, 1) := by decide +kernel
theorem dX9_goThrough_2 : decode cX9_goThrough 2 = .ok (.iconst 1, 1) := by decide +kernel
theorem dX9_goThrough_3 : decode cX9_goThrough 3 = .ok (.istore_n 3, 1) := by decide +kernel
theorem dX9_goThrough_4 : decode cX9_goThrough 4 = .ok (.iconst 0, 1) := by decide +kernel
theorem dX9_goThrough_5 : decode cX9_goThrough 5 = .ok (.istore 4, 2) := by decide +kernel
theorem dX9_goThrough_7 : decode cX9_goThrough 7 = .ok (.iconst 0, 1) := by decide +kernel
theorem dX9_goThrough_8 : decode cX9_goThrough 8 = .ok (.istore 5, 2) := by decide +kernel
theorem dX9_goThrough_10 : decode cX9_goThrough 10 = .ok (.iload 4, 2) := by decide +kernel
theorem dX9_goThrough_12 : decode cX9_goThrough 12 = .ok (.aload_n 0, 1) := by decide +kernel
theorem dX9_goThrough_13 : decode cX9_goThrough 13 = .ok (.getfield 14, 3) := by decide +kernel
theorem dX9_goThrough_16 : decode cX9_goThrough 16 = .ok (.getfield 54, 3) := by decide +kernel
theorem dX9_goThrough_19 : decode cX9_goThrough 19 = .ok (.if_icmp .ge 85, 3) := by decide +kernel
theorem dX9_goThrough_22 : decode cX9_goThrough 22 = .ok (.iload 5, 2) := by decide +kernel
theorem dX9_goThrough_24 : decode cX9_goThrough 24 = .ok (.ldc 135, 2) := by decide +kernel
theorem dX9_goThrough_26 : decode cX9_goThrough 26 = .ok (.if_icmp .ge 78, 3) := by decide +kernel
theorem dX9_goThrough_29 : decode cX9_goThrough 29 = .ok (.iload_n 3, 1) := by decide +kernel
theorem dX9_goThrough_30 : decode cX9_goThrough 30 = .ok (.ifCond .eq 19, 3) := by decide +kernel
theorem dX9_goThrough_33 : decode cX9_goThrough 33 = .ok (.iload_n 1, 1) := by decide +kernel
theorem dX9_goThrough_34 : decode cX9_goThrough 34 = .ok (.bipush 10, 2) := by decide +kernel
theorem dX9_goThrough_36 : decode cX9_goThrough 36 = .ok (.if_icmp .eq 9, 3) := by decide +kernel
theorem dX9_goThrough_39 : decode cX9_goThrough 39 = .ok (.iload_n 1, 1) := by decide +kernel
theorem dX9_goThrough_40 : decode cX9_goThrough 40 = .ok (.bipush 11, 2) := by decide +kernel
theorem dX9_goThrough_42 : decode cX9_goThrough 42 = .ok (.if_icmp .ne 7, 3) := by decide +kernel
theorem dX9_goThrough_45 : decode cX9_goThrough 45 = .ok (.aload_n 0, 1) := by decide +kernel
theorem dX9_goThrough_46 : decode cX9_goThrough 46 = .ok (.invokevirtual 136, 3) := by decide +kernel
theorem dX9_goThrough_49 : decode cX9_goThrough 49 = .ok (.iload_n 3, 1) := by decide +kernel
theorem dX9_goThrough_50 : decode cX9_goThrough 50 = .ok (.ifCond .eq 18, 3) := by decide +kernel
theorem dX9_goThrough_53 : decode cX9_goThrough 53 = .ok (.iload_n 1, 1) := by decide +kernel
theorem dX9_goThrough_54 : decode cX9_goThrough 54 = .ok (.iconst 5, 1) := by decide +kernel
theorem dX9_goThrough_55 : decode cX9_goThrough 55 = .ok (.if_icmp .lt 13, 3) := by decide +kernel
theorem dX9_goThrough_58 : decode cX9_goThrough 58 = .ok (.iload_n 1, 1) := by decide +kernel
theorem dX9_goThrough_59 : decode cX9_goThrough 59 = .ok (.bipush 10, 2) := by decide +kernel
theorem dX9_goThrough_61 : decode cX9_goThrough 61 = .ok (.if_icmp .gt 7, 3) := by decide +kernel
theorem dX9_goThrough_64 : decode cX9_goThrough 64 = .ok (.aload_n 0, 1) := by decide +kernel
theorem dX9_goThrough_65 : decode cX9_goThrough 65 = .ok (.invokevirtual 139, 3) := by decide +kernel
theorem dX9_goThrough_68 : decode cX9_goThrough 68 = .ok (.aload_n 0, 1) := by decide +kernel
theorem dX9_goThrough_69 : decode cX9_goThrough 69 = .ok (.iload_n 1, 1) := by decide +kernel
theorem dX9_goThrough_70 : decode cX9_goThrough 70 = .ok (.iload 4, 2) := by decide +kernel
theorem dX9_goThrough_72 : decode cX9_goThrough 72 = .ok (.invokevirtual 142, 3) := by decide +kernel
theorem dX9_goThrough_75 : decode cX9_goThrough 75 = .ok (.istore_n 3, 1) := by decide +kernel
theorem dX9_goThrough_76 : decode cX9_goThrough 76 = .ok (.iload_n 3, 1) := by decide +kernel
theorem dX9_goThrough_77 : decode cX9_goThrough 77 = .ok (.ifCond .eq 18, 3) := by decide +kernel
theorem dX9_goThrough_80 : decode cX9_goThrough 80 = .ok (.aload_n 0, 1) := by decide +kernel
theorem dX9_goThrough_81 : decode cX9_goThrough 81 = .ok (.getfield 20, 3) := by decide +kernel
theorem dX9_goThrough_84 : decode cX9_goThrough 84 = .ok (.iload_n 1, 1) := by decide +kernel
theorem dX9_goThrough_85 : decode cX9_goThrough 85 = .ok (.dup2, 1) := by decide +kernel
theorem dX9_goThrough_86 : decode cX9_goThrough 86 = .ok (.iaload, 1) := by decide +kernel
theorem dX9_goThrough_87 : decode cX9_goThrough 87 = .ok (.iconst 1, 1) := by decide +kernel
theorem dX9_goThrough_88 : decode cX9_goThrough 88 = .ok (.iadd, 1) := by decide +kernel
theorem dX9_goThrough_89 : decode cX9_goThrough 89 = .ok (.iastore, 1) := by decide +kernel
theorem dX9_goThrough_90 : decode cX9_goThrough 90 = .ok (.iconst 1, 1) := by decide +kernel
theorem dX9_goThrough_91 : decode cX9_goThrough 91 = .ok (.istore_n 2, 1) := by decide +kernel
theorem dX9_goThrough_92 : decode cX9_goThrough 92 = .ok (.goto 6, 3) := by decide +kernel
theorem dX9_goThrough_95 : decode cX9_goThrough 95 = .ok (.iinc 4 1, 3) := by decide +kernel
theorem dX9_goThrough_98 : decode cX9_goThrough 98 = .ok (.iinc 5 1, 3) := by decide +kernel
theorem dX9_goThrough_101 : decode cX9_goThrough 101 = .ok (.goto (-91), 3) := by decide +kernel
theorem dX9_goThrough_104 : decode cX9_goThrough 104 = .ok (.iload_n 2, 1) := by decide +kernel
theorem dX9_goThrough_105 : decode cX9_goThrough 105 = .ok (.ireturn, 1) := by decide +kernel
theorem dX9_init_0 : decode cX9_init 0 = .ok (.aload_n 0, 1) := by decide +kernel
theorem dX9_init_1 : decode cX9_init 1 = .ok (.invokespecial 3, 3) := by decide +kernel
theorem dX9_init_4 : decode cX9_init 4 = .ok (.aload_n 0, 1) := by decide +kernel
theorem dX9_init_5 : decode cX9_init 5 = .ok (.new 9, 3) := by decide +kernel
theorem dX9_init_8 : decode cX9_init 8 = .ok (.dup, 1) := by decide +kernel
theorem dX9_init_9 : decode cX9_init 9 = .ok (.iconst 0, 1) := by decide +kernel
theorem dX9_init_10 : decode cX9_init 10 = .ok (.iconst 0, 1) := by decide +kernel
theorem dX9_init_11 : decode cX9_init 11 = .ok (.iconst 0, 1) := by decide +kernel
theorem dX9_init_12 : decode cX9_init 12 = .ok (.invokespecial 11, 3) := by decide +kernel
theorem dX9_init_15 : decode cX9_init 15 = .ok (.putfield 14, 3) := by decide +kernel
theorem dX9_init_18 : decode cX9_init 18 = .ok (.aload_n 0, 1) := by decide +kernel
theorem dX9_init_19 : decode cX9_init 19 = .ok (.bipush 12, 2) := by decide +kernel
theorem dX9_init_21 : decode cX9_init 21 = .ok (.newarray .int, 2) := by decide +kernel
theorem dX9_init_23 : decode cX9_init 23 = .ok (.putfield 20, 3) := by decide +kernel
theorem dX9_init_26 : decode cX9_init 26 = .ok (.aload_n 0, 1) := by decide +kernel
theorem dX9_init_27 : decode cX9_init 27 = .ok (.iconst 0, 1) := by decide +kernel
theorem dX9_init_28 : decode cX9_init 28 = .ok (.newarray .boolean, 2) := by decide +kernel
theorem dX9_init_30 : decode cX9_init 30 = .ok (.putfield 24, 3) := by decide +kernel
theorem dX9_init_33 : decode cX9_init 33 = .ok (.aload_n 0, 1) := by decide +kernel
theorem dX9_init_34 : decode cX9_init 34 = .ok (.iconst 0, 1) := by decide +kernel
theorem dX9_init_35 : decode cX9_init 35 = .ok (.newarray .boolean, 2) := by decide +kernel
theorem dX9_init_37 : decode cX9_init 37 = .ok (.putfield 28, 3) := by decide +kernel
theorem dX9_init_40 : decode cX9_init 40 = .ok (.aload_n 0, 1) := by decide +kernel
theorem dX9_init_41 : decode cX9_init 41 = .ok (.iconst 0, 1) := by decide +kernel
theorem dX9_init_42 : decode cX9_init 42 = .ok (.newarray .int, 2) := by decide +kernel
theorem dX9_init_44 : decode cX9_init 44 = .ok (.putfield 31, 3) := by decide +kernel
theorem dX9_init_47 : decode cX9_init 47 = .ok (.aload_n 0, 1) := by decide +kernel
theorem dX9_init_48 : decode cX9_init 48 = .ok (.iconst 0, 1) := by decide +kernel
theorem dX9_init_49 : decode cX9_init 49 = .ok (.newarray .int, 2) := by decide +kernel
theorem dX9_init_51 : decode cX9_init 51 = .ok (.putfield 34, 3) := by decide +kernel
theorem dX9_init_54 : decode cX9_init 54 = .ok (.return_, 1) := by decide +kernel
theorem dX9_isDeadStoreDone_0 : decode cX9_isDeadStoreDone 0 = .ok (.aload_n 0, 1) := by decide +kernel
theorem dX9_isDeadStoreDone_1 : decode cX9_isDeadStoreDone 1 = .ok (.getfield 14, 3) := by decide +kernel
theorem dX9_isDeadStoreDone_4 : decode cX9_isDeadStoreDone 4 = .ok (.iload_n 1, 1) := by decide +kernel
theorem dX9_isDeadStoreDone_5 : decode cX9_isDeadStoreDone 5 = .ok (.invokevirtual 71, 3) := by decide +kernel
theorem dX9_isDeadStoreDone_8 : decode cX9_isDeadStoreDone 8 = .ok (.istore_n 2, 1) := by decide +kernel
theorem dX9_isDeadStoreDone_9 : decode cX9_isDeadStoreDone 9 = .ok (.iload_n 2, 1) := by decide +kernel
theorem dX9_isDeadStoreDone_10 : decode cX9_isDeadStoreDone 10 = .ok (.sipush 132, 3) := by decide +kernel
theorem dX9_isDeadStoreDone_13 : decode cX9_isDeadStoreDone 13 = .ok (.if_icmp .eq 10, 3) := by decide +kernel
theorem dX9_isDeadStoreDone_16 : decode cX9_isDeadStoreDone 16 = .ok (.iload_n 2, 1) := by decide +kernel
theorem dX9_isDeadStoreDone_17 : decode cX9_isDeadStoreDone 17 = .ok (.invokestatic 257, 3) := by decide +kernel
theorem dX9_isDeadStoreDone_20 : decode cX9_isDeadStoreDone 20 = .ok (.ifCond .eq 17, 3) := by decide +kernel
theorem dX9_isDeadStoreDone_23 : decode cX9_isDeadStoreDone 23 = .ok (.aload_n 0, 1) := by decide +kernel
theorem dX9_isDeadStoreDone_24 : decode cX9_isDeadStoreDone 24 = .ok (.iload_n 1, 1) := by decide +kernel
theorem dX9_isDeadStoreDone_25 : decode cX9_isDeadStoreDone 25 = .ok (.invokevirtual 251, 3) := by decide +kernel
theorem dX9_isDeadStoreDone_28 : decode cX9_isDeadStoreDone 28 = .ok (.aload_n 0, 1) := by decide +kernel
theorem dX9_isDeadStoreDone_29 : decode cX9_isDeadStoreDone 29 = .ok (.iload_n 1, 1) := by decide +kernel
theorem dX9_isDeadStoreDone_30 : decode cX9_isDeadStoreDone 30 = .ok (.invokevirtual 254, 3) := by decide +kernel
theorem dX9_isDeadStoreDone_33 : decode cX9_isDeadStoreDone 33 = .ok (.iand, 1) := by decide +kernel
theorem dX9_isDeadStoreDone_34 : decode cX9_isDeadStoreDone 34 = .ok (.ifCond .eq 5, 3) := by decide +kernel
theorem dX9_isDeadStoreDone_37 : decode cX9_isDeadStoreDone 37 = .ok (.iconst 0, 1) := by decide +kernel
theorem dX9_isDeadStoreDone_38 : decode cX9_isDeadStoreDone 38 = .ok (.ireturn, 1) := by decide +kernel
theorem dX9_isDeadStoreDone_39 : decode cX9_isDeadStoreDone 39 = .ok (.iload_n 2, 1) := by decide +kernel
theorem dX9_isDeadStoreDone_40 : decode cX9_isDeadStoreDone 40 = .ok (.sipush 132, 3) := by decide +kernel
theorem dX9_isDeadStoreDone_43 : decode cX9_isDeadStoreDone 43 = .ok (.if_icmp .ne 15, 3) := by decide +kernel
theorem dX9_isDeadStoreDone_46 : decode cX9_isDeadStoreDone 46 = .ok (.aload_n 0, 1) := by decide +kernel
theorem dX9_isDeadStoreDone_47 : decode cX9_isDeadStoreDone 47 = .ok (.getfield 14, 3) := by decide +kernel
theorem dX9_isDeadStoreDone_50 : decode cX9_isDeadStoreDone 50 = .ok (.iload_n 1, 1) := by decide +kernel
theorem dX9_isDeadStoreDone_51 : decode cX9_isDeadStoreDone 51 = .ok (.iconst 1, 1) := by decide +kernel
theorem dX9_isDeadStoreDone_52 : decode cX9_isDeadStoreDone 52 = .ok (.invokevirtual 176, 3) := by decide +kernel
theorem dX9_isDeadStoreDone_55 : decode cX9_isDeadStoreDone 55 = .ok (.goto 25, 3) := by decide +kernel
theorem dX9_isDeadStoreDone_58 : decode cX9_isDeadStoreDone 58 = .ok (.aload_n 0, 1) := by decide +kernel
theorem dX9_isDeadStoreDone_59 : decode cX9_isDeadStoreDone 59 = .ok (.getfield 14, 3) := by decide +kernel
theorem dX9_isDeadStoreDone_62 : decode cX9_isDeadStoreDone 62 = .ok (.iload_n 1, 1) := by decide +kernel
theorem dX9_isDeadStoreDone_63 : decode cX9_isDeadStoreDone 63 = .ok (.iload_n 2, 1) := by decide +kernel
theorem dX9_isDeadStoreDone_64 : decode cX9_isDeadStoreDone 64 = .ok (.bipush 55, 2) := by decide +kernel
theorem dX9_isDeadStoreDone_66 : decode cX9_isDeadStoreDone 66 = .ok (.if_icmp .ne 8, 3) := by decide +kernel
theorem dX9_isDeadStoreDone_69 : decode cX9_isDeadStoreDone 69 = .ok (.bipush 88, 2) := by decide +kernel
theorem dX9_isDeadStoreDone_71 : decode cX9_isDeadStoreDone 71 = .ok (.goto 5, 3) := by decide +kernel
theorem dX9_isDeadStoreDone_74 : decode cX9_isDeadStoreDone 74 = .ok (.bipush 87, 2) := by decide +kernel
theorem dX9_isDeadStoreDone_76 : decode cX9_isDeadStoreDone 76 = .ok (.lconst 0, 1) := by decide +kernel
theorem dX9_isDeadStoreDone_77 : decode cX9_isDeadStoreDone 77 = .ok (.invokevirtual 200, 3) := by decide +kernel
theorem dX9_isDeadStoreDone_80 : decode cX9_isDeadStoreDone 80 = .ok (.iconst 1, 1) := by decide +kernel

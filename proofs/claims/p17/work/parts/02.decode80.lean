theorem dX9_findMarked_47 : decode cX9_findMarked 47 = .ok (.istore_n 3, 1) := by decide +kernel
theorem dX9_findMarked_48 : decode cX9_findMarked 48 = .ok (.iload_n 3, 1) := by decide +kernel
theorem dX9_findMarked_49 : decode cX9_findMarked 49 = .ok (.iload_n 2, 1) := by decide +kernel
theorem dX9_findMarked_50 : decode cX9_findMarked 50 = .ok (.if_icmp .ge 22, 3) := by decide +kernel
theorem dX9_findMarked_53 : decode cX9_findMarked 53 = .ok (.aload_n 0, 1) := by decide +kernel
theorem dX9_findMarked_54 : decode cX9_findMarked 54 = .ok (.aload_n 0, 1) := by decide +kernel
theorem dX9_findMarked_55 : decode cX9_findMarked 55 = .ok (.getfield 14, 3) := by decide +kernel
theorem dX9_findMarked_58 : decode cX9_findMarked 58 = .ok (.iload_n 1, 1) := by decide +kernel
theorem dX9_findMarked_59 : decode cX9_findMarked 59 = .ok (.iload_n 3, 1) := by decide +kernel
theorem dX9_findMarked_60 : decode cX9_findMarked 60 = .ok (.invokevirtual 97, 3) := by decide +kernel
theorem dX9_findMarked_63 : decode cX9_findMarked 63 = .ok (.invokevirtual 197, 3) := by decide +kernel
theorem dX9_findMarked_66 : decode cX9_findMarked 66 = .ok (.iinc 3 1, 3) := by decide +kernel
theorem dX9_findMarked_69 : decode cX9_findMarked 69 = .ok (.goto (-21), 3) := by decide +kernel
theorem dX9_findMarked_72 : decode cX9_findMarked 72 = .ok (.iinc 1 1, 3) := by decide +kernel
theorem dX9_findMarked_75 : decode cX9_findMarked 75 = .ok (.goto (-49), 3) := by decide +kernel
theorem dX9_findMarked_78 : decode cX9_findMarked 78 = .ok (.iconst 0, 1) := by decide +kernel
theorem dX9_findMarked_79 : decode cX9_findMarked 79 = .ok (.istore_n 1, 1) := by decide +kernel
theorem dX9_findMarked_80 : decode cX9_findMarked 80 = .ok (.iload_n 1, 1) := by decide +kernel
theorem dX9_findMarked_81 : decode cX9_findMarked 81 = .ok (.aload_n 0, 1) := by decide +kernel
theorem dX9_findMarked_82 : decode cX9_findMarked 82 = .ok (.getfield 14, 3) := by decide +kernel
theorem dX9_findMarked_85 : decode cX9_findMarked 85 = .ok (.getfield 106, 3) := by decide +kernel
theorem dX9_findMarked_88 : decode cX9_findMarked 88 = .ok (.if_icmp .ge 48, 3) := by decide +kernel
theorem dX9_findMarked_91 : decode cX9_findMarked 91 = .ok (.aload_n 0, 1) := by decide +kernel
theorem dX9_findMarked_92 : decode cX9_findMarked 92 = .ok (.aload_n 0, 1) := by decide +kernel
theorem dX9_findMarked_93 : decode cX9_findMarked 93 = .ok (.getfield 14, 3) := by decide +kernel
theorem dX9_findMarked_96 : decode cX9_findMarked 96 = .ok (.getfield 109, 3) := by decide +kernel
theorem dX9_findMarked_99 : decode cX9_findMarked 99 = .ok (.iload_n 1, 1) := by decide +kernel
theorem dX9_findMarked_100 : decode cX9_findMarked 100 = .ok (.iaload, 1) := by decide +kernel
theorem dX9_findMarked_101 : decode cX9_findMarked 101 = .ok (.invokevirtual 197, 3) := by decide +kernel
theorem dX9_findMarked_104 : decode cX9_findMarked 104 = .ok (.aload_n 0, 1) := by decide +kernel
theorem dX9_findMarked_105 : decode cX9_findMarked 105 = .ok (.aload_n 0, 1) := by decide +kernel
theorem dX9_findMarked_106 : decode cX9_findMarked 106 = .ok (.getfield 14, 3) := by decide +kernel
theorem dX9_findMarked_109 : decode cX9_findMarked 109 = .ok (.getfield 112, 3) := by decide +kernel
theorem dX9_findMarked_112 : decode cX9_findMarked 112 = .ok (.iload_n 1, 1) := by decide +kernel
theorem dX9_findMarked_113 : decode cX9_findMarked 113 = .ok (.iaload, 1) := by decide +kernel
theorem dX9_findMarked_114 : decode cX9_findMarked 114 = .ok (.invokevirtual 197, 3) := by decide +kernel
theorem dX9_findMarked_117 : decode cX9_findMarked 117 = .ok (.aload_n 0, 1) := by decide +kernel
theorem dX9_findMarked_118 : decode cX9_findMarked 118 = .ok (.aload_n 0, 1) := by decide +kernel
theorem dX9_findMarked_119 : decode cX9_findMarked 119 = .ok (.getfield 14, 3) := by decide +kernel
theorem dX9_findMarked_122 : decode cX9_findMarked 122 = .ok (.getfield 115, 3) := by decide +kernel
theorem dX9_findMarked_125 : decode cX9_findMarked 125 = .ok (.iload_n 1, 1) := by decide +kernel
theorem dX9_findMarked_126 : decode cX9_findMarked 126 = .ok (.iaload, 1) := by decide +kernel
theorem dX9_findMarked_127 : decode cX9_findMarked 127 = .ok (.invokevirtual 197, 3) := by decide +kernel
theorem dX9_findMarked_130 : decode cX9_findMarked 130 = .ok (.iinc 1 1, 3) := by decide +kernel
theorem dX9_findMarked_133 : decode cX9_findMarked 133 = .ok (.goto (-53), 3) := by decide +kernel
theorem dX9_findMarked_136 : decode cX9_findMarked 136 = .ok (.return_, 1) := by decide +kernel
theorem dX9_findReached_0 : decode cX9_findReached 0 = .ok (.iconst 0, 1) := by decide +kernel
theorem dX9_findReached_1 : decode cX9_findReached 1 = .ok (.istore_n 1, 1) := by decide +kernel
theorem dX9_findReached_2 : decode cX9_findReached 2 = .ok (.iload_n 1, 1) := by decide +kernel
theorem dX9_findReached_3 : decode cX9_findReached 3 = .ok (.aload_n 0, 1) := by decide +kernel
theorem dX9_findReached_4 : decode cX9_findReached 4 = .ok (.getfield 28, 3) := by decide +kernel
theorem dX9_findReached_7 : decode cX9_findReached 7 = .ok (.arraylength, 1) := by decide +kernel
theorem dX9_findReached_8 : decode cX9_findReached 8 = .ok (.if_icmp .ge 24, 3) := by decide +kernel
theorem dX9_findReached_11 : decode cX9_findReached 11 = .ok (.aload_n 0, 1) := by decide +kernel
theorem dX9_findReached_12 : decode cX9_findReached 12 = .ok (.getfield 28, 3) := by decide +kernel
theorem dX9_findReached_15 : decode cX9_findReached 15 = .ok (.iload_n 1, 1) := by decide +kernel
theorem dX9_findReached_16 : decode cX9_findReached 16 = .ok (.iload_n 1, 1) := by decide +kernel
theorem dX9_findReached_17 : decode cX9_findReached 17 = .ok (.ifCond .ne 7, 3) := by decide +kernel
theorem dX9_findReached_20 : decode cX9_findReached 20 = .ok (.iconst 1, 1) := by decide +kernel
theorem dX9_findReached_21 : decode cX9_findReached 21 = .ok (.goto 4, 3) := by decide +kernel
theorem dX9_findReached_24 : decode cX9_findReached 24 = .ok (.iconst 0, 1) := by decide +kernel
theorem dX9_findReached_25 : decode cX9_findReached 25 = .ok (.bastore, 1) := by decide +kernel
theorem dX9_findReached_26 : decode cX9_findReached 26 = .ok (.iinc 1 1, 3) := by decide +kernel
theorem dX9_findReached_29 : decode cX9_findReached 29 = .ok (.goto (-27), 3) := by decide +kernel
theorem dX9_findReached_32 : decode cX9_findReached 32 = .ok (.iconst 1, 1) := by decide +kernel
theorem dX9_findReached_33 : decode cX9_findReached 33 = .ok (.istore_n 1, 1) := by decide +kernel
theorem dX9_findReached_34 : decode cX9_findReached 34 = .ok (.iconst 0, 1) := by decide +kernel
theorem dX9_findReached_35 : decode cX9_findReached 35 = .ok (.istore_n 2, 1) := by decide +kernel
theorem dX9_findReached_36 : decode cX9_findReached 36 = .ok (.iload_n 1, 1) := by decide +kernel
theorem dX9_findReached_37 : decode cX9_findReached 37 = .ok (.ifCond .eq 53, 3) := by decide +kernel
theorem dX9_findReached_40 : decode cX9_findReached 40 = .ok (.iload_n 2, 1) := by decide +kernel
theorem dX9_findReached_41 : decode cX9_findReached 41 = .ok (.ldc 135, 2) := by decide +kernel
theorem dX9_findReached_43 : decode cX9_findReached 43 = .ok (.if_icmp .ge 47, 3) := by decide +kernel
theorem dX9_findReached_46 : decode cX9_findReached 46 = .ok (.iconst 0, 1) := by decide +kernel
theorem dX9_findReached_47 : decode cX9_findReached 47 = .ok (.istore_n 1, 1) := by decide +kernel
theorem dX9_findReached_48 : decode cX9_findReached 48 = .ok (.iconst 0, 1) := by decide +kernel
theorem dX9_findReached_49 : decode cX9_findReached 49 = .ok (.istore_n 3, 1) := by decide +kernel
theorem dX9_findReached_50 : decode cX9_findReached 50 = .ok (.iload_n 3, 1) := by decide +kernel
theorem dX9_findReached_51 : decode cX9_findReached 51 = .ok (.aload_n 0, 1) := by decide +kernel
theorem dX9_findReached_52 : decode cX9_findReached 52 = .ok (.getfield 14, 3) := by decide +kernel
theorem dX9_findReached_55 : decode cX9_findReached 55 = .ok (.getfield 54, 3) := by decide +kernel
theorem dX9_findReached_58 : decode cX9_findReached 58 = .ok (.if_icmp .ge 26, 3) := by decide +kernel
theorem dX9_findReached_61 : decode cX9_findReached 61 = .ok (.aload_n 0, 1) := by decide +kernel
theorem dX9_findReached_62 : decode cX9_findReached 62 = .ok (.getfield 28, 3) := by decide +kernel
theorem dX9_findReached_65 : decode cX9_findReached 65 = .ok (.iload_n 3, 1) := by decide +kernel
theorem dX9_findReached_66 : decode cX9_findReached 66 = .ok (.baload, 1) := by decide +kernel
theorem dX9_findReached_67 : decode cX9_findReached 67 = .ok (.ifCond .eq 11, 3) := by decide +kernel
theorem dX9_findReached_70 : decode cX9_findReached 70 = .ok (.iload_n 1, 1) := by decide +kernel
theorem dX9_findReached_71 : decode cX9_findReached 71 = .ok (.aload_n 0, 1) := by decide +kernel
theorem dX9_findReached_72 : decode cX9_findReached 72 = .ok (.iload_n 3, 1) := by decide +kernel
theorem dX9_findReached_73 : decode cX9_findReached 73 = .ok (.invokevirtual 183, 3) := by decide +kernel
theorem dX9_findReached_76 : decode cX9_findReached 76 = .ok (.ior, 1) := by decide +kernel
theorem dX9_findReached_77 : decode cX9_findReached 77 = .ok (.istore_n 1, 1) := by decide +kernel
theorem dX9_findReached_78 : decode cX9_findReached 78 = .ok (.iinc 3 1, 3) := by decide +kernel
theorem dX9_findReached_81 : decode cX9_findReached 81 = .ok (.goto (-31), 3) := by decide +kernel
theorem dX9_findReached_84 : decode cX9_findReached 84 = .ok (.iinc 2 1, 3) := by decide +kernel
theorem dX9_findReached_87 : decode cX9_findReached 87 = .ok (.goto (-51), 3) := by decide +kernel
theorem dX9_findReached_90 : decode cX9_findReached 90 = .ok (.return_, 1) := by decide +kernel
theorem dX9_forgetApplied_0 : decode cX9_forgetApplied 0 = .ok (.aload_n 0, 1) := by decide +kernel
theorem dX9_forgetApplied_1 : decode cX9_forgetApplied 1 = .ok (.getfield 20, 3) := by decide +kernel
theorem dX9_forgetApplied_4 : decode cX9_forgetApplied 4 = .ok (.iconst 0, 1) := by decide +kernel
theorem dX9_forgetApplied_5 : decode cX9_forgetApplied 5 = .ok (.invokestatic 37, 3) := by decide +kernel
theorem dX9_forgetApplied_8 : decode cX9_forgetApplied 8 = .ok (.return_, 1) := by decide +kernel
theorem dX9_goThrough_0 : decode cX9_goThrough 0 = .ok (.iconst 0, 1) := by decide +kernel
theorem dX9_goThrough_1 : decode cX9_goThrough 1 = .ok (.istore_n 2, 1) := by decide +kernel
theorem dX9_goThrough_2 : decode cX9_goThrough 2 = .ok (.iconst 1, 1) := by decide +kernel
theorem dX9_goThrough_3 : decode cX9_goThrough 3 = .ok (.istore_n 3, 1) := by decide +kernel
theorem dX9_goThrough_4 : decode cX9_goThrough 4 = .ok (.iconst 0, 1) := by decide +kernel
theorem dX9_goThrough_5 : decode cX9_goThrough 5 = .ok (.istore 4, 2) := by decide +kernel
theorem dX9_goThrough_7 : decode cX9_goThrough 7 = .ok (.iconst 0, 1) := by decide +kernel
theorem dX9_goThrough_8 : decode cX9_goThrough 8 = .ok (.istore 5, 2) := by decide +kernel
theorem dX9_goThrough_10 : decode cX9_goThrough 10 = .ok (.iload 4, 2) := by decide +kernel
theorem dX9_goThrough_12 : decode cX9_goThrough 12 = .ok (.aload_n 0, 1) := by decide +kernel
theorem dX9_goThrough_13 : decode cX9_goThrough 13 = .ok (.getfield 14, 3) := by decide +kernel
theorem dX9_goThrough_16 : decode cX9_goThrough 16 = .ok (.getfield 54, 3) := by decide +kernel
theorem dX9_goThrough_19 : decode cX9_goThrough 19 = .ok (.if_icmp .ge 85, 3) := by decide +kernel
theorem dX9_goThrough_22 : decode cX9_goThrough 22 = .ok (.iload 5, 2) := by decide +kernel
theorem dX9_goThrough_24 : decode cX9_goThrough 24 = .ok (.ldc 135, 2) := by decide +kernel
theorem dX9_goThrough_26 : decode cX9_goThrough 26 = .ok (.if_icmp .ge 78, 3) := by decide +kernel
theorem dX9_goThrough_29 : decode cX9_goThrough 29 = .ok (.iload_n 3, 1) := by decide +kernel
theorem dX9_goThrough_30 : decode cX9_goThrough 30 = .ok (.ifCond .eq 19, 3) := by decide +kernel
theorem dX9_goThrough_33 : decode cX9_goThrough 33 = .ok (.iload_n 1, 1) := by decide +kernel
theorem dX9_goThrough_34 : decode cX9_goThrough 34 = .ok (.bipush 10, 2) := by decide +kernel
theorem dX9_goThrough_36 : decode cX9_goThrough 36 = .ok (.if_icmp .eq 9, 3) := by decide +kernel
theorem dX9_goThrough_39 : decode cX9_goThrough 39 = .ok (.iload_n 1, 1) := by decide +kernel
theorem dX9_goThrough_40 : decode cX9_goThrough 40 = .ok (.bipush 11, 2) := by decide +kernel
theorem dX9_goThrough_42 : decode cX9_goThrough 42 = .ok (.if_icmp .ne 7, 3) := by decide +kernel
theorem dX9_goThrough_45 : decode cX9_goThrough 45 = .ok (.aload_n 0, 1) := by decide +kernel
theorem dX9_goThrough_46 : decode cX9_goThrough 46 = .ok (.invokevirtual 136, 3) := by decide +kernel
theorem dX9_goThrough_49 : decode cX9_goThrough 49 = .ok (.iload_n 3, 1) := by decide +kernel
theorem dX9_goThrough_50 : decode cX9_goThrough 50 = .ok (.ifCond .eq 18, 3) := by decide +kernel
theorem dX9_goThrough_53 : decode cX9_goThrough 53 = .ok (.iload_n 1, 1) := by decide +kernel
theorem dX9_goThrough_54 : decode cX9_goThrough 54 = .ok (.iconst 5, 1) := by decide +kernel
theorem dX9_goThrough_55 : decode cX9_goThrough 55 = .ok (.if_icmp .lt 13, 3) := by decide +kernel
theorem dX9_goThrough_58 : decode cX9_goThrough 58 = .ok (.iload_n 1, 1) := by decide +kernel
theorem dX9_goThrough_59 : decode cX9_goThrough 59 = .ok (.bipush 10, 2) := by decide +kernel
theorem dX9_goThrough_61 : decode cX9_goThrough 61 = .ok (.if_icmp .gt 7, 3) := by decide +kernel
theorem dX9_goThrough_64 : decode cX9_goThrough 64 = .ok (.aload_n 0, 1) := by decide +kernel
theorem dX9_goThrough_65 : decode cX9_goThrough 65 = .ok (.invokevirtual 139, 3) := by decide +kernel
theorem dX9_goThrough_68 : decode cX9_goThrough 68 = .ok (.aload_n 0, 1) := by decide +kernel
theorem dX9_goThrough_69 : decode cX9_goThrough 69 = .ok (.iload_n 1, 1) := by decide +kernel
theorem dX9_goThrough_70 : decode cX9_goThrough 70 = .ok (.iload 4, 2) := by decide +kernel
theorem dX9_goThrough_72 : decode cX9_goThrough 72 = .ok (.invokevirtual 142, 3) := by decide +kernel
theorem dX9_goThrough_75 : decode cX9_goThrough 75 = .ok (.istore_n 3, 1) := by decide +kernel
theorem dX9_goThrough_76 : decode cX9_goThrough 76 = .ok (.iload_n 3, 1) := by decide +kernel
theorem dX9_goThrough_77 : decode cX9_goThrough 77 = .ok (.ifCond .eq 18, 3) := by decide +kernel
theorem dX9_goThrough_80 : decode cX9_goThrough 80 = .ok (.aload_n 0, 1) := by decide +kernel
theorem dX9_goThrough_81 : decode cX9_goThrough 81 = .ok (.getfield 20, 3) := by decide +kernel
theorem dX9_goThrough_84 : decode cX9_goThrough 84 = .ok (.iload_n 1, 1) := by decide +kernel
theorem dX9_goThrough_85 : decode cX9_goThrough 85 = .ok (.dup2, 1) := by decide +kernel

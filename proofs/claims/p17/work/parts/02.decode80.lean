theorem dX9_findLive_17 : decode cX9_findLive 17 = .ok (.ldc 135, 2) := by decide +kernel
theorem dX9_findLive_19 : decode cX9_findLive 19 = .ok (.if_icmp .ge 65, 3) := by decide +kernel
theorem dX9_findLive_22 : decode cX9_findLive 22 = .ok (.iconst 0, 1) := by decide +kernel
theorem dX9_findLive_23 : decode cX9_findLive 23 = .ok (.istore_n 1, 1) := by decide +kernel
theorem dX9_findLive_24 : decode cX9_findLive 24 = .ok (.aload_n 0, 1) := by decide +kernel
theorem dX9_findLive_25 : decode cX9_findLive 25 = .ok (.getfield 14, 3) := by decide +kernel
theorem dX9_findLive_28 : decode cX9_findLive 28 = .ok (.getfield 54, 3) := by decide +kernel
theorem dX9_findLive_31 : decode cX9_findLive 31 = .ok (.iconst 1, 1) := by decide +kernel
theorem dX9_findLive_32 : decode cX9_findLive 32 = .ok (.isub, 1) := by decide +kernel
theorem dX9_findLive_33 : decode cX9_findLive 33 = .ok (.istore_n 3, 1) := by decide +kernel
theorem dX9_findLive_34 : decode cX9_findLive 34 = .ok (.iload_n 3, 1) := by decide +kernel
theorem dX9_findLive_35 : decode cX9_findLive 35 = .ok (.ifCond .lt 43, 3) := by decide +kernel
theorem dX9_findLive_38 : decode cX9_findLive 38 = .ok (.aload_n 0, 1) := by decide +kernel
theorem dX9_findLive_39 : decode cX9_findLive 39 = .ok (.iload_n 3, 1) := by decide +kernel
theorem dX9_findLive_40 : decode cX9_findLive 40 = .ok (.invokevirtual 260, 3) := by decide +kernel
theorem dX9_findLive_43 : decode cX9_findLive 43 = .ok (.istore 4, 2) := by decide +kernel
theorem dX9_findLive_45 : decode cX9_findLive 45 = .ok (.iload_n 1, 1) := by decide +kernel
theorem dX9_findLive_46 : decode cX9_findLive 46 = .ok (.iload 4, 2) := by decide +kernel
theorem dX9_findLive_48 : decode cX9_findLive 48 = .ok (.aload_n 0, 1) := by decide +kernel
theorem dX9_findLive_49 : decode cX9_findLive 49 = .ok (.getfield 31, 3) := by decide +kernel
theorem dX9_findLive_52 : decode cX9_findLive 52 = .ok (.iload_n 3, 1) := by decide +kernel
theorem dX9_findLive_53 : decode cX9_findLive 53 = .ok (.iaload, 1) := by decide +kernel
theorem dX9_findLive_54 : decode cX9_findLive 54 = .ok (.if_icmp .eq 7, 3) := by decide +kernel
theorem dX9_findLive_57 : decode cX9_findLive 57 = .ok (.iconst 1, 1) := by decide +kernel
theorem dX9_findLive_58 : decode cX9_findLive 58 = .ok (.goto 4, 3) := by decide +kernel
theorem dX9_findLive_61 : decode cX9_findLive 61 = .ok (.iconst 0, 1) := by decide +kernel
theorem dX9_findLive_62 : decode cX9_findLive 62 = .ok (.ior, 1) := by decide +kernel
theorem dX9_findLive_63 : decode cX9_findLive 63 = .ok (.istore_n 1, 1) := by decide +kernel
theorem dX9_findLive_64 : decode cX9_findLive 64 = .ok (.aload_n 0, 1) := by decide +kernel
theorem dX9_findLive_65 : decode cX9_findLive 65 = .ok (.getfield 31, 3) := by decide +kernel
theorem dX9_findLive_68 : decode cX9_findLive 68 = .ok (.iload_n 3, 1) := by decide +kernel
theorem dX9_findLive_69 : decode cX9_findLive 69 = .ok (.iload 4, 2) := by decide +kernel
theorem dX9_findLive_71 : decode cX9_findLive 71 = .ok (.iastore, 1) := by decide +kernel
theorem dX9_findLive_72 : decode cX9_findLive 72 = .ok (.iinc 3 (-1), 3) := by decide +kernel
theorem dX9_findLive_75 : decode cX9_findLive 75 = .ok (.goto (-41), 3) := by decide +kernel
theorem dX9_findLive_78 : decode cX9_findLive 78 = .ok (.iinc 2 1, 3) := by decide +kernel
theorem dX9_findLive_81 : decode cX9_findLive 81 = .ok (.goto (-69), 3) := by decide +kernel
theorem dX9_findLive_84 : decode cX9_findLive 84 = .ok (.return_, 1) := by decide +kernel
theorem dX9_findMarked_0 : decode cX9_findMarked 0 = .ok (.iconst 0, 1) := by decide +kernel
theorem dX9_findMarked_1 : decode cX9_findMarked 1 = .ok (.istore_n 1, 1) := by decide +kernel
theorem dX9_findMarked_2 : decode cX9_findMarked 2 = .ok (.iload_n 1, 1) := by decide +kernel
theorem dX9_findMarked_3 : decode cX9_findMarked 3 = .ok (.aload_n 0, 1) := by decide +kernel
theorem dX9_findMarked_4 : decode cX9_findMarked 4 = .ok (.getfield 24, 3) := by decide +kernel
theorem dX9_findMarked_7 : decode cX9_findMarked 7 = .ok (.arraylength, 1) := by decide +kernel
theorem dX9_findMarked_8 : decode cX9_findMarked 8 = .ok (.if_icmp .ge 16, 3) := by decide +kernel
theorem dX9_findMarked_11 : decode cX9_findMarked 11 = .ok (.aload_n 0, 1) := by decide +kernel
theorem dX9_findMarked_12 : decode cX9_findMarked 12 = .ok (.getfield 24, 3) := by decide +kernel
theorem dX9_findMarked_15 : decode cX9_findMarked 15 = .ok (.iload_n 1, 1) := by decide +kernel
theorem dX9_findMarked_16 : decode cX9_findMarked 16 = .ok (.iconst 0, 1) := by decide +kernel
theorem dX9_findMarked_17 : decode cX9_findMarked 17 = .ok (.bastore, 1) := by decide +kernel
theorem dX9_findMarked_18 : decode cX9_findMarked 18 = .ok (.iinc 1 1, 3) := by decide +kernel
theorem dX9_findMarked_21 : decode cX9_findMarked 21 = .ok (.goto (-19), 3) := by decide +kernel
theorem dX9_findMarked_24 : decode cX9_findMarked 24 = .ok (.iconst 0, 1) := by decide +kernel
theorem dX9_findMarked_25 : decode cX9_findMarked 25 = .ok (.istore_n 1, 1) := by decide +kernel
theorem dX9_findMarked_26 : decode cX9_findMarked 26 = .ok (.iload_n 1, 1) := by decide +kernel
theorem dX9_findMarked_27 : decode cX9_findMarked 27 = .ok (.aload_n 0, 1) := by decide +kernel
theorem dX9_findMarked_28 : decode cX9_findMarked 28 = .ok (.getfield 14, 3) := by decide +kernel
theorem dX9_findMarked_31 : decode cX9_findMarked 31 = .ok (.getfield 54, 3) := by decide +kernel
theorem dX9_findMarked_34 : decode cX9_findMarked 34 = .ok (.if_icmp .ge 44, 3) := by decide +kernel
theorem dX9_findMarked_37 : decode cX9_findMarked 37 = .ok (.aload_n 0, 1) := by decide +kernel
theorem dX9_findMarked_38 : decode cX9_findMarked 38 = .ok (.getfield 14, 3) := by decide +kernel
theorem dX9_findMarked_41 : decode cX9_findMarked 41 = .ok (.iload_n 1, 1) := by decide +kernel
theorem dX9_findMarked_42 : decode cX9_findMarked 42 = .ok (.invokevirtual 94, 3) := by decide +kernel
theorem dX9_findMarked_45 : decode cX9_findMarked 45 = .ok (.istore_n 2, 1) := by decide +kernel
theorem dX9_findMarked_46 : decode cX9_findMarked 46 = .ok (.iconst 0, 1) := by decide +kernel
theorem dX9_findMarked_47 : decode cX9_findMarked 47 = .ok (.istore_n 3, 1) := by decide +kernel
theorem dX9_findMarked_48 : decode cX9_findMarked 48 = .ok (.iload_n 3, 1) := by decide +kernel
theorem dX9_findMarked_49 : decode cX9_findMarked 49 = .ok (.iload_n 2, 1) := by decide +kernel
theorem dX9_findMarked_50 : decode cX9_findMarked 50 = .ok (.if_icmp .ge 22, 3) := by decide +kernel
theorem dX9_findMarked_53 : decode cX9_findMarked 53 = .ok (.aload_n 0, 1) := by decide +kernel
theorem dX9_findMarked_54 : decode cX9_findMarked 54 = .ok (.aload_n 0, 1) := by decide +kernel
theorem dX9_findMarked_55 : decode cX9_findMarked 55 = .ok (.getfield 14, 3) := by decide +kernel
theorem dX9_findMarked_58 : decode cX9_findMarked 58 = .ok (.iload_n 1, 1) := by decide +kernel
theorem dX9_findMarked_59 : decode cX9_findMarked 59 = .ok (.iload_n 3, 1) := by decide +kernel
theorem dX9_findMarked_60 : decode cX9_findMarked 60 = .ok (.invokevirtual 97, 3) := by decide +kernel
theorem dX9_findMarked_63 : decode cX9_findMarked 63 = .ok (.invokevirtual 197, 3) := by decide +kernel
theorem dX9_findMarked_66 : decode cX9_findMarked 66 = .ok (.iinc 3 1, 3) := by decide +kernel
theorem dX9_findMarked_69 : decode cX9_findMarked 69 = .ok (.goto (-21), 3) := by decide +kernel
theorem dX9_findMarked_72 : decode cX9_findMarked 72 = .ok (.iinc 1 1, 3) := by decide +kernel
theorem dX9_findMarked_75 : decode cX9_findMarked 75 = .ok (.goto (-49), 3) := by decide +kernel
theorem dX9_findMarked_78 : decode cX9_findMarked 78 = .ok (.iconst 0, 1) := by decide +kernel
theorem dX9_findMarked_79 : decode cX9_findMarked 79 = .ok (.istore_n 1, 1) := by decide +kernel
theorem dX9_findMarked_80 : decode cX9_findMarked 80 = .ok (.iload_n 1, 1) := by decide +kernel
theorem dX9_findMarked_81 : decode cX9_findMarked 81 = .ok (.aload_n 0, 1) := by decide +kernel
theorem dX9_findMarked_82 : decode cX9_findMarked 82 = .ok (.getfield 14, 3) := by decide +kernel
theorem dX9_findMarked_85 : decode cX9_findMarked 85 = .ok (.getfield 106, 3) := by decide +kernel
theorem dX9_findMarked_88 : decode cX9_findMarked 88 = .ok (.if_icmp .ge 48, 3) := by decide +kernel
theorem dX9_findMarked_91 : decode cX9_findMarked 91 = .ok (.aload_n 0, 1) := by decide +kernel
theorem dX9_findMarked_92 : decode cX9_findMarked 92 = .ok (.aload_n 0, 1) := by decide +kernel
theorem dX9_findMarked_93 : decode cX9_findMarked 93 = .ok (.getfield 14, 3) := by decide +kernel
theorem dX9_findMarked_96 : decode cX9_findMarked 96 = .ok (.getfield 109, 3) := by decide +kernel
theorem dX9_findMarked_99 : decode cX9_findMarked 99 = .ok (.iload_n 1, 1) := by decide +kernel
theorem dX9_findMarked_100 : decode cX9_findMarked 100 = .ok (.iaload, 1) := by decide +kernel
theorem dX9_findMarked_101 : decode cX9_findMarked 101 = .ok (.invokevirtual 197, 3) := by decide +kernel
theorem dX9_findMarked_104 : decode cX9_findMarked 104 = .ok (.aload_n 0, 1) := by decide +kernel
theorem dX9_findMarked_105 : decode cX9_findMarked 105 = .ok (.aload_n 0, 1) := by decide +kernel
theorem dX9_findMarked_106 : decode cX9_findMarked 106 = .ok (.getfield 14, 3) := by decide +kernel
theorem dX9_findMarked_109 : decode cX9_findMarked 109 = .ok (.getfield 112, 3) := by decide +kernel
theorem dX9_findMarked_112 : decode cX9_findMarked 112 = .ok (.iload_n 1, 1) := by decide +kernel
theorem dX9_findMarked_113 : decode cX9_findMarked 113 = .ok (.iaload, 1) := by decide +kernel
theorem dX9_findMarked_114 : decode cX9_findMarked 114 = .ok (.invokevirtual 197, 3) := by decide +kernel
theorem dX9_findMarked_117 : decode cX9_findMarked 117 = .ok (.aload_n 0, 1) := by decide +kernel
theorem dX9_findMarked_118 : decode cX9_findMarked 118 = .ok (.aload_n 0, 1) := by decide +kernel
theorem dX9_findMarked_119 : decode cX9_findMarked 119 = .ok (.getfield 14, 3) := by decide +kernel
theorem dX9_findMarked_122 : decode cX9_findMarked 122 = .ok (.getfield 115, 3) := by decide +kernel
theorem dX9_findMarked_125 : decode cX9_findMarked 125 = .ok (.iload_n 1, 1) := by decide +kernel
theorem dX9_findMarked_126 : decode cX9_findMarked 126 = .ok (.iaload, 1) := by decide +kernel
theorem dX9_findMarked_127 : decode cX9_findMarked 127 = .ok (.invokevirtual 197, 3) := by decide +kernel
theorem dX9_findMarked_130 : decode cX9_findMarked 130 = .ok (.iinc 1 1, 3) := by decide +kernel
theorem dX9_findMarked_133 : decode cX9_findMarked 133 = .ok (.goto (-53), 3) := by decide +kernel
theorem dX9_findMarked_136 : decode cX9_findMarked 136 = .ok (.return_, 1) := by decide +kernel
theorem dX9_findReached_0 : decode cX9_findReached 0 = .ok (.iconst 0, 1) := by decide +kernel
theorem dX9_findReached_1 : decode cX9_findReached 1 = .ok (.istore_n 1, 1) := by decide +kernel
theorem dX9_findReached_2 : decode cX9_findReached 2 = .ok (.iload_n 1, 1) := by decide +kernel
theorem dX9_findReached_3 : decode cX9_findReached 3 = .ok (.aload_n 0, 1) := by decide +kernel
theorem dX9_findReached_4 : decode cX9_findReached 4 = .ok (.getfield 28, 3) := by decide +kernel
theorem dX9_findReached_7 : decode cX9_findReached 7 = .ok (.arraylength, 1) := by decide +kernel
theorem dX9_findReached_8 : decode cX9_findReached 8 = .ok (.if_icmp .ge 24, 3) := by decide +kernel
theorem dX9_findReached_11 : decode cX9_findReached 11 = .ok (.aload_n 0, 1) := by decide +kernel
theorem dX9_findReached_12 : decode cX9_findReached 12 = .ok (.getfield 28, 3) := by decide +kernel
theorem dX9_findReached_15 : decode cX9_findReached 15 = .ok (.iload_n 1, 1) := by decide +kernel
theorem dX9_findReached_16 : decode cX9_findReached 16 = .ok (.iload_n 1, 1) := by decide +kernel
theorem dX9_findReached_17 : decode cX9_findReached 17 = .ok (.ifCond .ne 7, 3) := by decide +kernel
theorem dX9_findReached_20 : decode cX9_findReached 20 = .ok (.iconst 1, 1) := by decide +kernel
theorem dX9_findReached_21 : decode cX9_findReached 21 = .ok (.goto 4, 3) := by decide +kernel
theorem dX9_findReached_24 : decode cX9_findReached 24 = .ok (.iconst 0, 1) := by decide +kernel
theorem dX9_findReached_25 : decode cX9_findReached 25 = .ok (.bastore, 1) := by decide +kernel
theorem dX9_findReached_26 : decode cX9_findReached 26 = .ok (.iinc 1 1, 3) := by decide +kernel
theorem dX9_findReached_29 : decode cX9_findReached 29 = .ok (.goto (-27), 3) := by decide +kernel
theorem dX9_findReached_32 : decode cX9_findReached 32 = .ok (.iconst 1, 1) := by decide +kernel
theorem dX9_findReached_33 : decode cX9_findReached 33 = .ok (.istore_n 1, 1) := by decide +kernel
theorem dX9_findReached_34 : decode cX9_findReached 34 = .ok (.iconst 0, 1) := by decide +kernel
theorem dX9_findReached_35 : decode cX9_findReached 35 = .ok (.istore_n 2, 1) := by decide +kernel
theorem dX9_findReached_36 : decode cX9_findReached 36 = .ok (.iload_n 1, 1) := by decide +kernel
theorem dX9_findReached_37 : decode cX9_findReached 37 = .ok (.ifCond .eq 53, 3) := by decide +kernel
theorem dX9_findReached_40 : decode cX9_findReached 40 = .ok (.iload_n 2, 1) := by decide +kernel
theorem dX9_findReached_41 : decode cX9_findReached 41 = .ok (.ldc 135, 2) := by decide +kernel
theorem dX9_findReached_43 : decode cX9_findReached 43 = .ok (.if_icmp .ge 47, 3) := by decide +kernel
theorem dX9_findReached_46 : decode cX9_findReached 46 = .ok (.iconst 0, 1) := by decide +kernel
theorem dX9_findReached_47 : decode cX9_findReached 47 = .ok (.istore_n 1, 1) := by decide +kernel
theorem dX9_findReached_48 : decode cX9_findReached 48 = .ok (.iconst 0, 1) := by decide +kernel
theorem dX9_findReached_49 : decode cX9_findReached 49 = .ok (.istore_n 3, 1) := by decide +kernel
theorem dX9_findReached_50 : decode cX9_findReached 50 = .ok (.iload_n 3, 1) := by decide +kernel
theorem dX9_findReached_51 : decode cX9_findReached 51 = .ok (.aload_n 0, 1) := by decide +kernel
theorem dX9_findReached_52 : decode cX9_findReached 52 = .ok (.getfield 14, 3) := by decide +kernel
theorem dX9_findReached_55 : decode cX9_findReached 55 = .ok (.getfield 54, 3) := by decide +kernel
theorem dX9_findReached_58 : decode cX9_findReached 58 = .ok (.if_icmp .ge 26, 3) := by decide +kernel
theorem dX9_findReached_61 : decode cX9_findReached 61 = .ok (.aload_n 0, 1) := by decide +kernel
theorem dX9_findReached_62 : decode cX9_findReached 62 = .ok (.getfield 28, 3) := by decide +kernel
theorem dX9_findReached_65 : decode cX9_findReached 65 = .ok (.iload_n 3, 1) := by decide +kernel

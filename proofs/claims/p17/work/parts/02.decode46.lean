theorem dX3_findLoops_31 : decode cX3_findLoops 31 = .ok (.iconst 0, 1) := by decide +kernel
theorem dX3_findLoops_32 : decode cX3_findLoops 32 = .ok (.iastore, 1) := by decide +kernel
theorem dX3_findLoops_33 : decode cX3_findLoops 33 = .ok (.aload_n 0, 1) := by decide +kernel
theorem dX3_findLoops_34 : decode cX3_findLoops 34 = .ok (.getfield 24, 3) := by decide +kernel
theorem dX3_findLoops_37 : decode cX3_findLoops 37 = .ok (.iload_n 1, 1) := by decide +kernel
theorem dX3_findLoops_38 : decode cX3_findLoops 38 = .ok (.iaload, 1) := by decide +kernel
theorem dX3_findLoops_39 : decode cX3_findLoops 39 = .ok (.istore_n 2, 1) := by decide +kernel
theorem dX3_findLoops_40 : decode cX3_findLoops 40 = .ok (.aload_n 0, 1) := by decide +kernel
theorem dX3_findLoops_41 : decode cX3_findLoops 41 = .ok (.getfield 30, 3) := by decide +kernel
theorem dX3_findLoops_44 : decode cX3_findLoops 44 = .ok (.iload_n 1, 1) := by decide +kernel
theorem dX3_findLoops_45 : decode cX3_findLoops 45 = .ok (.baload, 1) := by decide +kernel
theorem dX3_findLoops_46 : decode cX3_findLoops 46 = .ok (.ifCond .eq 59, 3) := by decide +kernel
theorem dX3_findLoops_49 : decode cX3_findLoops 49 = .ok (.iload_n 2, 1) := by decide +kernel
theorem dX3_findLoops_50 : decode cX3_findLoops 50 = .ok (.aload_n 0, 1) := by decide +kernel
theorem dX3_findLoops_51 : decode cX3_findLoops 51 = .ok (.getfield 24, 3) := by decide +kernel
theorem dX3_findLoops_54 : decode cX3_findLoops 54 = .ok (.iload_n 1, 1) := by decide +kernel
theorem dX3_findLoops_55 : decode cX3_findLoops 55 = .ok (.iconst 1, 1) := by decide +kernel
theorem dX3_findLoops_56 : decode cX3_findLoops 56 = .ok (.iadd, 1) := by decide +kernel
theorem dX3_findLoops_57 : decode cX3_findLoops 57 = .ok (.iaload, 1) := by decide +kernel
theorem dX3_findLoops_58 : decode cX3_findLoops 58 = .ok (.if_icmp .ge 47, 3) := by decide +kernel
theorem dX3_findLoops_61 : decode cX3_findLoops 61 = .ok (.aload_n 0, 1) := by decide +kernel
theorem dX3_findLoops_62 : decode cX3_findLoops 62 = .ok (.getfield 30, 3) := by decide +kernel
theorem dX3_findLoops_65 : decode cX3_findLoops 65 = .ok (.aload_n 0, 1) := by decide +kernel
theorem dX3_findLoops_66 : decode cX3_findLoops 66 = .ok (.getfield 27, 3) := by decide +kernel
theorem dX3_findLoops_69 : decode cX3_findLoops 69 = .ok (.iload_n 2, 1) := by decide +kernel
theorem dX3_findLoops_70 : decode cX3_findLoops 70 = .ok (.iaload, 1) := by decide +kernel
theorem dX3_findLoops_71 : decode cX3_findLoops 71 = .ok (.baload, 1) := by decide +kernel
theorem dX3_findLoops_72 : decode cX3_findLoops 72 = .ok (.ifCond .eq 27, 3) := by decide +kernel
theorem dX3_findLoops_75 : decode cX3_findLoops 75 = .ok (.aload_n 0, 1) := by decide +kernel
theorem dX3_findLoops_76 : decode cX3_findLoops 76 = .ok (.iload_n 1, 1) := by decide +kernel
theorem dX3_findLoops_77 : decode cX3_findLoops 77 = .ok (.aload_n 0, 1) := by decide +kernel
theorem dX3_findLoops_78 : decode cX3_findLoops 78 = .ok (.getfield 27, 3) := by decide +kernel
theorem dX3_findLoops_81 : decode cX3_findLoops 81 = .ok (.iload_n 2, 1) := by decide +kernel
theorem dX3_findLoops_82 : decode cX3_findLoops 82 = .ok (.iaload, 1) := by decide +kernel
theorem dX3_findLoops_83 : decode cX3_findLoops 83 = .ok (.invokevirtual 169, 3) := by decide +kernel
theorem dX3_findLoops_86 : decode cX3_findLoops 86 = .ok (.ifCond .eq 13, 3) := by decide +kernel
theorem dX3_findLoops_89 : decode cX3_findLoops 89 = .ok (.aload_n 0, 1) := by decide +kernel
theorem dX3_findLoops_90 : decode cX3_findLoops 90 = .ok (.getfield 41, 3) := by decide +kernel
theorem dX3_findLoops_93 : decode cX3_findLoops 93 = .ok (.iload_n 1, 1) := by decide +kernel
theorem dX3_findLoops_94 : decode cX3_findLoops 94 = .ok (.dup2, 1) := by decide +kernel
theorem dX3_findLoops_95 : decode cX3_findLoops 95 = .ok (.iaload, 1) := by decide +kernel
theorem dX3_findLoops_96 : decode cX3_findLoops 96 = .ok (.iconst 1, 1) := by decide +kernel
theorem dX3_findLoops_97 : decode cX3_findLoops 97 = .ok (.iadd, 1) := by decide +kernel
theorem dX3_findLoops_98 : decode cX3_findLoops 98 = .ok (.iastore, 1) := by decide +kernel
theorem dX3_findLoops_99 : decode cX3_findLoops 99 = .ok (.iinc 2 1, 3) := by decide +kernel
theorem dX3_findLoops_102 : decode cX3_findLoops 102 = .ok (.goto (-62), 3) := by decide +kernel
theorem dX3_findLoops_105 : decode cX3_findLoops 105 = .ok (.aload_n 0, 1) := by decide +kernel
theorem dX3_findLoops_106 : decode cX3_findLoops 106 = .ok (.getfield 41, 3) := by decide +kernel
theorem dX3_findLoops_109 : decode cX3_findLoops 109 = .ok (.iload_n 1, 1) := by decide +kernel
theorem dX3_findLoops_110 : decode cX3_findLoops 110 = .ok (.iaload, 1) := by decide +kernel
theorem dX3_findLoops_111 : decode cX3_findLoops 111 = .ok (.ifCond .le 8, 3) := by decide +kernel
theorem dX3_findLoops_114 : decode cX3_findLoops 114 = .ok (.aload_n 0, 1) := by decide +kernel
theorem dX3_findLoops_115 : decode cX3_findLoops 115 = .ok (.iload_n 1, 1) := by decide +kernel
theorem dX3_findLoops_116 : decode cX3_findLoops 116 = .ok (.invokevirtual 172, 3) := by decide +kernel
theorem dX3_findLoops_119 : decode cX3_findLoops 119 = .ok (.iinc 1 1, 3) := by decide +kernel
theorem dX3_findLoops_122 : decode cX3_findLoops 122 = .ok (.goto (-104), 3) := by decide +kernel
theorem dX3_findLoops_125 : decode cX3_findLoops 125 = .ok (.return_, 1) := by decide +kernel
theorem dX3_findReached_0 : decode cX3_findReached 0 = .ok (.iconst 0, 1) := by decide +kernel
theorem dX3_findReached_1 : decode cX3_findReached 1 = .ok (.istore_n 1, 1) := by decide +kernel
theorem dX3_findReached_2 : decode cX3_findReached 2 = .ok (.iload_n 1, 1) := by decide +kernel
theorem dX3_findReached_3 : decode cX3_findReached 3 = .ok (.aload_n 0, 1) := by decide +kernel
theorem dX3_findReached_4 : decode cX3_findReached 4 = .ok (.getfield 78, 3) := by decide +kernel
theorem dX3_findReached_7 : decode cX3_findReached 7 = .ok (.if_icmp .ge 24, 3) := by decide +kernel
theorem dX3_findReached_10 : decode cX3_findReached 10 = .ok (.aload_n 0, 1) := by decide +kernel
theorem dX3_findReached_11 : decode cX3_findReached 11 = .ok (.getfield 30, 3) := by decide +kernel
theorem dX3_findReached_14 : decode cX3_findReached 14 = .ok (.iload_n 1, 1) := by decide +kernel
theorem dX3_findReached_15 : decode cX3_findReached 15 = .ok (.iload_n 1, 1) := by decide +kernel
theorem dX3_findReached_16 : decode cX3_findReached 16 = .ok (.ifCond .ne 7, 3) := by decide +kernel
theorem dX3_findReached_19 : decode cX3_findReached 19 = .ok (.iconst 1, 1) := by decide +kernel
theorem dX3_findReached_20 : decode cX3_findReached 20 = .ok (.goto 4, 3) := by decide +kernel
theorem dX3_findReached_23 : decode cX3_findReached 23 = .ok (.iconst 0, 1) := by decide +kernel
theorem dX3_findReached_24 : decode cX3_findReached 24 = .ok (.bastore, 1) := by decide +kernel
theorem dX3_findReached_25 : decode cX3_findReached 25 = .ok (.iinc 1 1, 3) := by decide +kernel
theorem dX3_findReached_28 : decode cX3_findReached 28 = .ok (.goto (-26), 3) := by decide +kernel
theorem dX3_findReached_31 : decode cX3_findReached 31 = .ok (.aload_n 0, 1) := by decide +kernel
theorem dX3_findReached_32 : decode cX3_findReached 32 = .ok (.getfield 50, 3) := by decide +kernel
theorem dX3_findReached_35 : decode cX3_findReached 35 = .ok (.iconst 0, 1) := by decide +kernel
theorem dX3_findReached_36 : decode cX3_findReached 36 = .ok (.iconst 0, 1) := by decide +kernel
theorem dX3_findReached_37 : decode cX3_findReached 37 = .ok (.iastore, 1) := by decide +kernel
theorem dX3_findReached_38 : decode cX3_findReached 38 = .ok (.iconst 1, 1) := by decide +kernel
theorem dX3_findReached_39 : decode cX3_findReached 39 = .ok (.istore_n 1, 1) := by decide +kernel
theorem dX3_findReached_40 : decode cX3_findReached 40 = .ok (.iconst 0, 1) := by decide +kernel
theorem dX3_findReached_41 : decode cX3_findReached 41 = .ok (.istore_n 2, 1) := by decide +kernel
theorem dX3_findReached_42 : decode cX3_findReached 42 = .ok (.iload_n 1, 1) := by decide +kernel
theorem dX3_findReached_43 : decode cX3_findReached 43 = .ok (.ifCond .le 98, 3) := by decide +kernel
theorem dX3_findReached_46 : decode cX3_findReached 46 = .ok (.iload_n 2, 1) := by decide +kernel
theorem dX3_findReached_47 : decode cX3_findReached 47 = .ok (.aload_n 0, 1) := by decide +kernel
theorem dX3_findReached_48 : decode cX3_findReached 48 = .ok (.getfield 78, 3) := by decide +kernel
theorem dX3_findReached_51 : decode cX3_findReached 51 = .ok (.if_icmp .ge 90, 3) := by decide +kernel
theorem dX3_findReached_54 : decode cX3_findReached 54 = .ok (.iinc 1 (-1), 3) := by decide +kernel
theorem dX3_findReached_57 : decode cX3_findReached 57 = .ok (.aload_n 0, 1) := by decide +kernel
theorem dX3_findReached_58 : decode cX3_findReached 58 = .ok (.getfield 50, 3) := by decide +kernel
theorem dX3_findReached_61 : decode cX3_findReached 61 = .ok (.iload_n 1, 1) := by decide +kernel
theorem dX3_findReached_62 : decode cX3_findReached 62 = .ok (.iaload, 1) := by decide +kernel
theorem dX3_findReached_63 : decode cX3_findReached 63 = .ok (.istore_n 3, 1) := by decide +kernel
theorem dX3_findReached_64 : decode cX3_findReached 64 = .ok (.aload_n 0, 1) := by decide +kernel
theorem dX3_findReached_65 : decode cX3_findReached 65 = .ok (.getfield 18, 3) := by decide +kernel
theorem dX3_findReached_68 : decode cX3_findReached 68 = .ok (.iload_n 3, 1) := by decide +kernel
theorem dX3_findReached_69 : decode cX3_findReached 69 = .ok (.iaload, 1) := by decide +kernel
theorem dX3_findReached_70 : decode cX3_findReached 70 = .ok (.istore 4, 2) := by decide +kernel
theorem dX3_findReached_72 : decode cX3_findReached 72 = .ok (.iload 4, 2) := by decide +kernel
theorem dX3_findReached_74 : decode cX3_findReached 74 = .ok (.aload_n 0, 1) := by decide +kernel
theorem dX3_findReached_75 : decode cX3_findReached 75 = .ok (.getfield 18, 3) := by decide +kernel
theorem dX3_findReached_78 : decode cX3_findReached 78 = .ok (.iload_n 3, 1) := by decide +kernel
theorem dX3_findReached_79 : decode cX3_findReached 79 = .ok (.iconst 1, 1) := by decide +kernel
theorem dX3_findReached_80 : decode cX3_findReached 80 = .ok (.iadd, 1) := by decide +kernel
theorem dX3_findReached_81 : decode cX3_findReached 81 = .ok (.iaload, 1) := by decide +kernel
theorem dX3_findReached_82 : decode cX3_findReached 82 = .ok (.if_icmp .ge 53, 3) := by decide +kernel
theorem dX3_findReached_85 : decode cX3_findReached 85 = .ok (.aload_n 0, 1) := by decide +kernel
theorem dX3_findReached_86 : decode cX3_findReached 86 = .ok (.getfield 30, 3) := by decide +kernel
theorem dX3_findReached_89 : decode cX3_findReached 89 = .ok (.aload_n 0, 1) := by decide +kernel
theorem dX3_findReached_90 : decode cX3_findReached 90 = .ok (.getfield 21, 3) := by decide +kernel
theorem dX3_findReached_93 : decode cX3_findReached 93 = .ok (.iload 4, 2) := by decide +kernel
theorem dX3_findReached_95 : decode cX3_findReached 95 = .ok (.iaload, 1) := by decide +kernel
theorem dX3_findReached_96 : decode cX3_findReached 96 = .ok (.baload, 1) := by decide +kernel
theorem dX3_findReached_97 : decode cX3_findReached 97 = .ok (.ifCond .ne 32, 3) := by decide +kernel
theorem dX3_findReached_100 : decode cX3_findReached 100 = .ok (.aload_n 0, 1) := by decide +kernel
theorem dX3_findReached_101 : decode cX3_findReached 101 = .ok (.getfield 30, 3) := by decide +kernel
theorem dX3_findReached_104 : decode cX3_findReached 104 = .ok (.aload_n 0, 1) := by decide +kernel
theorem dX3_findReached_105 : decode cX3_findReached 105 = .ok (.getfield 21, 3) := by decide +kernel
theorem dX3_findReached_108 : decode cX3_findReached 108 = .ok (.iload 4, 2) := by decide +kernel
theorem dX3_findReached_110 : decode cX3_findReached 110 = .ok (.iaload, 1) := by decide +kernel
theorem dX3_findReached_111 : decode cX3_findReached 111 = .ok (.iconst 1, 1) := by decide +kernel
theorem dX3_findReached_112 : decode cX3_findReached 112 = .ok (.bastore, 1) := by decide +kernel
theorem dX3_findReached_113 : decode cX3_findReached 113 = .ok (.aload_n 0, 1) := by decide +kernel
theorem dX3_findReached_114 : decode cX3_findReached 114 = .ok (.getfield 50, 3) := by decide +kernel
theorem dX3_findReached_117 : decode cX3_findReached 117 = .ok (.iload_n 1, 1) := by decide +kernel
theorem dX3_findReached_118 : decode cX3_findReached 118 = .ok (.aload_n 0, 1) := by decide +kernel
theorem dX3_findReached_119 : decode cX3_findReached 119 = .ok (.getfield 21, 3) := by decide +kernel
theorem dX3_findReached_122 : decode cX3_findReached 122 = .ok (.iload 4, 2) := by decide +kernel
theorem dX3_findReached_124 : decode cX3_findReached 124 = .ok (.iaload, 1) := by decide +kernel
theorem dX3_findReached_125 : decode cX3_findReached 125 = .ok (.iastore, 1) := by decide +kernel
theorem dX3_findReached_126 : decode cX3_findReached 126 = .ok (.iinc 1 1, 3) := by decide +kernel
theorem dX3_findReached_129 : decode cX3_findReached 129 = .ok (.iinc 4 1, 3) := by decide +kernel
theorem dX3_findReached_132 : decode cX3_findReached 132 = .ok (.goto (-60), 3) := by decide +kernel
theorem dX3_findReached_135 : decode cX3_findReached 135 = .ok (.iinc 2 1, 3) := by decide +kernel
theorem dX3_findReached_138 : decode cX3_findReached 138 = .ok (.goto (-96), 3) := by decide +kernel
theorem dX3_findReached_141 : decode cX3_findReached 141 = .ok (.return_, 1) := by decide +kernel
theorem dX3_hasEdge_0 : decode cX3_hasEdge 0 = .ok (.iload_n 1, 1) := by decide +kernel
theorem dX3_hasEdge_1 : decode cX3_hasEdge 1 = .ok (.ifCond .lt 11, 3) := by decide +kernel
theorem dX3_hasEdge_4 : decode cX3_hasEdge 4 = .ok (.iload_n 1, 1) := by decide +kernel
theorem dX3_hasEdge_5 : decode cX3_hasEdge 5 = .ok (.aload_n 0, 1) := by decide +kernel
theorem dX3_hasEdge_6 : decode cX3_hasEdge 6 = .ok (.getfield 78, 3) := by decide +kernel
theorem dX3_hasEdge_9 : decode cX3_hasEdge 9 = .ok (.if_icmp .lt 5, 3) := by decide +kernel
theorem dX3_hasEdge_12 : decode cX3_hasEdge 12 = .ok (.iconst 0, 1) := by decide +kernel
theorem dX3_hasEdge_13 : decode cX3_hasEdge 13 = .ok (.ireturn, 1) := by decide +kernel
theorem dX3_hasEdge_14 : decode cX3_hasEdge 14 = .ok (.aload_n 0, 1) := by decide +kernel
theorem dX3_hasEdge_15 : decode cX3_hasEdge 15 = .ok (.getfield 18, 3) := by decide +kernel
theorem dX3_hasEdge_18 : decode cX3_hasEdge 18 = .ok (.iload_n 1, 1) := by decide +kernel
theorem dX3_hasEdge_19 : decode cX3_hasEdge 19 = .ok (.iaload, 1) := by decide +kernel

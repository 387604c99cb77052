theorem dX3_findReached_46 : decode cX3_findReached 46 = .ok (.iload_n 2, 1) := by decide +kernel
theorem dX3_findReached_47 : decode cX3_findReached 47 = .ok (.aload_n 0, 1) := by decide +kernel
theorem dX3_findReached_48 : decode cX3_findReached 48 = .ok (.getfield 78, 3) := by decide +kernel
theorem dX3_findReached_51 : decode cX3_findReached 51 = .ok (.if_icmp .ge 90, 3) := by decide +kernel
theorem dX3_findReached_54 : decode cX3_findReached 54 = .ok (.iinc 1 (-1), 3) := by decide +kernel
theorem dX3_findReached_57 : decode cX3_findReached 57 = .ok (.aload_n 0, 1) := by decide +kernel
theorem dX3_findReached_58 : decode cX3_findReached 58 = .ok (.getfield 50, 3) := by decide +kernel
theorem dX3_findReached_61 : decode cX3_findReached 61 = .ok (.iload_n 1, 1) := by decide +kernel
theorem dX3_findReached_62 : decode cX3_findReached 62 = .ok (.iaload, 1) := by decide +kernel
theorem dX3_findReached_63 : decode cX3_findReached 63 = .ok (.istore_n 3, 1) := by decide +kernel
theorem dX3_findReached_64 : decode cX3_findReached 64 = .ok (.aload_n 0, 1) := by decide +kernel
theorem dX3_findReached_65 : decode cX3_findReached 65 = .ok (.getfield 18, 3) := by decide +kernel
theorem dX3_findReached_68 : decode cX3_findReached 68 = .ok (.iload_n 3, 1) := by decide +kernel
theorem dX3_findReached_69 : decode cX3_findReached 69 = .ok (.iaload, 1) := by decide +kernel
theorem dX3_findReached_70 : decode cX3_findReached 70 = .ok (.istore 4, 2) := by decide +kernel
theorem dX3_findReached_72 : decode cX3_findReached 72 = .ok (.iload 4, 2) := by decide +kernel
theorem dX3_findReached_74 : decode cX3_findReached 74 = .ok (.aload_n 0, 1) := by decide +kernel
theorem dX3_findReached_75 : decode cX3_findReached 75 = .ok (.getfield 18, 3) := by decide +kernel
theorem dX3_findReached_78 : decode cX3_findReached 78 = .ok (.iload_n 3, 1) := by decide +kernel
theorem dX3_findReached_79 : decode cX3_findReached 79 = .ok (.iconst 1, 1) := by decide +kernel
theorem dX3_findReached_80 : decode cX3_findReached 80 = .ok (.iadd, 1) := by decide +kernel
theorem dX3_findReached_81 : decode cX3_findReached 81 = .ok (.iaload, 1) := by decide +kernel
theorem dX3_findReached_82 : decode cX3_findReached 82 = .ok (.if_icmp .ge 53, 3) := by decide +kernel
theorem dX3_findReached_85 : decode cX3_findReached 85 = .ok (.aload_n 0, 1) := by decide +kernel
theorem dX3_findReached_86 : decode cX3_findReached 86 = .ok (.getfield 30, 3) := by decide +kernel
theorem dX3_findReached_89 : decode cX3_findReached 89 = .ok (.aload_n 0, 1) := by decide +kernel
theorem dX3_findReached_90 : decode cX3_findReached 90 = .ok (.getfield 21, 3) := by decide +kernel
theorem dX3_findReached_93 : decode cX3_findReached 93 = .ok (.iload 4, 2) := by decide +kernel
theorem dX3_findReached_95 : decode cX3_findReached 95 = .ok (.iaload, 1) := by decide +kernel
theorem dX3_findReached_96 : decode cX3_findReached 96 = .ok (.baload, 1) := by decide +kernel
theorem dX3_findReached_97 : decode cX3_findReached 97 = .ok (.ifCond .ne 32, 3) := by decide +kernel
theorem dX3_findReached_100 : decode cX3_findReached 100 = .ok (.aload_n 0, 1) := by decide +kernel
theorem dX3_findReached_101 : decode cX3_findReached 101 = .ok (.getfield 30, 3) := by decide +kernel
theorem dX3_findReached_104 : decode cX3_findReached 104 = .ok (.aload_n 0, 1) := by decide +kernel
theorem dX3_findReached_105 : decode cX3_findReached 105 = .ok (.getfield 21, 3) := by decide +kernel
theorem dX3_findReached_108 : decode cX3_findReached 108 = .ok (.iload 4, 2) := by decide +kernel
theorem dX3_findReached_110 : decode cX3_findReached 110 = .ok (.iaload, 1) := by decide +kernel
theorem dX3_findReached_111 : decode cX3_findReached 111 = .ok (.iconst 1, 1) := by decide +kernel
theorem dX3_findReached_112 : decode cX3_findReached 112 = .ok (.bastore, 1) := by decide +kernel
theorem dX3_findReached_113 : decode cX3_findReached 113 = .ok (.aload_n 0, 1) := by decide +kernel
theorem dX3_findReached_114 : decode cX3_findReached 114 = .ok (.getfield 50, 3) := by decide +kernel
theorem dX3_findReached_117 : decode cX3_findReached 117 = .ok (.iload_n 1, 1) := by decide +kernel
theorem dX3_findReached_118 : decode cX3_findReached 118 = .ok (.aload_n 0, 1) := by decide +kernel
theorem dX3_findReached_119 : decode cX3_findReached 119 = .ok (.getfield 21, 3) := by decide +kernel
theorem dX3_findReached_122 : decode cX3_findReached 122 = .ok (.iload 4, 2) := by decide +kernel
theorem dX3_findReached_124 : decode cX3_findReached 124 = .ok (.iaload, 1) := by decide +kernel
theorem dX3_findReached_125 : decode cX3_findReached 125 = .ok (.iastore, 1) := by decide +kernel
theorem dX3_findReached_126 : decode cX3_findReached 126 = .ok (.iinc 1 1, 3) := by decide +kernel
theorem dX3_findReached_129 : decode cX3_findReached 129 = .ok (.iinc 4 1, 3) := by decide +kernel
theorem dX3_findReached_132 : decode cX3_findReached 132 = .ok (.goto (-60), 3) := by decide +kernel
theorem dX3_findReached_135 : decode cX3_findReached 135 = .ok (.iinc 2 1, 3) := by decide +kernel
theorem dX3_findReached_138 : decode cX3_findReached 138 = .ok (.goto (-96), 3) := by decide +kernel
theorem dX3_findReached_141 : decode cX3_findReached 141 = .ok (.return_, 1) := by decide +kernel
theorem dX3_hasEdge_0 : decode cX3_hasEdge 0 = .ok (.iload_n 1, 1) := by decide +kernel
theorem dX3_hasEdge_1 : decode cX3_hasEdge 1 = .ok (.ifCond .lt 11, 3) := by decide +kernel
theorem dX3_hasEdge_4 : decode cX3_hasEdge 4 = .ok (.iload_n 1, 1) := by decide +kernel
theorem dX3_hasEdge_5 : decode cX3_hasEdge 5 = .ok (.aload_n 0, 1) := by decide +kernel
theorem dX3_hasEdge_6 : decode cX3_hasEdge 6 = .ok (.getfield 78, 3) := by decide +kernel
theorem dX3_hasEdge_9 : decode cX3_hasEdge 9 = .ok (.if_icmp .lt 5, 3) := by decide +kernel
theorem dX3_hasEdge_12 : decode cX3_hasEdge 12 = .ok (.iconst 0, 1) := by decide +kernel
theorem dX3_hasEdge_13 : decode cX3_hasEdge 13 = .ok (.ireturn, 1) := by decide +kernel
theorem dX3_hasEdge_14 : decode cX3_hasEdge 14 = .ok (.aload_n 0, 1) := by decide +kernel
theorem dX3_hasEdge_15 : decode cX3_hasEdge 15 = .ok (.getfield 18, 3) := by decide +kernel
theorem dX3_hasEdge_18 : decode cX3_hasEdge 18 = .ok (.iload_n 1, 1) := by decide +kernel
theorem dX3_hasEdge_19 : decode cX3_hasEdge 19 = .ok (.iaload, 1) := by decide +kernel
theorem dX3_hasEdge_20 : decode cX3_hasEdge 20 = .ok (.istore_n 3, 1) := by decide +kernel
theorem dX3_hasEdge_21 : decode cX3_hasEdge 21 = .ok (.iload_n 3, 1) := by decide +kernel
theorem dX3_hasEdge_22 : decode cX3_hasEdge 22 = .ok (.aload_n 0, 1) := by decide +kernel
theorem dX3_hasEdge_23 : decode cX3_hasEdge 23 = .ok (.getfield 18, 3) := by decide +kernel
theorem dX3_hasEdge_26 : decode cX3_hasEdge 26 = .ok (.iload_n 1, 1) := by decide +kernel
theorem dX3_hasEdge_27 : decode cX3_hasEdge 27 = .ok (.iconst 1, 1) := by decide +kernel
theorem dX3_hasEdge_28 : decode cX3_hasEdge 28 = .ok (.iadd, 1) := by decide +kernel
theorem dX3_hasEdge_29 : decode cX3_hasEdge 29 = .ok (.iaload, 1) := by decide +kernel
theorem dX3_hasEdge_30 : decode cX3_hasEdge 30 = .ok (.if_icmp .ge 21, 3) := by decide +kernel
theorem dX3_hasEdge_33 : decode cX3_hasEdge 33 = .ok (.aload_n 0, 1) := by decide +kernel
theorem dX3_hasEdge_34 : decode cX3_hasEdge 34 = .ok (.getfield 21, 3) := by decide +kernel
theorem dX3_hasEdge_37 : decode cX3_hasEdge 37 = .ok (.iload_n 3, 1) := by decide +kernel
theorem dX3_hasEdge_38 : decode cX3_hasEdge 38 = .ok (.iaload, 1) := by decide +kernel
theorem dX3_hasEdge_39 : decode cX3_hasEdge 39 = .ok (.iload_n 2, 1) := by decide +kernel
theorem dX3_hasEdge_40 : decode cX3_hasEdge 40 = .ok (.if_icmp .ne 5, 3) := by decide +kernel
theorem dX3_hasEdge_43 : decode cX3_hasEdge 43 = .ok (.iconst 1, 1) := by decide +kernel
theorem dX3_hasEdge_44 : decode cX3_hasEdge 44 = .ok (.ireturn, 1) := by decide +kernel
theorem dX3_hasEdge_45 : decode cX3_hasEdge 45 = .ok (.iinc 3 1, 3) := by decide +kernel
theorem dX3_hasEdge_48 : decode cX3_hasEdge 48 = .ok (.goto (-27), 3) := by decide +kernel
theorem dX3_hasEdge_51 : decode cX3_hasEdge 51 = .ok (.iconst 0, 1) := by decide +kernel
theorem dX3_hasEdge_52 : decode cX3_hasEdge 52 = .ok (.ireturn, 1) := by decide +kernel
theorem dX3_init_0 : decode cX3_init 0 = .ok (.aload_n 0, 1) := by decide +kernel
theorem dX3_init_1 : decode cX3_init 1 = .ok (.invokespecial 3, 3) := by decide +kernel
theorem dX3_init_4 : decode cX3_init 4 = .ok (.aload_n 0, 1) := by decide +kernel
theorem dX3_init_5 : decode cX3_init 5 = .ok (.iconst 0, 1) := by decide +kernel
theorem dX3_init_6 : decode cX3_init 6 = .ok (.newarray .int, 2) := by decide +kernel
theorem dX3_init_8 : decode cX3_init 8 = .ok (.putfield 9, 3) := by decide +kernel
theorem dX3_init_11 : decode cX3_init 11 = .ok (.aload_n 0, 1) := by decide +kernel
theorem dX3_init_12 : decode cX3_init 12 = .ok (.iconst 0, 1) := by decide +kernel
theorem dX3_init_13 : decode cX3_init 13 = .ok (.newarray .int, 2) := by decide +kernel
theorem dX3_init_15 : decode cX3_init 15 = .ok (.putfield 15, 3) := by decide +kernel
theorem dX3_init_18 : decode cX3_init 18 = .ok (.aload_n 0, 1) := by decide +kernel
theorem dX3_init_19 : decode cX3_init 19 = .ok (.iconst 0, 1) := by decide +kernel
theorem dX3_init_20 : decode cX3_init 20 = .ok (.newarray .int, 2) := by decide +kernel
theorem dX3_init_22 : decode cX3_init 22 = .ok (.putfield 18, 3) := by decide +kernel
theorem dX3_init_25 : decode cX3_init 25 = .ok (.aload_n 0, 1) := by decide +kernel
theorem dX3_init_26 : decode cX3_init 26 = .ok (.bipush 16, 2) := by decide +kernel
theorem dX3_init_28 : decode cX3_init 28 = .ok (.newarray .int, 2) := by decide +kernel
theorem dX3_init_30 : decode cX3_init 30 = .ok (.putfield 21, 3) := by decide +kernel
theorem dX3_init_33 : decode cX3_init 33 = .ok (.aload_n 0, 1) := by decide +kernel
theorem dX3_init_34 : decode cX3_init 34 = .ok (.iconst 0, 1) := by decide +kernel
theorem dX3_init_35 : decode cX3_init 35 = .ok (.newarray .int, 2) := by decide +kernel
theorem dX3_init_37 : decode cX3_init 37 = .ok (.putfield 24, 3) := by decide +kernel
theorem dX3_init_40 : decode cX3_init 40 = .ok (.aload_n 0, 1) := by decide +kernel
theorem dX3_init_41 : decode cX3_init 41 = .ok (.iconst 0, 1) := by decide +kernel
theorem dX3_init_42 : decode cX3_init 42 = .ok (.newarray .int, 2) := by decide +kernel
theorem dX3_init_44 : decode cX3_init 44 = .ok (.putfield 27, 3) := by decide +kernel
theorem dX3_init_47 : decode cX3_init 47 = .ok (.aload_n 0, 1) := by decide +kernel
theorem dX3_init_48 : decode cX3_init 48 = .ok (.iconst 0, 1) := by decide +kernel
theorem dX3_init_49 : decode cX3_init 49 = .ok (.newarray .boolean, 2) := by decide +kernel
theorem dX3_init_51 : decode cX3_init 51 = .ok (.putfield 30, 3) := by decide +kernel
theorem dX3_init_54 : decode cX3_init 54 = .ok (.aload_n 0, 1) := by decide +kernel
theorem dX3_init_55 : decode cX3_init 55 = .ok (.iconst 0, 1) := by decide +kernel
theorem dX3_init_56 : decode cX3_init 56 = .ok (.newarray .long, 2) := by decide +kernel
theorem dX3_init_58 : decode cX3_init 58 = .ok (.putfield 34, 3) := by decide +kernel
theorem dX3_init_61 : decode cX3_init 61 = .ok (.aload_n 0, 1) := by decide +kernel
theorem dX3_init_62 : decode cX3_init 62 = .ok (.iconst 0, 1) := by decide +kernel
theorem dX3_init_63 : decode cX3_init 63 = .ok (.newarray .int, 2) := by decide +kernel
theorem dX3_init_65 : decode cX3_init 65 = .ok (.putfield 38, 3) := by decide +kernel
theorem dX3_init_68 : decode cX3_init 68 = .ok (.aload_n 0, 1) := by decide +kernel
theorem dX3_init_69 : decode cX3_init 69 = .ok (.iconst 0, 1) := by decide +kernel
theorem dX3_init_70 : decode cX3_init 70 = .ok (.newarray .int, 2) := by decide +kernel
theorem dX3_init_72 : decode cX3_init 72 = .ok (.putfield 41, 3) := by decide +kernel
theorem dX3_init_75 : decode cX3_init 75 = .ok (.aload_n 0, 1) := by decide +kernel
theorem dX3_init_76 : decode cX3_init 76 = .ok (.iconst 0, 1) := by decide +kernel
theorem dX3_init_77 : decode cX3_init 77 = .ok (.newarray .int, 2) := by decide +kernel
theorem dX3_init_79 : decode cX3_init 79 = .ok (.putfield 44, 3) := by decide +kernel
theorem dX3_init_82 : decode cX3_init 82 = .ok (.aload_n 0, 1) := by decide +kernel
theorem dX3_init_83 : decode cX3_init 83 = .ok (.iconst 0, 1) := by decide +kernel
theorem dX3_init_84 : decode cX3_init 84 = .ok (.newarray .int, 2) := by decide +kernel
theorem dX3_init_86 : decode cX3_init 86 = .ok (.putfield 47, 3) := by decide +kernel
theorem dX3_init_89 : decode cX3_init 89 = .ok (.aload_n 0, 1) := by decide +kernel
theorem dX3_init_90 : decode cX3_init 90 = .ok (.iconst 0, 1) := by decide +kernel
theorem dX3_init_91 : decode cX3_init 91 = .ok (.newarray .int, 2) := by decide +kernel
theorem dX3_init_93 : decode cX3_init 93 = .ok (.putfield 50, 3) := by decide +kernel
theorem dX3_init_96 : decode cX3_init 96 = .ok (.return_, 1) := by decide +kernel
theorem dX3_isReached_0 : decode cX3_isReached 0 = .ok (.iload_n 1, 1) := by decide +kernel
theorem dX3_isReached_1 : decode cX3_isReached 1 = .ok (.ifCond .lt 24, 3) := by decide +kernel
theorem dX3_isReached_4 : decode cX3_isReached 4 = .ok (.iload_n 1, 1) := by decide +kernel
theorem dX3_isReached_5 : decode cX3_isReached 5 = .ok (.aload_n 0, 1) := by decide +kernel
theorem dX3_isReached_6 : decode cX3_isReached 6 = .ok (.getfield 78, 3) := by decide +kernel
theorem dX3_isReached_9 : decode cX3_isReached 9 = .ok (.if_icmp .ge 16, 3) := by decide +kernel
theorem dX3_isReached_12 : decode cX3_isReached 12 = .ok (.aload_n 0, 1) := by decide +kernel
theorem dX3_isReached_13 : decode cX3_isReached 13 = .ok (.getfield 30, 3) := by decide +kernel
theorem dX3_isReached_16 : decode cX3_isReached 16 = .ok (.iload_n 1, 1) := by decide +kernel

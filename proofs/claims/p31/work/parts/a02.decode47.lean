theorem dX3_findReached_46 : decode cX3_findReached 46 = .ok (.iload_n 2, 1) := by decide +kernel
theorem dX3_findReached_47 : decode cX3_findReached 47 = .ok (.aload_n 0, 1) := by decide +kernel
theorem dX3_findReached_48 : decode cX3_findReached 48 = .ok (.getfield 78, 3) := by decide +kernel
theorem dX3_findReached_51 : decode cX3_findReached 51 = .ok (.if_icmp .ge 90, 3) := by decide +kernel
theorem dX3_findReached_54 : decode cX3_findReached 54 = .ok (.iinc 1 (-1), 3) := by decide +kernel
theorem dX3_findReached_57 : decode cX3_findReached 57 = .ok (.aload_n 0, 1) := by decide +kernel
theorem dX3_findReached_58 : decode cX3_findReached 58 = .ok (.getfield 50, 3) := by decide +kernel
theorem dX3_findReached_61 : decode cX3_findReached 61 = .ok (.iload_n 1, 1) := by decide +kernel
theorem dX3_findReached_62 : decode cX3_findReached 62 = .ok (.iaload, 1) := by decide +kernel
theorem dX3_findReached_63 : decode cX3_findReached 63 = .ok (.istore_n 3, 1) := by decide +kernel
theorem dX3_findReached_64 : decode cX3_findReached 64 = .ok (.aload_n 0, 1) := by decide +kernel
theorem dX3_findReached_65 : decode cX3_findReached 65 = .ok (.getfield 18, 3) := by decide +kernel
theorem dX3_findReached_68 : decode cX3_findReached 68 = .ok (.iload_n 3, 1) := by decide +kernel
theorem dX3_findReached_69 : decode cX3_findReached 69 = .ok (.iaload, 1) := by decide +kernel
theorem dX3_findReached_70 : decode cX3_findReached 70 = .ok (.istore 4, 2) := by decide +kernel
theorem dX3_findReached_72 : decode cX3_findReached 72 = .ok (.iload 4, 2) := by decide +kernel
theorem dX3_findReached_74 : decode cX3_findReached 74 = .ok (.aload_n 0, 1) := by decide +kernel
theorem dX3_findReached_75 : decode cX3_findReached 75 = .ok (.getfield 18, 3) := by decide +kernel
theorem dX3_findReached_78 : decode cX3_findReached 78 = .ok (.iload_n 3, 1) := by decide +kernel
theorem dX3_findReached_79 : decode cX3_findReached 79 = .ok (.iconst 1, 1) := by decide +kernel
theorem dX3_findReached_80 : decode cX3_findReached 80 = .ok (.iadd, 1) := by decide +kernel
theorem dX3_findReached_81 : decode cX3_findReached 81 = .ok (.iaload, 1) := by decide +kernel
theorem dX3_findReached_82 : decode cX3_findReached 82 = .ok (.if_icmp .ge 53, 3) := by decide +kernel
theorem dX3_findReached_85 : decode cX3_findReached 85 = .ok (.aload_n 0, 1) := by decide +kernel
theorem dX3_findReached_86 : decode cX3_findReached 86 = .ok (.getfield 30, 3) := by decide +kernel
theorem dX3_findReached_89 : decode cX3_findReached 89 = .ok (.aload_n 0, 1) := by decide +kernel
theorem dX3_findReached_90 : decode cX3_findReached 90 = .ok (.getfield 21, 3) := by decide +kernel
theorem dX3_findReached_93 : decode cX3_findReached 93 = .ok (.iload 4, 2) := by decide +kernel
theorem dX3_findReached_95 : decode cX3_findReached 95 = .ok (.iaload, 1) := by decide +kernel
theorem dX3_findReached_96 : decode cX3_findReached 96 = .ok (.baload, 1) := by decide +kernel
theorem dX3_findReached_97 : decode cX3_findReached 97 = .ok (.ifCond .ne 32, 3) := by decide +kernel
theorem dX3_findReached_100 : decode cX3_findReached 100 = .ok (.aload_n 0, 1) := by decide +kernel
theorem dX3_findReached_101 : decode cX3_findReached 101 = .ok (.getfield 30, 3) := by decide +kernel
theorem dX3_findReached_104 : decode cX3_findReached 104 = .ok (.aload_n 0, 1) := by decide +kernel
theorem dX3_findReached_105 : decode cX3_findReached 105 = .ok (.getfield 21, 3) := by decide +kernel
theorem dX3_findReached_108 : decode cX3_findReached 108 = .ok (.iload 4, 2) := by decide +kernel
theorem dX3_findReached_110 : decode cX3_findReached 110 = .ok (.iaload, 1) := by decide +kernel
theorem dX3_findReached_111 : decode cX3_findReached 111 = .ok (.iconst 1, 1) := by decide +kernel
theorem dX3_findReached_112 : decode cX3_findReached 112 = .ok (.bastore, 1) := by decide +kernel
theorem dX3_findReached_113 : decode cX3_findReached 113 = .ok (.aload_n 0, 1) := by decide +kernel
theorem dX3_findReached_114 : decode cX3_findReached 114 = .ok (.getfield 50, 3) := by decide +kernel
theorem dX3_findReached_117 : decode cX3_findReached 117 = .ok (.iload_n 1, 1) := by decide +kernel
theorem dX3_findReached_118 : decode cX3_findReached 118 = .ok (.aload_n 0, 1) := by decide +kernel
theorem dX3_findReached_119 : decode cX3_findReached 119 = .ok (.getfield 21, 3) := by decide +kernel
theorem dX3_findReached_122 : decode cX3_findReached 122 = .ok (.iload 4, 2) := by decide +kernel
theorem dX3_findReached_124 : decode cX3_findReached 124 = .ok (.iaload, 1) := by decide +kernel
theorem dX3_findReached_125 : decode cX3_findReached 125 = .ok (.iastore, 1) := by decide +kernel
theorem dX3_findReached_126 : decode cX3_findReached 126 = .ok (.iinc 1 1, 3) := by decide +kernel
theorem dX3_findReached_129 : decode cX3_findReached 129 = .ok (.iinc 4 1, 3) := by decide +kernel
theorem dX3_findReached_132 : decode cX3_findReached 132 = .ok (.goto (-60), 3) := by decide +kernel
theorem dX3_findReached_135 : decode cX3_findReached 135 = .ok (.iinc 2 1, 3) := by decide +kernel
theorem dX3_findReached_138 : decode cX3_findReached 138 = .ok (.goto (-96), 3) := by decide +kernel
theorem dX3_findReached_141 : decode cX3_findReached 141 = .ok (.return_, 1) := by decide +kernel
theorem dX3_hasEdge_0 : decode cX3_hasEdge 0 = .ok (.iload_n 1, 1) := by decide +kernel
theorem dX3_hasEdge_1 : decode cX3_hasEdge 1 = .ok (.ifCond .lt 11, 3) := by decide +kernel
theorem dX3_hasEdge_4 : decode cX3_hasEdge 4 = .ok (.iload_n 1, 1) := by decide +kernel
theorem dX3_hasEdge_5 : decode cX3_hasEdge 5 = .ok (.aload_n 0, 1) := by decide +kernel
theorem dX3_hasEdge_6 : decode cX3_hasEdge 6 = .ok (.getfield 78, 3) := by decide +kernel
theorem dX3_hasEdge_9 : decode cX3_hasEdge 9 = .ok (.if_icmp .lt 5, 3) := by decide +kernel
theorem dX3_hasEdge_12 : decode cX3_hasEdge 12 = .ok (.iconst 0, 1) := by decide +kernel
theorem dX3_hasEdge_13 : decode cX3_hasEdge 13 = .ok (.ireturn, 1) := by decide +kernel
theorem dX3_hasEdge_14 : decode cX3_hasEdge 14 = .ok (.aload_n 0, 1) := by decide +kernel
theorem dX3_hasEdge_15 : decode cX3_hasEdge 15 = .ok (.getfield 18, 3) := by decide +kernel
theorem dX3_hasEdge_18 : decode cX3_hasEdge 18 = .ok (.iload_n 1, 1) := by decide +kernel
theorem dX3_hasEdge_19 : decode cX3_hasEdge 19 = .ok (.iaload, 1) := by decide +kernel
theorem dX3_hasEdge_20 : decode cX3_hasEdge 20 = .ok (.istore_n 3, 1) := by decide +kernel
theorem dX3_hasEdge_21 : decode cX3_hasEdge 21 = .ok (.iload_n 3, 1) := by decide +kernel
theorem dX3_hasEdge_22 : decode cX3_hasEdge 22 = .ok (.aload_n 0, 1) := by decide +kernel
theorem dX3_hasEdge_23 : decode cX3_hasEdge 23 = .ok (.getfield 18, 3) := by decide +kernel
theorem dX3_hasEdge_26 : decode cX3_hasEdge 26 = .ok (.iload_n 1, 1) := by decide +kernel
theorem dX3_hasEdge_27 : decode cX3_hasEdge 27 = .ok (.iconst 1, 1) := by decide +kernel
theorem dX3_hasEdge_28 : decode cX3_hasEdge 28 = .ok (.iadd, 1) := by decide +kernel
theorem dX3_hasEdge_29 : decode cX3_hasEdge 29 = .ok (.iaload, 1) := by decide +kernel
theorem dX3_hasEdge_30 : decode cX3_hasEdge 30 = .ok (.if_icmp .ge 21, 3) := by decide +kernel
theorem dX3_hasEdge_33 : decode cX3_hasEdge 33 = .ok (.aload_n 0, 1) := by decide +kernel
theorem dX3_hasEdge_34 : decode cX3_hasEdge 34 = .ok (.getfield 21, 3) := by decide +kernel
theorem dX3_hasEdge_37 : decode cX3_hasEdge 37 = .ok (.iload_n 3, 1) := by decide +kernel
theorem dX3_hasEdge_38 : decode cX3_hasEdge 38 = .ok (.iaload, 1) := by decide +kernel
theorem dX3_hasEdge_39 : decode cX3_hasEdge 39 = .ok (.iload_n 2, 1) := by decide +kernel
theorem dX3_hasEdge_40 : decode cX3_hasEdge 40 = .ok (.if_icmp .ne 5, 3) := by decide +kernel
theorem dX3_hasEdge_43 : decode cX3_hasEdge 43 = .ok (.iconst 1, 1) := by decide +kernel
theorem dX3_hasEdge_44 : decode cX3_hasEdge 44 = .ok (.ireturn, 1) := by decide +kernel
theorem dX3_hasEdge_45 : decode cX3_hasEdge 45 = .ok (.iinc 3 1, 3) := by decide +kernel
theorem dX3_hasEdge_48 : decode cX3_hasEdge 48 = .ok (.goto (-27), 3) := by decide +kernel
theorem dX3_hasEdge_51 : decode cX3_hasEdge 51 = .ok (.iconst 0, 1) := by decide +kernel
theorem dX3_hasEdge_52 : decode cX3_hasEdge 52 = .ok (.ireturn, 1) := by decide +kernel
theorem dX3_init_0 : decode cX3_init 0 = .ok (.aload_n 0, 1) := by decide +kernel
theorem dX3_init_1 : decode cX3_init 1 = .ok (.invokespecial 3, 3) := by decide +kernel
theorem dX3_init_4 : decode cX3_init 4 = .ok (.aload_n 0, 1) := by decide +kernel
theorem dX3_init_5 : decode cX3_init 5 = .ok (.iconst 0, 1) := by decide +kernel
theorem dX3_init_6 : decode cX3_init 6 = .ok (.newarray .int, 2) := by decide +kernel
theorem dX3_init_8 : decode cX3_init 8 = .ok (.putfield 9, 3) := by decide +kernel
theorem dX3_init_11 : decode cX3_init 11 = .ok (.aload_n 0, 1) := by decide +kernel
theorem dX3_init_12 : decode cX3_init 12 = .ok (.iconst 0, 1) := by decide +kernel
theorem dX3_init_13 : decode cX3_init 13 = .ok (.newarray .int, 2) := by decide +kernel
theorem dX3_init_15 : decode cX3_init 15 = .ok (.putfield 15, 3) := by decide +kernel
theorem dX3_init_18 : decode cX3_init 18 = .ok (.aload_n 0, 1) := by decide +kernel
theorem dX3_init_19 : decode cX3_init 19 = .ok (.iconst 0, 1) := by decide +kernel
theorem dX3_init_20 : decode cX3_init 20 = .ok (.newarray .int, 2) := by decide +kernel
theorem dX3_init_22 : decode cX3_init 22 = .ok (.putfield 18, 3) := by decide +kernel
theorem dX3_init_25 : decode cX3_init 25 = .ok (.aload_n 0, 1) := by decide +kernel
theorem dX3_init_26 : decode cX3_init 26 = .ok (.bipush 16, 2) := by decide +kernel
theorem dX3_init_28 : decode cX3_init 28 = .ok (.newarray .int, 2) := by decide +kernel
theorem dX3_init_30 : decode cX3_init 30 = .ok (.putfield 21, 3) := by decide +kernel
theorem dX3_init_33 : decode cX3_init 33 = .ok (.aload_n 0, 1) := by decide +kernel
theorem dX3_init_34 : decode cX3_init 34 = .ok (.iconst 0, 1) := by decide +kernel
theorem dX3_init_35 : decode cX3_init 35 = .ok (.newarray .int, 2) := by decide +kernel
theorem dX3_init_37 : decode cX3_init 37 = .ok (.putfield 24, 3) := by decide +kernel
theorem dX3_init_40 : decode cX3_init 40 = .ok (.aload_n 0, 1) := by decide +kernel
theorem dX3_init_41 : decode cX3_init 41 = .ok (.iconst 0, 1) := by decide +kernel
theorem dX3_init_42 : decode cX3_init 42 = .ok (.newarray .int, 2) := by decide +kernel
theorem dX3_init_44 : decode cX3_init 44 = .ok (.putfield 27, 3) := by decide +kernel
theorem dX3_init_47 : decode cX3_init 47 = .ok (.aload_n 0, 1) := by decide +kernel
theorem dX3_init_48 : decode cX3_init 48 = .ok (.iconst 0, 1) := by decide +kernel
theorem dX3_init_49 : decode cX3_init 49 = .ok (.newarray .boolean, 2) := by decide +kernel
theorem dX3_init_51 : decode cX3_init 51 = .ok (.putfield 30, 3) := by decide +kernel
theorem dX3_init_54 : decode cX3_init 54 = .ok (.aload_n 0, 1) := by decide +kernel
theorem dX3_init_55 : decode cX3_init 55 = .ok (.iconst 0, 1) := by decide +kernel
theorem dX3_init_56 : decode cX3_init 56 = .ok (.newarray .long, 2) := by decide +kernel
theorem dX3_init_58 : decode cX3_init 58 = .ok (.putfield 34, 3) := by decide +kernel
theorem dX3_init_61 : decode cX3_init 61 = .ok (.aload_n 0, 1) := by decide +kernel
theorem dX3_init_62 : decode cX3_init 62 = .ok (.iconst 0, 1) := by decide +kernel
theorem dX3_init_63 : decode cX3_init 63 = .ok (.newarray .int, 2) := by decide +kernel
theorem dX3_init_65 : decode cX3_init 65 = .ok (.putfield 38, 3) := by decide +kernel
theorem dX3_init_68 : decode cX3_init 68 = .ok (.aload_n 0, 1) := by decide +kernel
theorem dX3_init_69 : decode cX3_init 69 = .ok (.iconst 0, 1) := by decide +kernel
theorem dX3_init_70 : decode cX3_init 70 = .ok (.newarray .int, 2) := by decide +kernel
theorem dX3_init_72 : decode cX3_init 72 = .ok (.putfield 41, 3) := by decide +kernel
theorem dX3_init_75 : decode cX3_init 75 = .ok (.aload_n 0, 1) := by decide +kernel
theorem dX3_init_76 : decode cX3_init 76 = .ok (.iconst 0, 1) := by decide +kernel
theorem dX3_init_77 : decode cX3_init 77 = .ok (.newarray .int, 2) := by decide +kernel
theorem dX3_init_79 : decode cX3_init 79 = .ok (.putfield 44, 3) := by decide +kernel
theorem dX3_init_82 : decode cX3_init 82 = .ok (.aload_n 0, 1) := by decide +kernel
theorem dX3_init_83 : decode cX3_init 83 = .ok (.iconst 0, 1) := by decide +kernel
theorem dX3_init_84 : decode cX3_init 84 = .ok (.newarray .int, 2) := by decide +kernel
theorem dX3_init_86 : decode cX3_init 86 = .ok (.putfield 47, 3) := by decide +kernel
theorem dX3_init_89 : decode cX3_init 89 = .ok (.aload_n 0, 1) := by decide +kernel
theorem dX3_init_90 : decode cX3_init 90 = .ok (.iconst 0, 1) := by decide +kernel
theorem dX3_init_91 : decode cX3_init 91 = .ok (.newarray .int, 2) := by decide +kernel
theorem dX3_init_93 : decode cX3_init 93 = .ok (.putfield 50, 3) := by decide +kernel
theorem dX3_init_96 : decode cX3_init 96 = .ok (.return_, 1) := by decide +kernel
theorem dX3_isReached_0 : decode cX3_isReached 0 = .ok (.iload_n 1, 1) := by decide +kernel
theorem dX3_isReached_1 : decode cX3_isReached 1 = .ok (.ifCond .lt 24, 3) := by decide +kernel
theorem dX3_isReached_4 : decode cX3_isReached 4 = .ok (.iload_n 1, 1) := by decide +kernel
theorem dX3_isReached_5 : decode cX3_isReached 5 = .ok (.aload_n 0, 1) := by decide +kernel
theorem dX3_isReached_6 : decode cX3_isReached 6 = .ok (.getfield 78, 3) := by decide +kernel
theorem dX3_isReached_9 : decode cX3_isReached 9 = .ok (.if_icmp .ge 16, 3) := by decide +kernel
theorem dX3_isReached_12 : decode cX3_isReached 12 = .ok (.aload_n 0, 1) := by decide +kernel
theorem dX3_isReached_13 : decode cX3_isReached 13 = .ok (.getfield 30, 3) := by decide +kernel
theorem dX3_isReached_16 : decode cX3_isReached 16 = .ok (.iload_n 1, 1) := by decide +kernel
theorem dX3_isReached_17 : decode cX3_isReached 17 = .ok (.baload, 1) := by decide +kernel
theorem dX3_isReached_18 : decode cX3_isReached 18 = .ok (.ifCond .eq 7, 3) := by decide +kernel
theorem dX3_isReached_21 : decode cX3_isReached 21 = .ok (.iconst 1, 1) := by decide +kernel
theorem dX3_isReached_22 : decode cX3_isReached 22 = .ok (.goto 4, 3) := by decide +kernel
theorem dX3_isReached_25 : decode cX3_isReached 25 = .ok (.iconst 0, 1) := by decide +kernel
theorem dX3_isReached_26 : decode cX3_isReached 26 = .ok (.ireturn, 1) := by decide +kernel
theorem dX3_lastOf_0 : decode cX3_lastOf 0 = .ok (.iload_n 1, 1) := by decide +kernel
theorem dX3_lastOf_1 : decode cX3_lastOf 1 = .ok (.iconst 1, 1) := by decide +kernel
theorem dX3_lastOf_2 : decode cX3_lastOf 2 = .ok (.iadd, 1) := by decide +kernel
theorem dX3_lastOf_3 : decode cX3_lastOf 3 = .ok (.aload_n 0, 1) := by decide +kernel
theorem dX3_lastOf_4 : decode cX3_lastOf 4 = .ok (.getfield 78, 3) := by decide +kernel
theorem dX3_lastOf_7 : decode cX3_lastOf 7 = .ok (.if_icmp .ge 14, 3) := by decide +kernel
theorem dX3_lastOf_10 : decode cX3_lastOf 10 = .ok (.aload_n 0, 1) := by decide +kernel
theorem dX3_lastOf_11 : decode cX3_lastOf 11 = .ok (.getfield 9, 3) := by decide +kernel
theorem dX3_lastOf_14 : decode cX3_lastOf 14 = .ok (.iload_n 1, 1) := by decide +kernel
theorem dX3_lastOf_15 : decode cX3_lastOf 15 = .ok (.iconst 1, 1) := by decide +kernel
theorem dX3_lastOf_16 : decode cX3_lastOf 16 = .ok (.iadd, 1) := by decide +kernel
theorem dX3_lastOf_17 : decode cX3_lastOf 17 = .ok (.iaload, 1) := by decide +kernel
theorem dX3_lastOf_18 : decode cX3_lastOf 18 = .ok (.goto 10, 3) := by decide +kernel
theorem dX3_lastOf_21 : decode cX3_lastOf 21 = .ok (.aload_n 0, 1) := by decide +kernel
theorem dX3_lastOf_22 : decode cX3_lastOf 22 = .ok (.getfield 53, 3) := by decide +kernel
theorem dX3_lastOf_25 : decode cX3_lastOf 25 = .ok (.getfield 82, 3) := by decide +kernel
theorem dX3_lastOf_28 : decode cX3_lastOf 28 = .ok (.iconst 1, 1) := by decide +kernel
theorem dX3_lastOf_29 : decode cX3_lastOf 29 = .ok (.isub, 1) := by decide +kernel
theorem dX3_lastOf_30 : decode cX3_lastOf 30 = .ok (.ireturn, 1) := by decide +kernel
theorem dX3_makeRoom_0 : decode cX3_makeRoom 0 = .ok (.aload_n 0, 1) := by decide +kernel
theorem dX3_makeRoom_1 : decode cX3_makeRoom 1 = .ok (.getfield 44, 3) := by decide +kernel
theorem dX3_makeRoom_4 : decode cX3_makeRoom 4 = .ok (.arraylength, 1) := by decide +kernel
theorem dX3_makeRoom_5 : decode cX3_makeRoom 5 = .ok (.aload_n 0, 1) := by decide +kernel
theorem dX3_makeRoom_6 : decode cX3_makeRoom 6 = .ok (.getfield 78, 3) := by decide +kernel
theorem dX3_makeRoom_9 : decode cX3_makeRoom 9 = .ok (.if_icmp .ge 70, 3) := by decide +kernel
theorem dX3_makeRoom_12 : decode cX3_makeRoom 12 = .ok (.iconst 2, 1) := by decide +kernel
theorem dX3_makeRoom_13 : decode cX3_makeRoom 13 = .ok (.aload_n 0, 1) := by decide +kernel
theorem dX3_makeRoom_14 : decode cX3_makeRoom 14 = .ok (.getfield 78, 3) := by decide +kernel
theorem dX3_makeRoom_17 : decode cX3_makeRoom 17 = .ok (.imul, 1) := by decide +kernel
theorem dX3_makeRoom_18 : decode cX3_makeRoom 18 = .ok (.istore_n 1, 1) := by decide +kernel
theorem dX3_makeRoom_19 : decode cX3_makeRoom 19 = .ok (.aload_n 0, 1) := by decide +kernel
theorem dX3_makeRoom_20 : decode cX3_makeRoom 20 = .ok (.iload_n 1, 1) := by decide +kernel
theorem dX3_makeRoom_21 : decode cX3_makeRoom 21 = .ok (.iconst 1, 1) := by decide +kernel
theorem dX3_makeRoom_22 : decode cX3_makeRoom 22 = .ok (.iadd, 1) := by decide +kernel
theorem dX3_makeRoom_23 : decode cX3_makeRoom 23 = .ok (.newarray .int, 2) := by decide +kernel
theorem dX3_makeRoom_25 : decode cX3_makeRoom 25 = .ok (.putfield 18, 3) := by decide +kernel
theorem dX3_makeRoom_28 : decode cX3_makeRoom 28 = .ok (.aload_n 0, 1) := by decide +kernel
theorem dX3_makeRoom_29 : decode cX3_makeRoom 29 = .ok (.iload_n 1, 1) := by decide +kernel
theorem dX3_makeRoom_30 : decode cX3_makeRoom 30 = .ok (.iconst 1, 1) := by decide +kernel
theorem dX3_makeRoom_31 : decode cX3_makeRoom 31 = .ok (.iadd, 1) := by decide +kernel
theorem dX3_makeRoom_32 : decode cX3_makeRoom 32 = .ok (.newarray .int, 2) := by decide +kernel
theorem dX3_makeRoom_34 : decode cX3_makeRoom 34 = .ok (.putfield 24, 3) := by decide +kernel
theorem dX3_makeRoom_37 : decode cX3_makeRoom 37 = .ok (.aload_n 0, 1) := by decide +kernel
theorem dX3_makeRoom_38 : decode cX3_makeRoom 38 = .ok (.iload_n 1, 1) := by decide +kernel
theorem dX3_makeRoom_39 : decode cX3_makeRoom 39 = .ok (.newarray .boolean, 2) := by decide +kernel
theorem dX3_makeRoom_41 : decode cX3_makeRoom 41 = .ok (.putfield 30, 3) := by decide +kernel
theorem dX3_makeRoom_44 : decode cX3_makeRoom 44 = .ok (.aload_n 0, 1) := by decide +kernel
theorem dX3_makeRoom_45 : decode cX3_makeRoom 45 = .ok (.iload_n 1, 1) := by decide +kernel
theorem dX3_makeRoom_46 : decode cX3_makeRoom 46 = .ok (.newarray .int, 2) := by decide +kernel
theorem dX3_makeRoom_48 : decode cX3_makeRoom 48 = .ok (.putfield 38, 3) := by decide +kernel
theorem dX3_makeRoom_51 : decode cX3_makeRoom 51 = .ok (.aload_n 0, 1) := by decide +kernel
theorem dX3_makeRoom_52 : decode cX3_makeRoom 52 = .ok (.iload_n 1, 1) := by decide +kernel
theorem dX3_makeRoom_53 : decode cX3_makeRoom 53 = .ok (.newarray .int, 2) := by decide +kernel
theorem dX3_makeRoom_55 : decode cX3_makeRoom 55 = .ok (.putfield 41, 3) := by decide +kernel
theorem dX3_makeRoom_58 : decode cX3_makeRoom 58 = .ok (.aload_n 0, 1) := by decide +kernel
theorem dX3_makeRoom_59 : decode cX3_makeRoom 59 = .ok (.iload_n 1, 1) := by decide +kernel
theorem dX3_makeRoom_60 : decode cX3_makeRoom 60 = .ok (.newarray .int, 2) := by decide +kernel
theorem dX3_makeRoom_62 : decode cX3_makeRoom 62 = .ok (.putfield 44, 3) := by decide +kernel
theorem dX3_makeRoom_65 : decode cX3_makeRoom 65 = .ok (.aload_n 0, 1) := by decide +kernel
theorem dX3_makeRoom_66 : decode cX3_makeRoom 66 = .ok (.iload_n 1, 1) := by decide +kernel
theorem dX3_makeRoom_67 : decode cX3_makeRoom 67 = .ok (.newarray .int, 2) := by decide +kernel
theorem dX3_makeRoom_69 : decode cX3_makeRoom 69 = .ok (.putfield 47, 3) := by decide +kernel
theorem dX3_makeRoom_72 : decode cX3_makeRoom 72 = .ok (.aload_n 0, 1) := by decide +kernel
theorem dX3_makeRoom_73 : decode cX3_makeRoom 73 = .ok (.iload_n 1, 1) := by decide +kernel
theorem dX3_makeRoom_74 : decode cX3_makeRoom 74 = .ok (.newarray .int, 2) := by decide +kernel
theorem dX3_makeRoom_76 : decode cX3_makeRoom 76 = .ok (.putfield 50, 3) := by decide +kernel
theorem dX3_makeRoom_79 : decode cX3_makeRoom 79 = .ok (.aload_n 0, 1) := by decide +kernel
theorem dX3_makeRoom_80 : decode cX3_makeRoom 80 = .ok (.aload_n 0, 1) := by decide +kernel
theorem dX3_makeRoom_81 : decode cX3_makeRoom 81 = .ok (.getfield 78, 3) := by decide +kernel
theorem dX3_makeRoom_84 : decode cX3_makeRoom 84 = .ok (.bipush 63, 2) := by decide +kernel
theorem dX3_makeRoom_86 : decode cX3_makeRoom 86 = .ok (.iadd, 1) := by decide +kernel
theorem dX3_makeRoom_87 : decode cX3_makeRoom 87 = .ok (.bipush 64, 2) := by decide +kernel
theorem dX3_makeRoom_89 : decode cX3_makeRoom 89 = .ok (.idiv, 1) := by decide +kernel
theorem dX3_makeRoom_90 : decode cX3_makeRoom 90 = .ok (.putfield 124, 3) := by decide +kernel
theorem dX3_makeRoom_93 : decode cX3_makeRoom 93 = .ok (.aload_n 0, 1) := by decide +kernel
theorem dX3_makeRoom_94 : decode cX3_makeRoom 94 = .ok (.getfield 34, 3) := by decide +kernel
theorem dX3_makeRoom_97 : decode cX3_makeRoom 97 = .ok (.arraylength, 1) := by decide +kernel
theorem dX3_makeRoom_98 : decode cX3_makeRoom 98 = .ok (.aload_n 0, 1) := by decide +kernel
theorem dX3_makeRoom_99 : decode cX3_makeRoom 99 = .ok (.getfield 78, 3) := by decide +kernel
theorem dX3_makeRoom_102 : decode cX3_makeRoom 102 = .ok (.aload_n 0, 1) := by decide +kernel
theorem dX3_makeRoom_103 : decode cX3_makeRoom 103 = .ok (.getfield 124, 3) := by decide +kernel
theorem dX3_makeRoom_106 : decode cX3_makeRoom 106 = .ok (.imul, 1) := by decide +kernel
theorem dX3_makeRoom_107 : decode cX3_makeRoom 107 = .ok (.if_icmp .ge 20, 3) := by decide +kernel
theorem dX3_makeRoom_110 : decode cX3_makeRoom 110 = .ok (.aload_n 0, 1) := by decide +kernel
theorem dX3_makeRoom_111 : decode cX3_makeRoom 111 = .ok (.iconst 2, 1) := by decide +kernel
theorem dX3_makeRoom_112 : decode cX3_makeRoom 112 = .ok (.aload_n 0, 1) := by decide +kernel
theorem dX3_makeRoom_113 : decode cX3_makeRoom 113 = .ok (.getfield 78, 3) := by decide +kernel
theorem dX3_makeRoom_116 : decode cX3_makeRoom 116 = .ok (.imul, 1) := by decide +kernel
theorem dX3_makeRoom_117 : decode cX3_makeRoom 117 = .ok (.aload_n 0, 1) := by decide +kernel
theorem dX3_makeRoom_118 : decode cX3_makeRoom 118 = .ok (.getfield 124, 3) := by decide +kernel
theorem dX3_makeRoom_121 : decode cX3_makeRoom 121 = .ok (.imul, 1) := by decide +kernel
theorem dX3_makeRoom_122 : decode cX3_makeRoom 122 = .ok (.newarray .long, 2) := by decide +kernel
theorem dX3_makeRoom_124 : decode cX3_makeRoom 124 = .ok (.putfield 34, 3) := by decide +kernel
theorem dX3_makeRoom_127 : decode cX3_makeRoom 127 = .ok (.return_, 1) := by decide +kernel
theorem dX3_narrow_0 : decode cX3_narrow 0 = .ok (.iconst 0, 1) := by decide +kernel
theorem dX3_narrow_1 : decode cX3_narrow 1 = .ok (.istore_n 3, 1) := by decide +kernel
theorem dX3_narrow_2 : decode cX3_narrow 2 = .ok (.iconst 0, 1) := by decide +kernel
theorem dX3_narrow_3 : decode cX3_narrow 3 = .ok (.istore 4, 2) := by decide +kernel
theorem dX3_narrow_5 : decode cX3_narrow 5 = .ok (.iload 4, 2) := by decide +kernel
theorem dX3_narrow_7 : decode cX3_narrow 7 = .ok (.aload_n 0, 1) := by decide +kernel
theorem dX3_narrow_8 : decode cX3_narrow 8 = .ok (.getfield 124, 3) := by decide +kernel
theorem dX3_narrow_11 : decode cX3_narrow 11 = .ok (.if_icmp .ge 108, 3) := by decide +kernel
theorem dX3_narrow_14 : decode cX3_narrow 14 = .ok (.iload 4, 2) := by decide +kernel
theorem dX3_narrow_16 : decode cX3_narrow 16 = .ok (.iload_n 1, 1) := by decide +kernel
theorem dX3_narrow_17 : decode cX3_narrow 17 = .ok (.bipush 6, 2) := by decide +kernel
theorem dX3_narrow_19 : decode cX3_narrow 19 = .ok (.ishr, 1) := by decide +kernel
theorem dX3_narrow_20 : decode cX3_narrow 20 = .ok (.if_icmp .ne 12, 3) := by decide +kernel
theorem dX3_narrow_23 : decode cX3_narrow 23 = .ok (.lconst 1, 1) := by decide +kernel
theorem dX3_narrow_24 : decode cX3_narrow 24 = .ok (.iload_n 1, 1) := by decide +kernel
theorem dX3_narrow_25 : decode cX3_narrow 25 = .ok (.bipush 63, 2) := by decide +kernel
theorem dX3_narrow_27 : decode cX3_narrow 27 = .ok (.iand, 1) := by decide +kernel
theorem dX3_narrow_28 : decode cX3_narrow 28 = .ok (.lshl, 1) := by decide +kernel
theorem dX3_narrow_29 : decode cX3_narrow 29 = .ok (.goto 4, 3) := by decide +kernel
theorem dX3_narrow_32 : decode cX3_narrow 32 = .ok (.lconst 0, 1) := by decide +kernel
theorem dX3_narrow_33 : decode cX3_narrow 33 = .ok (.lstore 5, 2) := by decide +kernel
theorem dX3_narrow_35 : decode cX3_narrow 35 = .ok (.aload_n 0, 1) := by decide +kernel
theorem dX3_narrow_36 : decode cX3_narrow 36 = .ok (.getfield 34, 3) := by decide +kernel
theorem dX3_narrow_39 : decode cX3_narrow 39 = .ok (.iload_n 1, 1) := by decide +kernel
theorem dX3_narrow_40 : decode cX3_narrow 40 = .ok (.aload_n 0, 1) := by decide +kernel
theorem dX3_narrow_41 : decode cX3_narrow 41 = .ok (.getfield 124, 3) := by decide +kernel
theorem dX3_narrow_44 : decode cX3_narrow 44 = .ok (.imul, 1) := by decide +kernel
theorem dX3_narrow_45 : decode cX3_narrow 45 = .ok (.iload 4, 2) := by decide +kernel
theorem dX3_narrow_47 : decode cX3_narrow 47 = .ok (.iadd, 1) := by decide +kernel
theorem dX3_narrow_48 : decode cX3_narrow 48 = .ok (.laload, 1) := by decide +kernel
theorem dX3_narrow_49 : decode cX3_narrow 49 = .ok (.aload_n 0, 1) := by decide +kernel
theorem dX3_narrow_50 : decode cX3_narrow 50 = .ok (.getfield 34, 3) := by decide +kernel
theorem dX3_narrow_53 : decode cX3_narrow 53 = .ok (.iload_n 2, 1) := by decide +kernel
theorem dX3_narrow_54 : decode cX3_narrow 54 = .ok (.aload_n 0, 1) := by decide +kernel
theorem dX3_narrow_55 : decode cX3_narrow 55 = .ok (.getfield 124, 3) := by decide +kernel
theorem dX3_narrow_58 : decode cX3_narrow 58 = .ok (.imul, 1) := by decide +kernel
theorem dX3_narrow_59 : decode cX3_narrow 59 = .ok (.iload 4, 2) := by decide +kernel
theorem dX3_narrow_61 : decode cX3_narrow 61 = .ok (.iadd, 1) := by decide +kernel
theorem dX3_narrow_62 : decode cX3_narrow 62 = .ok (.laload, 1) := by decide +kernel
theorem dX3_narrow_63 : decode cX3_narrow 63 = .ok (.lload 5, 2) := by decide +kernel
theorem dX3_narrow_65 : decode cX3_narrow 65 = .ok (.lor, 1) := by decide +kernel
theorem dX3_narrow_66 : decode cX3_narrow 66 = .ok (.land, 1) := by decide +kernel
theorem dX3_narrow_67 : decode cX3_narrow 67 = .ok (.lstore 7, 2) := by decide +kernel
theorem dX3_narrow_69 : decode cX3_narrow 69 = .ok (.iload_n 3, 1) := by decide +kernel
theorem dX3_narrow_70 : decode cX3_narrow 70 = .ok (.lload 7, 2) := by decide +kernel
theorem dX3_narrow_72 : decode cX3_narrow 72 = .ok (.aload_n 0, 1) := by decide +kernel
theorem dX3_narrow_73 : decode cX3_narrow 73 = .ok (.getfield 34, 3) := by decide +kernel
theorem dX3_narrow_76 : decode cX3_narrow 76 = .ok (.iload_n 1, 1) := by decide +kernel
theorem dX3_narrow_77 : decode cX3_narrow 77 = .ok (.aload_n 0, 1) := by decide +kernel
theorem dX3_narrow_78 : decode cX3_narrow 78 = .ok (.getfield 124, 3) := by decide +kernel
theorem dX3_narrow_81 : decode cX3_narrow 81 = .ok (.imul, 1) := by decide +kernel
theorem dX3_narrow_82 : decode cX3_narrow 82 = .ok (.iload 4, 2) := by decide +kernel
theorem dX3_narrow_84 : decode cX3_narrow 84 = .ok (.iadd, 1) := by decide +kernel
theorem dX3_narrow_85 : decode cX3_narrow 85 = .ok (.laload, 1) := by decide +kernel
theorem dX3_narrow_86 : decode cX3_narrow 86 = .ok (.lcmp, 1) := by decide +kernel
theorem dX3_narrow_87 : decode cX3_narrow 87 = .ok (.ifCond .eq 7, 3) := by decide +kernel
theorem dX3_narrow_90 : decode cX3_narrow 90 = .ok (.iconst 1, 1) := by decide +kernel
theorem dX3_narrow_91 : decode cX3_narrow 91 = .ok (.goto 4, 3) := by decide +kernel
theorem dX3_narrow_94 : decode cX3_narrow 94 = .ok (.iconst 0, 1) := by decide +kernel
theorem dX3_narrow_95 : decode cX3_narrow 95 = .ok (.ior, 1) := by decide +kernel
theorem dX3_narrow_96 : decode cX3_narrow 96 = .ok (.istore_n 3, 1) := by decide +kernel
theorem dX3_narrow_97 : decode cX3_narrow 97 = .ok (.aload_n 0, 1) := by decide +kernel
theorem dX3_narrow_98 : decode cX3_narrow 98 = .ok (.getfield 34, 3) := by decide +kernel
theorem dX3_narrow_101 : decode cX3_narrow 101 = .ok (.iload_n 1, 1) := by decide +kernel
theorem dX3_narrow_102 : decode cX3_narrow 102 = .ok (.aload_n 0, 1) := by decide +kernel
theorem dX3_narrow_103 : decode cX3_narrow 103 = .ok (.getfield 124, 3) := by decide +kernel
theorem dX3_narrow_106 : decode cX3_narrow 106 = .ok (.imul, 1) := by decide +kernel
theorem dX3_narrow_107 : decode cX3_narrow 107 = .ok (.iload 4, 2) := by decide +kernel
theorem dX3_narrow_109 : decode cX3_narrow 109 = .ok (.iadd, 1) := by decide +kernel
theorem dX3_narrow_110 : decode cX3_narrow 110 = .ok (.lload 7, 2) := by decide +kernel
theorem dX3_narrow_112 : decode cX3_narrow 112 = .ok (.lastore, 1) := by decide +kernel
theorem dX3_narrow_113 : decode cX3_narrow 113 = .ok (.iinc 4 1, 3) := by decide +kernel
theorem dX3_narrow_116 : decode cX3_narrow 116 = .ok (.goto (-111), 3) := by decide +kernel
theorem dX3_narrow_119 : decode cX3_narrow 119 = .ok (.iload_n 3, 1) := by decide +kernel
theorem dX3_narrow_120 : decode cX3_narrow 120 = .ok (.ireturn, 1) := by decide +kernel
theorem dX3_nearestDominator_0 : decode cX3_nearestDominator 0 = .ok (.aload_n 0, 1) := by decide +kernel
theorem dX3_nearestDominator_1 : decode cX3_nearestDominator 1 = .ok (.iload_n 1, 1) := by decide +kernel
theorem dX3_nearestDominator_2 : decode cX3_nearestDominator 2 = .ok (.invokevirtual 166, 3) := by decide +kernel
theorem dX3_nearestDominator_5 : decode cX3_nearestDominator 5 = .ok (.iconst 1, 1) := by decide +kernel
theorem dX3_nearestDominator_6 : decode cX3_nearestDominator 6 = .ok (.isub, 1) := by decide +kernel
theorem dX3_nearestDominator_7 : decode cX3_nearestDominator 7 = .ok (.istore_n 2, 1) := by decide +kernel
theorem dX3_nearestDominator_8 : decode cX3_nearestDominator 8 = .ok (.iconst 0, 1) := by decide +kernel
theorem dX3_nearestDominator_9 : decode cX3_nearestDominator 9 = .ok (.istore_n 3, 1) := by decide +kernel
theorem dX3_nearestDominator_10 : decode cX3_nearestDominator 10 = .ok (.iload_n 3, 1) := by decide +kernel
theorem dX3_nearestDominator_11 : decode cX3_nearestDominator 11 = .ok (.aload_n 0, 1) := by decide +kernel
theorem dX3_nearestDominator_12 : decode cX3_nearestDominator 12 = .ok (.getfield 78, 3) := by decide +kernel
theorem dX3_nearestDominator_15 : decode cX3_nearestDominator 15 = .ok (.if_icmp .ge 34, 3) := by decide +kernel
theorem dX3_nearestDominator_18 : decode cX3_nearestDominator 18 = .ok (.iload_n 3, 1) := by decide +kernel
theorem dX3_nearestDominator_19 : decode cX3_nearestDominator 19 = .ok (.iload_n 1, 1) := by decide +kernel
theorem dX3_nearestDominator_20 : decode cX3_nearestDominator 20 = .ok (.if_icmp .eq 23, 3) := by decide +kernel
theorem dX3_nearestDominator_23 : decode cX3_nearestDominator 23 = .ok (.aload_n 0, 1) := by decide +kernel
theorem dX3_nearestDominator_24 : decode cX3_nearestDominator 24 = .ok (.iload_n 3, 1) := by decide +kernel
theorem dX3_nearestDominator_25 : decode cX3_nearestDominator 25 = .ok (.iload_n 1, 1) := by decide +kernel
theorem dX3_nearestDominator_26 : decode cX3_nearestDominator 26 = .ok (.invokevirtual 169, 3) := by decide +kernel
theorem dX3_nearestDominator_29 : decode cX3_nearestDominator 29 = .ok (.ifCond .eq 14, 3) := by decide +kernel
theorem dX3_nearestDominator_32 : decode cX3_nearestDominator 32 = .ok (.aload_n 0, 1) := by decide +kernel
theorem dX3_nearestDominator_33 : decode cX3_nearestDominator 33 = .ok (.iload_n 3, 1) := by decide +kernel
theorem dX3_nearestDominator_34 : decode cX3_nearestDominator 34 = .ok (.invokevirtual 166, 3) := by decide +kernel
theorem dX3_nearestDominator_37 : decode cX3_nearestDominator 37 = .ok (.iload_n 2, 1) := by decide +kernel
theorem dX3_nearestDominator_38 : decode cX3_nearestDominator 38 = .ok (.if_icmp .ne 5, 3) := by decide +kernel
theorem dX3_nearestDominator_41 : decode cX3_nearestDominator 41 = .ok (.iload_n 3, 1) := by decide +kernel
theorem dX3_nearestDominator_42 : decode cX3_nearestDominator 42 = .ok (.ireturn, 1) := by decide +kernel
theorem dX3_nearestDominator_43 : decode cX3_nearestDominator 43 = .ok (.iinc 3 1, 3) := by decide +kernel
theorem dX3_nearestDominator_46 : decode cX3_nearestDominator 46 = .ok (.goto (-36), 3) := by decide +kernel
theorem dX3_nearestDominator_49 : decode cX3_nearestDominator 49 = .ok (.iconst (-1), 1) := by decide +kernel
theorem dX3_nearestDominator_50 : decode cX3_nearestDominator 50 = .ok (.ireturn, 1) := by decide +kernel
theorem dX3_reachedCount_0 : decode cX3_reachedCount 0 = .ok (.iconst 0, 1) := by decide +kernel
theorem dX3_reachedCount_1 : decode cX3_reachedCount 1 = .ok (.istore_n 1, 1) := by decide +kernel
theorem dX3_reachedCount_2 : decode cX3_reachedCount 2 = .ok (.iconst 0, 1) := by decide +kernel
theorem dX3_reachedCount_3 : decode cX3_reachedCount 3 = .ok (.istore_n 2, 1) := by decide +kernel
theorem dX3_reachedCount_4 : decode cX3_reachedCount 4 = .ok (.iload_n 2, 1) := by decide +kernel
theorem dX3_reachedCount_5 : decode cX3_reachedCount 5 = .ok (.aload_n 0, 1) := by decide +kernel
theorem dX3_reachedCount_6 : decode cX3_reachedCount 6 = .ok (.getfield 78, 3) := by decide +kernel
theorem dX3_reachedCount_9 : decode cX3_reachedCount 9 = .ok (.if_icmp .ge 26, 3) := by decide +kernel
theorem dX3_reachedCount_12 : decode cX3_reachedCount 12 = .ok (.iload_n 1, 1) := by decide +kernel
theorem dX3_reachedCount_13 : decode cX3_reachedCount 13 = .ok (.aload_n 0, 1) := by decide +kernel
theorem dX3_reachedCount_14 : decode cX3_reachedCount 14 = .ok (.getfield 30, 3) := by decide +kernel
theorem dX3_reachedCount_17 : decode cX3_reachedCount 17 = .ok (.iload_n 2, 1) := by decide +kernel
theorem dX3_reachedCount_18 : decode cX3_reachedCount 18 = .ok (.baload, 1) := by decide +kernel
theorem dX3_reachedCount_19 : decode cX3_reachedCount 19 = .ok (.ifCond .eq 7, 3) := by decide +kernel
theorem dX3_reachedCount_22 : decode cX3_reachedCount 22 = .ok (.iconst 1, 1) := by decide +kernel
theorem dX3_reachedCount_23 : decode cX3_reachedCount 23 = .ok (.goto 4, 3) := by decide +kernel
theorem dX3_reachedCount_26 : decode cX3_reachedCount 26 = .ok (.iconst 0, 1) := by decide +kernel
theorem dX3_reachedCount_27 : decode cX3_reachedCount 27 = .ok (.iadd, 1) := by decide +kernel
theorem dX3_reachedCount_28 : decode cX3_reachedCount 28 = .ok (.istore_n 1, 1) := by decide +kernel
theorem dX3_reachedCount_29 : decode cX3_reachedCount 29 = .ok (.iinc 2 1, 3) := by decide +kernel
theorem dX3_reachedCount_32 : decode cX3_reachedCount 32 = .ok (.goto (-28), 3) := by decide +kernel
theorem dX3_reachedCount_35 : decode cX3_reachedCount 35 = .ok (.iload_n 1, 1) := by decide +kernel
theorem dX3_reachedCount_36 : decode cX3_reachedCount 36 = .ok (.ireturn, 1) := by decide +kernel
theorem dX3_tell_0 : decode cX3_tell 0 = .ok (.iload_n 1, 1) := by decide +kernel
theorem dX3_tell_1 : decode cX3_tell 1 = .ok (.ifCond .lt 11, 3) := by decide +kernel
theorem dX3_tell_4 : decode cX3_tell 4 = .ok (.iload_n 1, 1) := by decide +kernel
theorem dX3_tell_5 : decode cX3_tell 5 = .ok (.aload_n 0, 1) := by decide +kernel
theorem dX3_tell_6 : decode cX3_tell 6 = .ok (.getfield 78, 3) := by decide +kernel
theorem dX3_tell_9 : decode cX3_tell 9 = .ok (.if_icmp .lt 5, 3) := by decide +kernel
theorem dX3_tell_12 : decode cX3_tell 12 = .ok (.iconst (-1), 1) := by decide +kernel
theorem dX3_tell_13 : decode cX3_tell 13 = .ok (.ireturn, 1) := by decide +kernel
theorem dX3_tell_14 : decode cX3_tell 14 = .ok (.iload_n 2, 1) := by decide +kernel
theorem dX3_tell_15 : decode cX3_tell 15 = .ok (.tableswitch 104 0 5 #[37, 44, 59, 66, 81, 88], 37) := by decide +kernel
theorem dX3_tell_52 : decode cX3_tell 52 = .ok (.aload_n 0, 1) := by decide +kernel
theorem dX3_tell_53 : decode cX3_tell 53 = .ok (.getfield 9, 3) := by decide +kernel
theorem dX3_tell_56 : decode cX3_tell 56 = .ok (.iload_n 1, 1) := by decide +kernel
theorem dX3_tell_57 : decode cX3_tell 57 = .ok (.iaload, 1) := by decide +kernel
theorem dX3_tell_58 : decode cX3_tell 58 = .ok (.ireturn, 1) := by decide +kernel
theorem dX3_tell_59 : decode cX3_tell 59 = .ok (.aload_n 0, 1) := by decide +kernel
theorem dX3_tell_60 : decode cX3_tell 60 = .ok (.getfield 30, 3) := by decide +kernel
theorem dX3_tell_63 : decode cX3_tell 63 = .ok (.iload_n 1, 1) := by decide +kernel
theorem dX3_tell_64 : decode cX3_tell 64 = .ok (.baload, 1) := by decide +kernel
theorem dX3_tell_65 : decode cX3_tell 65 = .ok (.ifCond .eq 7, 3) := by decide +kernel
theorem dX3_tell_68 : decode cX3_tell 68 = .ok (.iconst 1, 1) := by decide +kernel
theorem dX3_tell_69 : decode cX3_tell 69 = .ok (.goto 4, 3) := by decide +kernel
theorem dX3_tell_72 : decode cX3_tell 72 = .ok (.iconst 0, 1) := by decide +kernel
theorem dX3_tell_73 : decode cX3_tell 73 = .ok (.ireturn, 1) := by decide +kernel
theorem dX3_tell_74 : decode cX3_tell 74 = .ok (.aload_n 0, 1) := by decide +kernel
theorem dX3_tell_75 : decode cX3_tell 75 = .ok (.getfield 38, 3) := by decide +kernel
theorem dX3_tell_78 : decode cX3_tell 78 = .ok (.iload_n 1, 1) := by decide +kernel
theorem dX3_tell_79 : decode cX3_tell 79 = .ok (.iaload, 1) := by decide +kernel
theorem dX3_tell_80 : decode cX3_tell 80 = .ok (.ireturn, 1) := by decide +kernel
theorem dX3_tell_81 : decode cX3_tell 81 = .ok (.aload_n 0, 1) := by decide +kernel
theorem dX3_tell_82 : decode cX3_tell 82 = .ok (.getfield 41, 3) := by decide +kernel
theorem dX3_tell_85 : decode cX3_tell 85 = .ok (.iload_n 1, 1) := by decide +kernel
theorem dX3_tell_86 : decode cX3_tell 86 = .ok (.iaload, 1) := by decide +kernel
theorem dX3_tell_87 : decode cX3_tell 87 = .ok (.ifCond .le 7, 3) := by decide +kernel
theorem dX3_tell_90 : decode cX3_tell 90 = .ok (.iconst 1, 1) := by decide +kernel
theorem dX3_tell_91 : decode cX3_tell 91 = .ok (.goto 4, 3) := by decide +kernel
theorem dX3_tell_94 : decode cX3_tell 94 = .ok (.iconst 0, 1) := by decide +kernel
theorem dX3_tell_95 : decode cX3_tell 95 = .ok (.ireturn, 1) := by decide +kernel
theorem dX3_tell_96 : decode cX3_tell 96 = .ok (.aload_n 0, 1) := by decide +kernel
theorem dX3_tell_97 : decode cX3_tell 97 = .ok (.getfield 44, 3) := by decide +kernel
theorem dX3_tell_100 : decode cX3_tell 100 = .ok (.iload_n 1, 1) := by decide +kernel
theorem dX3_tell_101 : decode cX3_tell 101 = .ok (.iaload, 1) := by decide +kernel
theorem dX3_tell_102 : decode cX3_tell 102 = .ok (.ireturn, 1) := by decide +kernel
theorem dX3_tell_103 : decode cX3_tell 103 = .ok (.aload_n 0, 1) := by decide +kernel
theorem dX3_tell_104 : decode cX3_tell 104 = .ok (.getfield 18, 3) := by decide +kernel
theorem dX3_tell_107 : decode cX3_tell 107 = .ok (.iload_n 1, 1) := by decide +kernel
theorem dX3_tell_108 : decode cX3_tell 108 = .ok (.iconst 1, 1) := by decide +kernel
theorem dX3_tell_109 : decode cX3_tell 109 = .ok (.iadd, 1) := by decide +kernel
theorem dX3_tell_110 : decode cX3_tell 110 = .ok (.iaload, 1) := by decide +kernel
theorem dX3_tell_111 : decode cX3_tell 111 = .ok (.aload_n 0, 1) := by decide +kernel
theorem dX3_tell_112 : decode cX3_tell 112 = .ok (.getfield 18, 3) := by decide +kernel
theorem dX3_tell_115 : decode cX3_tell 115 = .ok (.iload_n 1, 1) := by decide +kernel
theorem dX3_tell_116 : decode cX3_tell 116 = .ok (.iaload, 1) := by decide +kernel
theorem dX3_tell_117 : decode cX3_tell 117 = .ok (.isub, 1) := by decide +kernel
theorem dX3_tell_118 : decode cX3_tell 118 = .ok (.ireturn, 1) := by decide +kernel
theorem dX3_tell_119 : decode cX3_tell 119 = .ok (.iconst (-1), 1) := by decide +kernel
theorem dX3_tell_120 : decode cX3_tell 120 = .ok (.ireturn, 1) := by decide +kernel
theorem dX4_comeTo_0 : decode cX4_comeTo 0 = .ok (.iload_n 1, 1) := by decide +kernel
theorem dX4_comeTo_1 : decode cX4_comeTo 1 = .ok (.ifCond .lt 46, 3) := by decide +kernel
theorem dX4_comeTo_4 : decode cX4_comeTo 4 = .ok (.iload_n 1, 1) := by decide +kernel
theorem dX4_comeTo_5 : decode cX4_comeTo 5 = .ok (.aload_n 0, 1) := by decide +kernel
theorem dX4_comeTo_6 : decode cX4_comeTo 6 = .ok (.getfield 26, 3) := by decide +kernel
theorem dX4_comeTo_9 : decode cX4_comeTo 9 = .ok (.getfield 37, 3) := by decide +kernel
theorem dX4_comeTo_12 : decode cX4_comeTo 12 = .ok (.if_icmp .ge 35, 3) := by decide +kernel
theorem dX4_comeTo_15 : decode cX4_comeTo 15 = .ok (.iload_n 1, 1) := by decide +kernel
theorem dX4_comeTo_16 : decode cX4_comeTo 16 = .ok (.aload_n 0, 1) := by decide +kernel
theorem dX4_comeTo_17 : decode cX4_comeTo 17 = .ok (.getfield 9, 3) := by decide +kernel
theorem dX4_comeTo_20 : decode cX4_comeTo 20 = .ok (.arraylength, 1) := by decide +kernel
theorem dX4_comeTo_21 : decode cX4_comeTo 21 = .ok (.if_icmp .ge 26, 3) := by decide +kernel
theorem dX4_comeTo_24 : decode cX4_comeTo 24 = .ok (.iload_n 2, 1) := by decide +kernel
theorem dX4_comeTo_25 : decode cX4_comeTo 25 = .ok (.ifCond .lt 22, 3) := by decide +kernel
theorem dX4_comeTo_28 : decode cX4_comeTo 28 = .ok (.iload_n 2, 1) := by decide +kernel
theorem dX4_comeTo_29 : decode cX4_comeTo 29 = .ok (.bipush 30, 2) := by decide +kernel
theorem dX4_comeTo_31 : decode cX4_comeTo 31 = .ok (.if_icmp .gt 16, 3) := by decide +kernel
theorem dX4_comeTo_34 : decode cX4_comeTo 34 = .ok (.aload_n 0, 1) := by decide +kernel
theorem dX4_comeTo_35 : decode cX4_comeTo 35 = .ok (.getfield 9, 3) := by decide +kernel
theorem dX4_comeTo_38 : decode cX4_comeTo 38 = .ok (.iload_n 1, 1) := by decide +kernel
theorem dX4_comeTo_39 : decode cX4_comeTo 39 = .ok (.iaload, 1) := by decide +kernel
theorem dX4_comeTo_40 : decode cX4_comeTo 40 = .ok (.iload_n 2, 1) := by decide +kernel
theorem dX4_comeTo_41 : decode cX4_comeTo 41 = .ok (.ishr, 1) := by decide +kernel
theorem dX4_comeTo_42 : decode cX4_comeTo 42 = .ok (.iconst 1, 1) := by decide +kernel
theorem dX4_comeTo_43 : decode cX4_comeTo 43 = .ok (.iand, 1) := by decide +kernel
theorem dX4_comeTo_44 : decode cX4_comeTo 44 = .ok (.ifCond .eq 4, 3) := by decide +kernel
theorem dX4_comeTo_47 : decode cX4_comeTo 47 = .ok (.return_, 1) := by decide +kernel
theorem dX4_comeTo_48 : decode cX4_comeTo 48 = .ok (.aload_n 0, 1) := by decide +kernel
theorem dX4_comeTo_49 : decode cX4_comeTo 49 = .ok (.getfield 9, 3) := by decide +kernel
theorem dX4_comeTo_52 : decode cX4_comeTo 52 = .ok (.iload_n 1, 1) := by decide +kernel
theorem dX4_comeTo_53 : decode cX4_comeTo 53 = .ok (.dup2, 1) := by decide +kernel
theorem dX4_comeTo_54 : decode cX4_comeTo 54 = .ok (.iaload, 1) := by decide +kernel
theorem dX4_comeTo_55 : decode cX4_comeTo 55 = .ok (.iconst 1, 1) := by decide +kernel
theorem dX4_comeTo_56 : decode cX4_comeTo 56 = .ok (.iload_n 2, 1) := by decide +kernel
theorem dX4_comeTo_57 : decode cX4_comeTo 57 = .ok (.ishl, 1) := by decide +kernel
theorem dX4_comeTo_58 : decode cX4_comeTo 58 = .ok (.ior, 1) := by decide +kernel
theorem dX4_comeTo_59 : decode cX4_comeTo 59 = .ok (.iastore, 1) := by decide +kernel
theorem dX4_comeTo_60 : decode cX4_comeTo 60 = .ok (.aload_n 0, 1) := by decide +kernel
theorem dX4_comeTo_61 : decode cX4_comeTo 61 = .ok (.getfield 15, 3) := by decide +kernel
theorem dX4_comeTo_64 : decode cX4_comeTo 64 = .ok (.iload_n 1, 1) := by decide +kernel
theorem dX4_comeTo_65 : decode cX4_comeTo 65 = .ok (.dup2, 1) := by decide +kernel
theorem dX4_comeTo_66 : decode cX4_comeTo 66 = .ok (.iaload, 1) := by decide +kernel
theorem dX4_comeTo_67 : decode cX4_comeTo 67 = .ok (.iconst 1, 1) := by decide +kernel
theorem dX4_comeTo_68 : decode cX4_comeTo 68 = .ok (.iload_n 2, 1) := by decide +kernel
theorem dX4_comeTo_69 : decode cX4_comeTo 69 = .ok (.ishl, 1) := by decide +kernel
theorem dX4_comeTo_70 : decode cX4_comeTo 70 = .ok (.ior, 1) := by decide +kernel
theorem dX4_comeTo_71 : decode cX4_comeTo 71 = .ok (.iastore, 1) := by decide +kernel
theorem dX4_comeTo_72 : decode cX4_comeTo 72 = .ok (.aload_n 0, 1) := by decide +kernel
theorem dX4_comeTo_73 : decode cX4_comeTo 73 = .ok (.iconst 1, 1) := by decide +kernel
theorem dX4_comeTo_74 : decode cX4_comeTo 74 = .ok (.putfield 50, 3) := by decide +kernel
theorem dX4_comeTo_77 : decode cX4_comeTo 77 = .ok (.return_, 1) := by decide +kernel
theorem dX4_heightAt_0 : decode cX4_heightAt 0 = .ok (.iload_n 1, 1) := by decide +kernel
theorem dX4_heightAt_1 : decode cX4_heightAt 1 = .ok (.ifCond .lt 21, 3) := by decide +kernel
theorem dX4_heightAt_4 : decode cX4_heightAt 4 = .ok (.iload_n 1, 1) := by decide +kernel
theorem dX4_heightAt_5 : decode cX4_heightAt 5 = .ok (.aload_n 0, 1) := by decide +kernel
theorem dX4_heightAt_6 : decode cX4_heightAt 6 = .ok (.getfield 9, 3) := by decide +kernel
theorem dX4_heightAt_9 : decode cX4_heightAt 9 = .ok (.arraylength, 1) := by decide +kernel
theorem dX4_heightAt_10 : decode cX4_heightAt 10 = .ok (.if_icmp .ge 12, 3) := by decide +kernel
theorem dX4_heightAt_13 : decode cX4_heightAt 13 = .ok (.aload_n 0, 1) := by decide +kernel
theorem dX4_heightAt_14 : decode cX4_heightAt 14 = .ok (.getfield 9, 3) := by decide +kernel
theorem dX4_heightAt_17 : decode cX4_heightAt 17 = .ok (.iload_n 1, 1) := by decide +kernel
theorem dX4_heightAt_18 : decode cX4_heightAt 18 = .ok (.iaload, 1) := by decide +kernel
theorem dX4_heightAt_19 : decode cX4_heightAt 19 = .ok (.ifCond .ne 7, 3) := by decide +kernel
theorem dX4_heightAt_22 : decode cX4_heightAt 22 = .ok (.iconst (-1), 1) := by decide +kernel
theorem dX4_heightAt_23 : decode cX4_heightAt 23 = .ok (.goto 12, 3) := by decide +kernel
theorem dX4_heightAt_26 : decode cX4_heightAt 26 = .ok (.aload_n 0, 1) := by decide +kernel
theorem dX4_heightAt_27 : decode cX4_heightAt 27 = .ok (.getfield 9, 3) := by decide +kernel
theorem dX4_heightAt_30 : decode cX4_heightAt 30 = .ok (.iload_n 1, 1) := by decide +kernel
theorem dX4_heightAt_31 : decode cX4_heightAt 31 = .ok (.iaload, 1) := by decide +kernel
theorem dX4_heightAt_32 : decode cX4_heightAt 32 = .ok (.invokestatic 116, 3) := by decide +kernel
theorem dX4_heightAt_35 : decode cX4_heightAt 35 = .ok (.ireturn, 1) := by decide +kernel
theorem dX4_init_0 : decode cX4_init 0 = .ok (.aload_n 0, 1) := by decide +kernel
theorem dX4_init_1 : decode cX4_init 1 = .ok (.invokespecial 3, 3) := by decide +kernel
theorem dX4_init_4 : decode cX4_init 4 = .ok (.aload_n 0, 1) := by decide +kernel
theorem dX4_init_5 : decode cX4_init 5 = .ok (.iconst 0, 1) := by decide +kernel
theorem dX4_init_6 : decode cX4_init 6 = .ok (.newarray .int, 2) := by decide +kernel
theorem dX4_init_8 : decode cX4_init 8 = .ok (.putfield 9, 3) := by decide +kernel
theorem dX4_init_11 : decode cX4_init 11 = .ok (.aload_n 0, 1) := by decide +kernel
theorem dX4_init_12 : decode cX4_init 12 = .ok (.iconst 0, 1) := by decide +kernel
theorem dX4_init_13 : decode cX4_init 13 = .ok (.newarray .int, 2) := by decide +kernel
theorem dX4_init_15 : decode cX4_init 15 = .ok (.putfield 15, 3) := by decide +kernel
theorem dX4_init_18 : decode cX4_init 18 = .ok (.aload_n 0, 1) := by decide +kernel
theorem dX4_init_19 : decode cX4_init 19 = .ok (.iconst 0, 1) := by decide +kernel
theorem dX4_init_20 : decode cX4_init 20 = .ok (.newarray .boolean, 2) := by decide +kernel
theorem dX4_init_22 : decode cX4_init 22 = .ok (.putfield 18, 3) := by decide +kernel
theorem dX4_init_25 : decode cX4_init 25 = .ok (.return_, 1) := by decide +kernel
theorem dX4_isWrong_0 : decode cX4_isWrong 0 = .ok (.iload_n 1, 1) := by decide +kernel
theorem dX4_isWrong_1 : decode cX4_isWrong 1 = .ok (.ifCond .lt 38, 3) := by decide +kernel
theorem dX4_isWrong_4 : decode cX4_isWrong 4 = .ok (.iload_n 1, 1) := by decide +kernel
theorem dX4_isWrong_5 : decode cX4_isWrong 5 = .ok (.aload_n 0, 1) := by decide +kernel
theorem dX4_isWrong_6 : decode cX4_isWrong 6 = .ok (.getfield 18, 3) := by decide +kernel
theorem dX4_isWrong_9 : decode cX4_isWrong 9 = .ok (.arraylength, 1) := by decide +kernel
theorem dX4_isWrong_10 : decode cX4_isWrong 10 = .ok (.if_icmp .ge 29, 3) := by decide +kernel
theorem dX4_isWrong_13 : decode cX4_isWrong 13 = .ok (.aload_n 0, 1) := by decide +kernel
theorem dX4_isWrong_14 : decode cX4_isWrong 14 = .ok (.getfield 18, 3) := by decide +kernel
theorem dX4_isWrong_17 : decode cX4_isWrong 17 = .ok (.iload_n 1, 1) := by decide +kernel
theorem dX4_isWrong_18 : decode cX4_isWrong 18 = .ok (.baload, 1) := by decide +kernel
theorem dX4_isWrong_19 : decode cX4_isWrong 19 = .ok (.ifCond .ne 16, 3) := by decide +kernel
theorem dX4_isWrong_22 : decode cX4_isWrong 22 = .ok (.aload_n 0, 1) := by decide +kernel
theorem dX4_isWrong_23 : decode cX4_isWrong 23 = .ok (.getfield 9, 3) := by decide +kernel
theorem dX4_isWrong_26 : decode cX4_isWrong 26 = .ok (.iload_n 1, 1) := by decide +kernel
theorem dX4_isWrong_27 : decode cX4_isWrong 27 = .ok (.iaload, 1) := by decide +kernel
theorem dX4_isWrong_28 : decode cX4_isWrong 28 = .ok (.invokestatic 111, 3) := by decide +kernel
theorem dX4_isWrong_31 : decode cX4_isWrong 31 = .ok (.iconst 1, 1) := by decide +kernel
theorem dX4_isWrong_32 : decode cX4_isWrong 32 = .ok (.if_icmp .le 7, 3) := by decide +kernel
theorem dX4_isWrong_35 : decode cX4_isWrong 35 = .ok (.iconst 1, 1) := by decide +kernel
theorem dX4_isWrong_36 : decode cX4_isWrong 36 = .ok (.goto 4, 3) := by decide +kernel
theorem dX4_isWrong_39 : decode cX4_isWrong 39 = .ok (.iconst 0, 1) := by decide +kernel
theorem dX4_isWrong_40 : decode cX4_isWrong 40 = .ok (.ireturn, 1) := by decide +kernel
theorem dX4_makeRoom_0 : decode cX4_makeRoom 0 = .ok (.aload_n 0, 1) := by decide +kernel
theorem dX4_makeRoom_1 : decode cX4_makeRoom 1 = .ok (.getfield 9, 3) := by decide +kernel
theorem dX4_makeRoom_4 : decode cX4_makeRoom 4 = .ok (.arraylength, 1) := by decide +kernel
theorem dX4_makeRoom_5 : decode cX4_makeRoom 5 = .ok (.iload_n 1, 1) := by decide +kernel
theorem dX4_makeRoom_6 : decode cX4_makeRoom 6 = .ok (.if_icmp .ge 30, 3) := by decide +kernel
theorem dX4_makeRoom_9 : decode cX4_makeRoom 9 = .ok (.aload_n 0, 1) := by decide +kernel
theorem dX4_makeRoom_10 : decode cX4_makeRoom 10 = .ok (.iconst 2, 1) := by decide +kernel
theorem dX4_makeRoom_11 : decode cX4_makeRoom 11 = .ok (.iload_n 1, 1) := by decide +kernel
theorem dX4_makeRoom_12 : decode cX4_makeRoom 12 = .ok (.imul, 1) := by decide +kernel
theorem dX4_makeRoom_13 : decode cX4_makeRoom 13 = .ok (.newarray .int, 2) := by decide +kernel
theorem dX4_makeRoom_15 : decode cX4_makeRoom 15 = .ok (.putfield 9, 3) := by decide +kernel
theorem dX4_makeRoom_18 : decode cX4_makeRoom 18 = .ok (.aload_n 0, 1) := by decide +kernel
theorem dX4_makeRoom_19 : decode cX4_makeRoom 19 = .ok (.iconst 2, 1) := by decide +kernel
theorem dX4_makeRoom_20 : decode cX4_makeRoom 20 = .ok (.iload_n 1, 1) := by decide +kernel
theorem dX4_makeRoom_21 : decode cX4_makeRoom 21 = .ok (.imul, 1) := by decide +kernel
theorem dX4_makeRoom_22 : decode cX4_makeRoom 22 = .ok (.newarray .int, 2) := by decide +kernel
theorem dX4_makeRoom_24 : decode cX4_makeRoom 24 = .ok (.putfield 15, 3) := by decide +kernel
theorem dX4_makeRoom_27 : decode cX4_makeRoom 27 = .ok (.aload_n 0, 1) := by decide +kernel
theorem dX4_makeRoom_28 : decode cX4_makeRoom 28 = .ok (.iconst 2, 1) := by decide +kernel
theorem dX4_makeRoom_29 : decode cX4_makeRoom 29 = .ok (.iload_n 1, 1) := by decide +kernel
theorem dX4_makeRoom_30 : decode cX4_makeRoom 30 = .ok (.imul, 1) := by decide +kernel
theorem dX4_makeRoom_31 : decode cX4_makeRoom 31 = .ok (.newarray .boolean, 2) := by decide +kernel
theorem dX4_makeRoom_33 : decode cX4_makeRoom 33 = .ok (.putfield 18, 3) := by decide +kernel
theorem dX4_makeRoom_36 : decode cX4_makeRoom 36 = .ok (.aload_n 0, 1) := by decide +kernel
theorem dX4_makeRoom_37 : decode cX4_makeRoom 37 = .ok (.getfield 9, 3) := by decide +kernel
theorem dX4_makeRoom_40 : decode cX4_makeRoom 40 = .ok (.iconst 0, 1) := by decide +kernel
theorem dX4_makeRoom_41 : decode cX4_makeRoom 41 = .ok (.invokestatic 58, 3) := by decide +kernel
theorem dX4_makeRoom_44 : decode cX4_makeRoom 44 = .ok (.aload_n 0, 1) := by decide +kernel
theorem dX4_makeRoom_45 : decode cX4_makeRoom 45 = .ok (.getfield 15, 3) := by decide +kernel
theorem dX4_makeRoom_48 : decode cX4_makeRoom 48 = .ok (.iconst 0, 1) := by decide +kernel
theorem dX4_makeRoom_49 : decode cX4_makeRoom 49 = .ok (.invokestatic 58, 3) := by decide +kernel
theorem dX4_makeRoom_52 : decode cX4_makeRoom 52 = .ok (.iconst 0, 1) := by decide +kernel
theorem dX4_makeRoom_53 : decode cX4_makeRoom 53 = .ok (.istore_n 2, 1) := by decide +kernel
theorem dX4_makeRoom_54 : decode cX4_makeRoom 54 = .ok (.iload_n 2, 1) := by decide +kernel
theorem dX4_makeRoom_55 : decode cX4_makeRoom 55 = .ok (.aload_n 0, 1) := by decide +kernel
theorem dX4_makeRoom_56 : decode cX4_makeRoom 56 = .ok (.getfield 18, 3) := by decide +kernel
theorem dX4_makeRoom_59 : decode cX4_makeRoom 59 = .ok (.arraylength, 1) := by decide +kernel
theorem dX4_makeRoom_60 : decode cX4_makeRoom 60 = .ok (.if_icmp .ge 16, 3) := by decide +kernel
theorem dX4_makeRoom_63 : decode cX4_makeRoom 63 = .ok (.aload_n 0, 1) := by decide +kernel
theorem dX4_makeRoom_64 : decode cX4_makeRoom 64 = .ok (.getfield 18, 3) := by decide +kernel
theorem dX4_makeRoom_67 : decode cX4_makeRoom 67 = .ok (.iload_n 2, 1) := by decide +kernel
theorem dX4_makeRoom_68 : decode cX4_makeRoom 68 = .ok (.iconst 0, 1) := by decide +kernel
theorem dX4_makeRoom_69 : decode cX4_makeRoom 69 = .ok (.bastore, 1) := by decide +kernel
theorem dX4_makeRoom_70 : decode cX4_makeRoom 70 = .ok (.iinc 2 1, 3) := by decide +kernel
theorem dX4_makeRoom_73 : decode cX4_makeRoom 73 = .ok (.goto (-19), 3) := by decide +kernel
theorem dX4_makeRoom_76 : decode cX4_makeRoom 76 = .ok (.return_, 1) := by decide +kernel
theorem dX4_seek_0 : decode cX4_seek 0 = .ok (.aload_n 0, 1) := by decide +kernel
theorem dX4_seek_1 : decode cX4_seek 1 = .ok (.aload_n 1, 1) := by decide +kernel
theorem dX4_seek_2 : decode cX4_seek 2 = .ok (.putfield 22, 3) := by decide +kernel
theorem dX4_seek_5 : decode cX4_seek 5 = .ok (.aload_n 0, 1) := by decide +kernel
theorem dX4_seek_6 : decode cX4_seek 6 = .ok (.aload_n 2, 1) := by decide +kernel
theorem dX4_seek_7 : decode cX4_seek 7 = .ok (.putfield 26, 3) := by decide +kernel
theorem dX4_seek_10 : decode cX4_seek 10 = .ok (.aload_n 0, 1) := by decide +kernel
theorem dX4_seek_11 : decode cX4_seek 11 = .ok (.iload_n 3, 1) := by decide +kernel
theorem dX4_seek_12 : decode cX4_seek 12 = .ok (.putfield 30, 3) := by decide +kernel
theorem dX4_seek_15 : decode cX4_seek 15 = .ok (.aload_n 0, 1) := by decide +kernel
theorem dX4_seek_16 : decode cX4_seek 16 = .ok (.iconst 0, 1) := by decide +kernel
theorem dX4_seek_17 : decode cX4_seek 17 = .ok (.putfield 34, 3) := by decide +kernel
theorem dX4_seek_20 : decode cX4_seek 20 = .ok (.aload_n 0, 1) := by decide +kernel
theorem dX4_seek_21 : decode cX4_seek 21 = .ok (.aload_n 0, 1) := by decide +kernel
theorem dX4_seek_22 : decode cX4_seek 22 = .ok (.getfield 26, 3) := by decide +kernel
theorem dX4_seek_25 : decode cX4_seek 25 = .ok (.getfield 37, 3) := by decide +kernel
theorem dX4_seek_28 : decode cX4_seek 28 = .ok (.invokevirtual 42, 3) := by decide +kernel
theorem dX4_seek_31 : decode cX4_seek 31 = .ok (.aload_n 0, 1) := by decide +kernel
theorem dX4_seek_32 : decode cX4_seek 32 = .ok (.iconst 0, 1) := by decide +kernel
theorem dX4_seek_33 : decode cX4_seek 33 = .ok (.iconst 0, 1) := by decide +kernel
theorem dX4_seek_34 : decode cX4_seek 34 = .ok (.invokevirtual 46, 3) := by decide +kernel
theorem dX4_seek_37 : decode cX4_seek 37 = .ok (.aload_n 0, 1) := by decide +kernel
theorem dX4_seek_38 : decode cX4_seek 38 = .ok (.iconst 1, 1) := by decide +kernel
theorem dX4_seek_39 : decode cX4_seek 39 = .ok (.putfield 50, 3) := by decide +kernel
theorem dX4_seek_42 : decode cX4_seek 42 = .ok (.iconst 0, 1) := by decide +kernel
theorem dX4_seek_43 : decode cX4_seek 43 = .ok (.istore 4, 2) := by decide +kernel
theorem dX4_seek_45 : decode cX4_seek 45 = .ok (.aload_n 0, 1) := by decide +kernel
theorem dX4_seek_46 : decode cX4_seek 46 = .ok (.getfield 50, 3) := by decide +kernel
theorem dX4_seek_49 : decode cX4_seek 49 = .ok (.ifCond .eq 111, 3) := by decide +kernel
theorem dX4_seek_52 : decode cX4_seek 52 = .ok (.iload 4, 2) := by decide +kernel
theorem dX4_seek_54 : decode cX4_seek 54 = .ok (.ldc 54, 2) := by decide +kernel
theorem dX4_seek_56 : decode cX4_seek 56 = .ok (.if_icmp .ge 104, 3) := by decide +kernel
theorem dX4_seek_59 : decode cX4_seek 59 = .ok (.aload_n 0, 1) := by decide +kernel
theorem dX4_seek_60 : decode cX4_seek 60 = .ok (.iconst 0, 1) := by decide +kernel
theorem dX4_seek_61 : decode cX4_seek 61 = .ok (.putfield 50, 3) := by decide +kernel
theorem dX4_seek_64 : decode cX4_seek 64 = .ok (.iconst 0, 1) := by decide +kernel
theorem dX4_seek_65 : decode cX4_seek 65 = .ok (.istore 5, 2) := by decide +kernel
theorem dX4_seek_67 : decode cX4_seek 67 = .ok (.iload 5, 2) := by decide +kernel
theorem dX4_seek_69 : decode cX4_seek 69 = .ok (.aload_n 0, 1) := by decide +kernel
theorem dX4_seek_70 : decode cX4_seek 70 = .ok (.getfield 26, 3) := by decide +kernel
theorem dX4_seek_73 : decode cX4_seek 73 = .ok (.getfield 37, 3) := by decide +kernel
theorem dX4_seek_76 : decode cX4_seek 76 = .ok (.if_icmp .ge 78, 3) := by decide +kernel
theorem dX4_seek_79 : decode cX4_seek 79 = .ok (.iload 5, 2) := by decide +kernel
theorem dX4_seek_81 : decode cX4_seek 81 = .ok (.aload_n 0, 1) := by decide +kernel
theorem dX4_seek_82 : decode cX4_seek 82 = .ok (.getfield 15, 3) := by decide +kernel
theorem dX4_seek_85 : decode cX4_seek 85 = .ok (.arraylength, 1) := by decide +kernel
theorem dX4_seek_86 : decode cX4_seek 86 = .ok (.if_icmp .ge 68, 3) := by decide +kernel
theorem dX4_seek_89 : decode cX4_seek 89 = .ok (.aload_n 0, 1) := by decide +kernel
theorem dX4_seek_90 : decode cX4_seek 90 = .ok (.getfield 15, 3) := by decide +kernel
theorem dX4_seek_93 : decode cX4_seek 93 = .ok (.iload 5, 2) := by decide +kernel
theorem dX4_seek_95 : decode cX4_seek 95 = .ok (.iaload, 1) := by decide +kernel
theorem dX4_seek_96 : decode cX4_seek 96 = .ok (.istore 6, 2) := by decide +kernel
theorem dX4_seek_98 : decode cX4_seek 98 = .ok (.aload_n 0, 1) := by decide +kernel
theorem dX4_seek_99 : decode cX4_seek 99 = .ok (.getfield 15, 3) := by decide +kernel
theorem dX4_seek_102 : decode cX4_seek 102 = .ok (.iload 5, 2) := by decide +kernel
theorem dX4_seek_104 : decode cX4_seek 104 = .ok (.iconst 0, 1) := by decide +kernel
theorem dX4_seek_105 : decode cX4_seek 105 = .ok (.iastore, 1) := by decide +kernel
theorem dX4_seek_106 : decode cX4_seek 106 = .ok (.iconst 0, 1) := by decide +kernel
theorem dX4_seek_107 : decode cX4_seek 107 = .ok (.istore 7, 2) := by decide +kernel
theorem dX4_seek_109 : decode cX4_seek 109 = .ok (.iload 6, 2) := by decide +kernel
theorem dX4_seek_111 : decode cX4_seek 111 = .ok (.iload 7, 2) := by decide +kernel
theorem dX4_seek_113 : decode cX4_seek 113 = .ok (.iushr, 1) := by decide +kernel
theorem dX4_seek_114 : decode cX4_seek 114 = .ok (.ifCond .le 34, 3) := by decide +kernel
theorem dX4_seek_117 : decode cX4_seek 117 = .ok (.iload 7, 2) := by decide +kernel
theorem dX4_seek_119 : decode cX4_seek 119 = .ok (.bipush 31, 2) := by decide +kernel
theorem dX4_seek_121 : decode cX4_seek 121 = .ok (.if_icmp .ge 27, 3) := by decide +kernel
theorem dX4_seek_124 : decode cX4_seek 124 = .ok (.iload 6, 2) := by decide +kernel
theorem dX4_seek_126 : decode cX4_seek 126 = .ok (.iload 7, 2) := by decide +kernel
theorem dX4_seek_128 : decode cX4_seek 128 = .ok (.ishr, 1) := by decide +kernel
theorem dX4_seek_129 : decode cX4_seek 129 = .ok (.iconst 1, 1) := by decide +kernel
theorem dX4_seek_130 : decode cX4_seek 130 = .ok (.iand, 1) := by decide +kernel
theorem dX4_seek_131 : decode cX4_seek 131 = .ok (.ifCond .eq 11, 3) := by decide +kernel
theorem dX4_seek_134 : decode cX4_seek 134 = .ok (.aload_n 0, 1) := by decide +kernel
theorem dX4_seek_135 : decode cX4_seek 135 = .ok (.iload 5, 2) := by decide +kernel
theorem dX4_seek_137 : decode cX4_seek 137 = .ok (.iload 7, 2) := by decide +kernel
theorem dX4_seek_139 : decode cX4_seek 139 = .ok (.invokevirtual 55, 3) := by decide +kernel
theorem dX4_seek_142 : decode cX4_seek 142 = .ok (.iinc 7 1, 3) := by decide +kernel
theorem dX4_seek_145 : decode cX4_seek 145 = .ok (.goto (-36), 3) := by decide +kernel
theorem dX4_seek_148 : decode cX4_seek 148 = .ok (.iinc 5 1, 3) := by decide +kernel
theorem dX4_seek_151 : decode cX4_seek 151 = .ok (.goto (-84), 3) := by decide +kernel
theorem dX4_seek_154 : decode cX4_seek 154 = .ok (.iinc 4 1, 3) := by decide +kernel
theorem dX4_seek_157 : decode cX4_seek 157 = .ok (.goto (-112), 3) := by decide +kernel
theorem dX4_seek_160 : decode cX4_seek 160 = .ok (.return_, 1) := by decide +kernel
theorem dX4_spread_0 : decode cX4_spread 0 = .ok (.aload_n 0, 1) := by decide +kernel
theorem dX4_spread_1 : decode cX4_spread 1 = .ok (.getfield 22, 3) := by decide +kernel
theorem dX4_spread_4 : decode cX4_spread 4 = .ok (.aload_n 0, 1) := by decide +kernel
theorem dX4_spread_5 : decode cX4_spread 5 = .ok (.getfield 26, 3) := by decide +kernel
theorem dX4_spread_8 : decode cX4_spread 8 = .ok (.iload_n 1, 1) := by decide +kernel
theorem dX4_spread_9 : decode cX4_spread 9 = .ok (.invokevirtual 64, 3) := by decide +kernel
theorem dX4_spread_12 : decode cX4_spread 12 = .ok (.invokestatic 70, 3) := by decide +kernel
theorem dX4_spread_15 : decode cX4_spread 15 = .ok (.istore_n 3, 1) := by decide +kernel
theorem dX4_spread_16 : decode cX4_spread 16 = .ok (.iload_n 2, 1) := by decide +kernel
theorem dX4_spread_17 : decode cX4_spread 17 = .ok (.iload_n 3, 1) := by decide +kernel
theorem dX4_spread_18 : decode cX4_spread 18 = .ok (.isub, 1) := by decide +kernel
theorem dX4_spread_19 : decode cX4_spread 19 = .ok (.aload_n 0, 1) := by decide +kernel
theorem dX4_spread_20 : decode cX4_spread 20 = .ok (.getfield 22, 3) := by decide +kernel
theorem dX4_spread_23 : decode cX4_spread 23 = .ok (.aload_n 0, 1) := by decide +kernel
theorem dX4_spread_24 : decode cX4_spread 24 = .ok (.getfield 26, 3) := by decide +kernel
theorem dX4_spread_27 : decode cX4_spread 27 = .ok (.iload_n 1, 1) := by decide +kernel
theorem dX4_spread_28 : decode cX4_spread 28 = .ok (.invokevirtual 76, 3) := by decide +kernel
theorem dX4_spread_31 : decode cX4_spread 31 = .ok (.iadd, 1) := by decide +kernel
theorem dX4_spread_32 : decode cX4_spread 32 = .ok (.istore 4, 2) := by decide +kernel
theorem dX4_spread_34 : decode cX4_spread 34 = .ok (.aload_n 0, 1) := by decide +kernel
theorem dX4_spread_35 : decode cX4_spread 35 = .ok (.getfield 26, 3) := by decide +kernel
theorem dX4_spread_38 : decode cX4_spread 38 = .ok (.iload_n 1, 1) := by decide +kernel
theorem dX4_spread_39 : decode cX4_spread 39 = .ok (.invokevirtual 79, 3) := by decide +kernel
theorem dX4_spread_42 : decode cX4_spread 42 = .ok (.istore 5, 2) := by decide +kernel
theorem dX4_spread_44 : decode cX4_spread 44 = .ok (.aload_n 0, 1) := by decide +kernel
theorem dX4_spread_45 : decode cX4_spread 45 = .ok (.getfield 26, 3) := by decide +kernel
theorem dX4_spread_48 : decode cX4_spread 48 = .ok (.iload_n 1, 1) := by decide +kernel
theorem dX4_spread_49 : decode cX4_spread 49 = .ok (.invokevirtual 83, 3) := by decide +kernel
theorem dX4_spread_52 : decode cX4_spread 52 = .ok (.invokestatic 86, 3) := by decide +kernel
theorem dX4_spread_55 : decode cX4_spread 55 = .ok (.istore 6, 2) := by decide +kernel
theorem dX4_spread_57 : decode cX4_spread 57 = .ok (.iload_n 2, 1) := by decide +kernel
theorem dX4_spread_58 : decode cX4_spread 58 = .ok (.iload_n 3, 1) := by decide +kernel
theorem dX4_spread_59 : decode cX4_spread 59 = .ok (.if_icmp .lt 43, 3) := by decide +kernel
theorem dX4_spread_62 : decode cX4_spread 62 = .ok (.iload 4, 2) := by decide +kernel
theorem dX4_spread_64 : decode cX4_spread 64 = .ok (.aload_n 0, 1) := by decide +kernel
theorem dX4_spread_65 : decode cX4_spread 65 = .ok (.getfield 30, 3) := by decide +kernel
theorem dX4_spread_68 : decode cX4_spread 68 = .ok (.if_icmp .gt 34, 3) := by decide +kernel
theorem dX4_spread_71 : decode cX4_spread 71 = .ok (.iload 5, 2) := by decide +kernel
theorem dX4_spread_73 : decode cX4_spread 73 = .ok (.ifCond .eq 11, 3) := by decide +kernel
theorem dX4_spread_76 : decode cX4_spread 76 = .ok (.aload_n 0, 1) := by decide +kernel
theorem dX4_spread_77 : decode cX4_spread 77 = .ok (.getfield 30, 3) := by decide +kernel
theorem dX4_spread_80 : decode cX4_spread 80 = .ok (.iconst 1, 1) := by decide +kernel
theorem dX4_spread_81 : decode cX4_spread 81 = .ok (.if_icmp .lt 21, 3) := by decide +kernel
theorem dX4_spread_84 : decode cX4_spread 84 = .ok (.iload 6, 2) := by decide +kernel
theorem dX4_spread_86 : decode cX4_spread 86 = .ok (.ifCond .eq 24, 3) := by decide +kernel
theorem dX4_spread_89 : decode cX4_spread 89 = .ok (.iload_n 1, 1) := by decide +kernel
theorem dX4_spread_90 : decode cX4_spread 90 = .ok (.iconst 1, 1) := by decide +kernel
theorem dX4_spread_91 : decode cX4_spread 91 = .ok (.iadd, 1) := by decide +kernel
theorem dX4_spread_92 : decode cX4_spread 92 = .ok (.aload_n 0, 1) := by decide +kernel
theorem dX4_spread_93 : decode cX4_spread 93 = .ok (.getfield 26, 3) := by decide +kernel
theorem dX4_spread_96 : decode cX4_spread 96 = .ok (.getfield 37, 3) := by decide +kernel
theorem dX4_spread_99 : decode cX4_spread 99 = .ok (.if_icmp .lt 11, 3) := by decide +kernel
theorem dX4_spread_102 : decode cX4_spread 102 = .ok (.aload_n 0, 1) := by decide +kernel
theorem dX4_spread_103 : decode cX4_spread 103 = .ok (.getfield 18, 3) := by decide +kernel
theorem dX4_spread_106 : decode cX4_spread 106 = .ok (.iload_n 1, 1) := by decide +kernel
theorem dX4_spread_107 : decode cX4_spread 107 = .ok (.iconst 1, 1) := by decide +kernel
theorem dX4_spread_108 : decode cX4_spread 108 = .ok (.bastore, 1) := by decide +kernel
theorem dX4_spread_109 : decode cX4_spread 109 = .ok (.return_, 1) := by decide +kernel
theorem dX4_spread_110 : decode cX4_spread 110 = .ok (.aload_n 0, 1) := by decide +kernel
theorem dX4_spread_111 : decode cX4_spread 111 = .ok (.aload_n 0, 1) := by decide +kernel
theorem dX4_spread_112 : decode cX4_spread 112 = .ok (.getfield 34, 3) := by decide +kernel
theorem dX4_spread_115 : decode cX4_spread 115 = .ok (.iload 4, 2) := by decide +kernel
theorem dX4_spread_117 : decode cX4_spread 117 = .ok (.iload 5, 2) := by decide +kernel
theorem dX4_spread_119 : decode cX4_spread 119 = .ok (.ifCond .eq 7, 3) := by decide +kernel
theorem dX4_spread_122 : decode cX4_spread 122 = .ok (.iconst 1, 1) := by decide +kernel
theorem dX4_spread_123 : decode cX4_spread 123 = .ok (.goto 4, 3) := by decide +kernel
theorem dX4_spread_126 : decode cX4_spread 126 = .ok (.iconst 0, 1) := by decide +kernel
theorem dX4_spread_127 : decode cX4_spread 127 = .ok (.invokestatic 89, 3) := by decide +kernel
theorem dX4_spread_130 : decode cX4_spread 130 = .ok (.invokestatic 89, 3) := by decide +kernel
theorem dX4_spread_133 : decode cX4_spread 133 = .ok (.putfield 34, 3) := by decide +kernel
theorem dX4_spread_136 : decode cX4_spread 136 = .ok (.iload 6, 2) := by decide +kernel
theorem dX4_spread_138 : decode cX4_spread 138 = .ok (.ifCond .eq 12, 3) := by decide +kernel
theorem dX4_spread_141 : decode cX4_spread 141 = .ok (.aload_n 0, 1) := by decide +kernel
theorem dX4_spread_142 : decode cX4_spread 142 = .ok (.iload_n 1, 1) := by decide +kernel
theorem dX4_spread_143 : decode cX4_spread 143 = .ok (.iconst 1, 1) := by decide +kernel
theorem dX4_spread_144 : decode cX4_spread 144 = .ok (.iadd, 1) := by decide +kernel
theorem dX4_spread_145 : decode cX4_spread 145 = .ok (.iload 4, 2) := by decide +kernel
theorem dX4_spread_147 : decode cX4_spread 147 = .ok (.invokevirtual 46, 3) := by decide +kernel
theorem dX4_spread_150 : decode cX4_spread 150 = .ok (.aload_n 0, 1) := by decide +kernel
theorem dX4_spread_151 : decode cX4_spread 151 = .ok (.getfield 26, 3) := by decide +kernel
theorem dX4_spread_154 : decode cX4_spread 154 = .ok (.iload_n 1, 1) := by decide +kernel
theorem dX4_spread_155 : decode cX4_spread 155 = .ok (.invokevirtual 95, 3) := by decide +kernel
theorem dX4_spread_158 : decode cX4_spread 158 = .ok (.istore 7, 2) := by decide +kernel
theorem dX4_spread_160 : decode cX4_spread 160 = .ok (.iconst 0, 1) := by decide +kernel
theorem dX4_spread_161 : decode cX4_spread 161 = .ok (.istore 8, 2) := by decide +kernel
theorem dX4_spread_163 : decode cX4_spread 163 = .ok (.iload 8, 2) := by decide +kernel
theorem dX4_spread_165 : decode cX4_spread 165 = .ok (.iload 7, 2) := by decide +kernel
theorem dX4_spread_167 : decode cX4_spread 167 = .ok (.if_icmp .ge 25, 3) := by decide +kernel
theorem dX4_spread_170 : decode cX4_spread 170 = .ok (.aload_n 0, 1) := by decide +kernel
theorem dX4_spread_171 : decode cX4_spread 171 = .ok (.aload_n 0, 1) := by decide +kernel
theorem dX4_spread_172 : decode cX4_spread 172 = .ok (.getfield 26, 3) := by decide +kernel
theorem dX4_spread_175 : decode cX4_spread 175 = .ok (.iload_n 1, 1) := by decide +kernel
theorem dX4_spread_176 : decode cX4_spread 176 = .ok (.iload 8, 2) := by decide +kernel
theorem dX4_spread_178 : decode cX4_spread 178 = .ok (.invokevirtual 98, 3) := by decide +kernel
theorem dX4_spread_181 : decode cX4_spread 181 = .ok (.iload 4, 2) := by decide +kernel
theorem dX4_spread_183 : decode cX4_spread 183 = .ok (.invokevirtual 46, 3) := by decide +kernel
theorem dX4_spread_186 : decode cX4_spread 186 = .ok (.iinc 8 1, 3) := by decide +kernel
theorem dX4_spread_189 : decode cX4_spread 189 = .ok (.goto (-26), 3) := by decide +kernel
theorem dX4_spread_192 : decode cX4_spread 192 = .ok (.iconst 0, 1) := by decide +kernel
theorem dX4_spread_193 : decode cX4_spread 193 = .ok (.istore 8, 2) := by decide +kernel
theorem dX4_spread_195 : decode cX4_spread 195 = .ok (.iload 5, 2) := by decide +kernel
theorem dX4_spread_197 : decode cX4_spread 197 = .ok (.ifCond .eq 49, 3) := by decide +kernel
theorem dX4_spread_200 : decode cX4_spread 200 = .ok (.iload 8, 2) := by decide +kernel
theorem dX4_spread_202 : decode cX4_spread 202 = .ok (.aload_n 0, 1) := by decide +kernel
theorem dX4_spread_203 : decode cX4_spread 203 = .ok (.getfield 26, 3) := by decide +kernel
theorem dX4_spread_206 : decode cX4_spread 206 = .ok (.getfield 101, 3) := by decide +kernel
theorem dX4_spread_209 : decode cX4_spread 209 = .ok (.if_icmp .ge 37, 3) := by decide +kernel
theorem dX4_spread_212 : decode cX4_spread 212 = .ok (.aload_n 0, 1) := by decide +kernel
theorem dX4_spread_213 : decode cX4_spread 213 = .ok (.getfield 26, 3) := by decide +kernel
theorem dX4_spread_216 : decode cX4_spread 216 = .ok (.iload 8, 2) := by decide +kernel
theorem dX4_spread_218 : decode cX4_spread 218 = .ok (.iload_n 1, 1) := by decide +kernel
theorem dX4_spread_219 : decode cX4_spread 219 = .ok (.invokevirtual 104, 3) := by decide +kernel
theorem dX4_spread_222 : decode cX4_spread 222 = .ok (.ifCond .eq 18, 3) := by decide +kernel
theorem dX4_spread_225 : decode cX4_spread 225 = .ok (.aload_n 0, 1) := by decide +kernel
theorem dX4_spread_226 : decode cX4_spread 226 = .ok (.aload_n 0, 1) := by decide +kernel
theorem dX4_spread_227 : decode cX4_spread 227 = .ok (.getfield 26, 3) := by decide +kernel
theorem dX4_spread_230 : decode cX4_spread 230 = .ok (.getfield 108, 3) := by decide +kernel
theorem dX4_spread_233 : decode cX4_spread 233 = .ok (.iload 8, 2) := by decide +kernel
theorem dX4_spread_235 : decode cX4_spread 235 = .ok (.iaload, 1) := by decide +kernel
theorem dX4_spread_236 : decode cX4_spread 236 = .ok (.iconst 1, 1) := by decide +kernel
theorem dX4_spread_237 : decode cX4_spread 237 = .ok (.invokevirtual 46, 3) := by decide +kernel
theorem dX4_spread_240 : decode cX4_spread 240 = .ok (.iinc 8 1, 3) := by decide +kernel
theorem dX4_spread_243 : decode cX4_spread 243 = .ok (.goto (-48), 3) := by decide +kernel
theorem dX4_spread_246 : decode cX4_spread 246 = .ok (.return_, 1) := by decide +kernel
theorem dX5_addArgument_0 : decode cX5_addArgument 0 = .ok (.aload_n 0, 1) := by decide +kernel
theorem dX5_addArgument_1 : decode cX5_addArgument 1 = .ok (.getfield 54, 3) := by decide +kernel
theorem dX5_addArgument_4 : decode cX5_addArgument 4 = .ok (.bipush 8, 2) := by decide +kernel
theorem dX5_addArgument_6 : decode cX5_addArgument 6 = .ok (.if_icmp .lt 5, 3) := by decide +kernel
theorem dX5_addArgument_9 : decode cX5_addArgument 9 = .ok (.iconst (-1), 1) := by decide +kernel
theorem dX5_addArgument_10 : decode cX5_addArgument 10 = .ok (.ireturn, 1) := by decide +kernel
theorem dX5_addArgument_11 : decode cX5_addArgument 11 = .ok (.aload_n 0, 1) := by decide +kernel
theorem dX5_addArgument_12 : decode cX5_addArgument 12 = .ok (.getfield 22, 3) := by decide +kernel
theorem dX5_addArgument_15 : decode cX5_addArgument 15 = .ok (.aload_n 0, 1) := by decide +kernel
theorem dX5_addArgument_16 : decode cX5_addArgument 16 = .ok (.getfield 54, 3) := by decide +kernel
theorem dX5_addArgument_19 : decode cX5_addArgument 19 = .ok (.lload_n 1, 1) := by decide +kernel
theorem dX5_addArgument_20 : decode cX5_addArgument 20 = .ok (.lastore, 1) := by decide +kernel
theorem dX5_addArgument_21 : decode cX5_addArgument 21 = .ok (.aload_n 0, 1) := by decide +kernel
theorem dX5_addArgument_22 : decode cX5_addArgument 22 = .ok (.dup, 1) := by decide +kernel
theorem dX5_addArgument_23 : decode cX5_addArgument 23 = .ok (.getfield 54, 3) := by decide +kernel
theorem dX5_addArgument_26 : decode cX5_addArgument 26 = .ok (.iconst 1, 1) := by decide +kernel
theorem dX5_addArgument_27 : decode cX5_addArgument 27 = .ok (.iadd, 1) := by decide +kernel
theorem dX5_addArgument_28 : decode cX5_addArgument 28 = .ok (.putfield 54, 3) := by decide +kernel
theorem dX5_addArgument_31 : decode cX5_addArgument 31 = .ok (.aload_n 0, 1) := by decide +kernel
theorem dX5_addArgument_32 : decode cX5_addArgument 32 = .ok (.getfield 54, 3) := by decide +kernel
theorem dX5_addArgument_35 : decode cX5_addArgument 35 = .ok (.ireturn, 1) := by decide +kernel
theorem dX5_arrayStart_0 : decode cX5_arrayStart 0 = .ok (.iload_n 1, 1) := by decide +kernel
theorem dX5_arrayStart_1 : decode cX5_arrayStart 1 = .ok (.aload_n 0, 1) := by decide +kernel
theorem dX5_arrayStart_2 : decode cX5_arrayStart 2 = .ok (.getfield 51, 3) := by decide +kernel
theorem dX5_arrayStart_5 : decode cX5_arrayStart 5 = .ok (.if_icmp .le 8, 3) := by decide +kernel
theorem dX5_arrayStart_8 : decode cX5_arrayStart 8 = .ok (.aload_n 0, 1) := by decide +kernel
theorem dX5_arrayStart_9 : decode cX5_arrayStart 9 = .ok (.getfield 48, 3) := by decide +kernel
theorem dX5_arrayStart_12 : decode cX5_arrayStart 12 = .ok (.ireturn, 1) := by decide +kernel
theorem dX5_arrayStart_13 : decode cX5_arrayStart 13 = .ok (.iload_n 1, 1) := by decide +kernel
theorem dX5_arrayStart_14 : decode cX5_arrayStart 14 = .ok (.ifCond .lt 12, 3) := by decide +kernel
theorem dX5_arrayStart_17 : decode cX5_arrayStart 17 = .ok (.iload_n 1, 1) := by decide +kernel
theorem dX5_arrayStart_18 : decode cX5_arrayStart 18 = .ok (.aload_n 0, 1) := by decide +kernel
theorem dX5_arrayStart_19 : decode cX5_arrayStart 19 = .ok (.getfield 19, 3) := by decide +kernel
theorem dX5_arrayStart_22 : decode cX5_arrayStart 22 = .ok (.arraylength, 1) := by decide +kernel
theorem dX5_arrayStart_23 : decode cX5_arrayStart 23 = .ok (.if_icmp .lt 7, 3) := by decide +kernel
theorem dX5_arrayStart_26 : decode cX5_arrayStart 26 = .ok (.iconst 0, 1) := by decide +kernel
theorem dX5_arrayStart_27 : decode cX5_arrayStart 27 = .ok (.goto 9, 3) := by decide +kernel
theorem dX5_arrayStart_30 : decode cX5_arrayStart 30 = .ok (.aload_n 0, 1) := by decide +kernel
theorem dX5_arrayStart_31 : decode cX5_arrayStart 31 = .ok (.getfield 19, 3) := by decide +kernel
theorem dX5_arrayStart_34 : decode cX5_arrayStart 34 = .ok (.iload_n 1, 1) := by decide +kernel
theorem dX5_arrayStart_35 : decode cX5_arrayStart 35 = .ok (.iaload, 1) := by decide +kernel
theorem dX5_arrayStart_36 : decode cX5_arrayStart 36 = .ok (.ireturn, 1) := by decide +kernel
theorem dX5_calculate_0 : decode cX5_calculate 0 = .ok (.iload_n 1, 1) := by decide +kernel
theorem dX5_calculate_1 : decode cX5_calculate 1 = .ok (.invokestatic 166, 3) := by decide +kernel
theorem dX5_calculate_4 : decode cX5_calculate 4 = .ok (.istore_n 2, 1) := by decide +kernel
theorem dX5_calculate_5 : decode cX5_calculate 5 = .ok (.aload_n 0, 1) := by decide +kernel
theorem dX5_calculate_6 : decode cX5_calculate 6 = .ok (.iload_n 2, 1) := by decide +kernel
theorem dX5_calculate_7 : decode cX5_calculate 7 = .ok (.bipush 15, 2) := by decide +kernel
theorem dX5_calculate_9 : decode cX5_calculate 9 = .ok (.iand, 1) := by decide +kernel
theorem dX5_calculate_10 : decode cX5_calculate 10 = .ok (.invokevirtual 169, 3) := by decide +kernel
theorem dX5_calculate_13 : decode cX5_calculate 13 = .ok (.lstore_n 3, 1) := by decide +kernel
theorem dX5_calculate_14 : decode cX5_calculate 14 = .ok (.aload_n 0, 1) := by decide +kernel
theorem dX5_calculate_15 : decode cX5_calculate 15 = .ok (.iload_n 2, 1) := by decide +kernel
theorem dX5_calculate_16 : decode cX5_calculate 16 = .ok (.iconst 4, 1) := by decide +kernel
theorem dX5_calculate_17 : decode cX5_calculate 17 = .ok (.ishr, 1) := by decide +kernel
theorem dX5_calculate_18 : decode cX5_calculate 18 = .ok (.invokevirtual 169, 3) := by decide +kernel
theorem dX5_calculate_21 : decode cX5_calculate 21 = .ok (.lstore 5, 2) := by decide +kernel
theorem dX5_calculate_23 : decode cX5_calculate 23 = .ok (.iload_n 1, 1) := by decide +kernel
theorem dX5_calculate_24 : decode cX5_calculate 24 = .ok (.invokestatic 208, 3) := by decide +kernel
theorem dX5_calculate_27 : decode cX5_calculate 27 = .ok (.ifCond .eq 15, 3) := by decide +kernel
theorem dX5_calculate_30 : decode cX5_calculate 30 = .ok (.lload_n 3, 1) := by decide +kernel
theorem dX5_calculate_31 : decode cX5_calculate 31 = .ok (.lconst 0, 1) := by decide +kernel
theorem dX5_calculate_32 : decode cX5_calculate 32 = .ok (.lcmp, 1) := by decide +kernel
theorem dX5_calculate_33 : decode cX5_calculate 33 = .ok (.ifCond .ne 9, 3) := by decide +kernel
theorem dX5_calculate_36 : decode cX5_calculate 36 = .ok (.aload_n 0, 1) := by decide +kernel
theorem dX5_calculate_37 : decode cX5_calculate 37 = .ok (.iconst 0, 1) := by decide +kernel
theorem dX5_calculate_38 : decode cX5_calculate 38 = .ok (.invokevirtual 211, 3) := by decide +kernel
theorem dX5_calculate_41 : decode cX5_calculate 41 = .ok (.return_, 1) := by decide +kernel
theorem dX5_calculate_42 : decode cX5_calculate 42 = .ok (.aload_n 0, 1) := by decide +kernel
theorem dX5_calculate_43 : decode cX5_calculate 43 = .ok (.iload_n 1, 1) := by decide +kernel
theorem dX5_calculate_44 : decode cX5_calculate 44 = .ok (.invokestatic 163, 3) := by decide +kernel
theorem dX5_calculate_47 : decode cX5_calculate 47 = .ok (.iload_n 1, 1) := by decide +kernel
theorem dX5_calculate_48 : decode cX5_calculate 48 = .ok (.lload 5, 2) := by decide +kernel
theorem dX5_calculate_50 : decode cX5_calculate 50 = .ok (.lload_n 3, 1) := by decide +kernel
theorem dX5_calculate_51 : decode cX5_calculate 51 = .ok (.invokestatic 214, 3) := by decide +kernel
theorem dX5_calculate_54 : decode cX5_calculate 54 = .ok (.invokevirtual 176, 3) := by decide +kernel
theorem dX5_calculate_57 : decode cX5_calculate 57 = .ok (.aload_n 0, 1) := by decide +kernel
theorem dX5_calculate_58 : decode cX5_calculate 58 = .ok (.dup, 1) := by decide +kernel
theorem dX5_calculate_59 : decode cX5_calculate 59 = .ok (.getfield 123, 3) := by decide +kernel
theorem dX5_calculate_62 : decode cX5_calculate 62 = .ok (.iconst 1, 1) := by decide +kernel
theorem dX5_calculate_63 : decode cX5_calculate 63 = .ok (.iadd, 1) := by decide +kernel
theorem dX5_calculate_64 : decode cX5_calculate 64 = .ok (.putfield 123, 3) := by decide +kernel
theorem dX5_calculate_67 : decode cX5_calculate 67 = .ok (.return_, 1) := by decide +kernel
theorem dX5_closeFrame_0 : decode cX5_closeFrame 0 = .ok (.aload_n 0, 1) := by decide +kernel
theorem dX5_closeFrame_1 : decode cX5_closeFrame 1 = .ok (.iconst 0, 1) := by decide +kernel
theorem dX5_closeFrame_2 : decode cX5_closeFrame 2 = .ok (.aload_n 0, 1) := by decide +kernel
theorem dX5_closeFrame_3 : decode cX5_closeFrame 3 = .ok (.getfield 106, 3) := by decide +kernel
theorem dX5_closeFrame_6 : decode cX5_closeFrame 6 = .ok (.iconst 1, 1) := by decide +kernel
theorem dX5_closeFrame_7 : decode cX5_closeFrame 7 = .ok (.isub, 1) := by decide +kernel
theorem dX5_closeFrame_8 : decode cX5_closeFrame 8 = .ok (.invokestatic 279, 3) := by decide +kernel
theorem dX5_closeFrame_11 : decode cX5_closeFrame 11 = .ok (.putfield 106, 3) := by decide +kernel
theorem dX5_closeFrame_14 : decode cX5_closeFrame 14 = .ok (.aload_n 0, 1) := by decide +kernel
theorem dX5_closeFrame_15 : decode cX5_closeFrame 15 = .ok (.aload_n 0, 1) := by decide +kernel
theorem dX5_closeFrame_16 : decode cX5_closeFrame 16 = .ok (.getfield 38, 3) := by decide +kernel
theorem dX5_closeFrame_19 : decode cX5_closeFrame 19 = .ok (.aload_n 0, 1) := by decide +kernel
theorem dX5_closeFrame_20 : decode cX5_closeFrame 20 = .ok (.iconst 0, 1) := by decide +kernel
theorem dX5_closeFrame_21 : decode cX5_closeFrame 21 = .ok (.invokevirtual 284, 3) := by decide +kernel
theorem dX5_closeFrame_24 : decode cX5_closeFrame 24 = .ok (.invokevirtual 79, 3) := by decide +kernel
theorem dX5_closeFrame_27 : decode cX5_closeFrame 27 = .ok (.putfield 119, 3) := by decide +kernel
theorem dX5_closeFrame_30 : decode cX5_closeFrame 30 = .ok (.aload_n 0, 1) := by decide +kernel
theorem dX5_closeFrame_31 : decode cX5_closeFrame 31 = .ok (.aload_n 0, 1) := by decide +kernel
theorem dX5_closeFrame_32 : decode cX5_closeFrame 32 = .ok (.iconst 1, 1) := by decide +kernel
theorem dX5_closeFrame_33 : decode cX5_closeFrame 33 = .ok (.invokevirtual 284, 3) := by decide +kernel
theorem dX5_closeFrame_36 : decode cX5_closeFrame 36 = .ok (.putfield 123, 3) := by decide +kernel
theorem dX5_closeFrame_39 : decode cX5_closeFrame 39 = .ok (.aload_n 0, 1) := by decide +kernel
theorem dX5_closeFrame_40 : decode cX5_closeFrame 40 = .ok (.aload_n 0, 1) := by decide +kernel
theorem dX5_closeFrame_41 : decode cX5_closeFrame 41 = .ok (.iconst 2, 1) := by decide +kernel
theorem dX5_closeFrame_42 : decode cX5_closeFrame 42 = .ok (.invokevirtual 284, 3) := by decide +kernel
theorem dX5_closeFrame_45 : decode cX5_closeFrame 45 = .ok (.putfield 126, 3) := by decide +kernel
theorem dX5_closeFrame_48 : decode cX5_closeFrame 48 = .ok (.return_, 1) := by decide +kernel
theorem dX5_elementAt_0 : decode cX5_elementAt 0 = .ok (.iload_n 2, 1) := by decide +kernel
theorem dX5_elementAt_1 : decode cX5_elementAt 1 = .ok (.ifCond .lt 12, 3) := by decide +kernel
theorem dX5_elementAt_4 : decode cX5_elementAt 4 = .ok (.iload_n 2, 1) := by decide +kernel
theorem dX5_elementAt_5 : decode cX5_elementAt 5 = .ok (.aload_n 0, 1) := by decide +kernel
theorem dX5_elementAt_6 : decode cX5_elementAt 6 = .ok (.iload_n 1, 1) := by decide +kernel
theorem dX5_elementAt_7 : decode cX5_elementAt 7 = .ok (.invokevirtual 70, 3) := by decide +kernel
theorem dX5_elementAt_10 : decode cX5_elementAt 10 = .ok (.if_icmp .lt 7, 3) := by decide +kernel
theorem dX5_elementAt_13 : decode cX5_elementAt 13 = .ok (.iconst 0, 1) := by decide +kernel
theorem dX5_elementAt_14 : decode cX5_elementAt 14 = .ok (.goto 14, 3) := by decide +kernel
theorem dX5_elementAt_17 : decode cX5_elementAt 17 = .ok (.aload_n 0, 1) := by decide +kernel
theorem dX5_elementAt_18 : decode cX5_elementAt 18 = .ok (.aload_n 0, 1) := by decide +kernel
theorem dX5_elementAt_19 : decode cX5_elementAt 19 = .ok (.iload_n 1, 1) := by decide +kernel
theorem dX5_elementAt_20 : decode cX5_elementAt 20 = .ok (.invokevirtual 66, 3) := by decide +kernel
theorem dX5_elementAt_23 : decode cX5_elementAt 23 = .ok (.iload_n 2, 1) := by decide +kernel
theorem dX5_elementAt_24 : decode cX5_elementAt 24 = .ok (.iadd, 1) := by decide +kernel
theorem dX5_elementAt_25 : decode cX5_elementAt 25 = .ok (.invokevirtual 73, 3) := by decide +kernel
theorem dX5_elementAt_28 : decode cX5_elementAt 28 = .ok (.ireturn, 1) := by decide +kernel
theorem dX5_enter_0 : decode cX5_enter 0 = .ok (.aload_n 0, 1) := by decide +kernel
theorem dX5_enter_1 : decode cX5_enter 1 = .ok (.getfield 106, 3) := by decide +kernel
theorem dX5_enter_4 : decode cX5_enter 4 = .ok (.iconst 1, 1) := by decide +kernel
theorem dX5_enter_5 : decode cX5_enter 5 = .ok (.iadd, 1) := by decide +kernel
theorem dX5_enter_6 : decode cX5_enter 6 = .ok (.bipush 60, 2) := by decide +kernel
theorem dX5_enter_8 : decode cX5_enter 8 = .ok (.if_icmp .lt 9, 3) := by decide +kernel
theorem dX5_enter_11 : decode cX5_enter 11 = .ok (.aload_n 0, 1) := by decide +kernel
theorem dX5_enter_12 : decode cX5_enter 12 = .ok (.iconst 3, 1) := by decide +kernel
theorem dX5_enter_13 : decode cX5_enter 13 = .ok (.putfield 103, 3) := by decide +kernel
theorem dX5_enter_16 : decode cX5_enter 16 = .ok (.return_, 1) := by decide +kernel
theorem dX5_enter_17 : decode cX5_enter 17 = .ok (.aload_n 0, 1) := by decide +kernel
theorem dX5_enter_18 : decode cX5_enter 18 = .ok (.getfield 38, 3) := by decide +kernel
theorem dX5_enter_21 : decode cX5_enter 21 = .ok (.iload_n 1, 1) := by decide +kernel
theorem dX5_enter_22 : decode cX5_enter 22 = .ok (.invokevirtual 83, 3) := by decide +kernel
theorem dX5_enter_25 : decode cX5_enter 25 = .ok (.invokestatic 267, 3) := by decide +kernel
theorem dX5_enter_28 : decode cX5_enter 28 = .ok (.istore_n 2, 1) := by decide +kernel
theorem dX5_enter_29 : decode cX5_enter 29 = .ok (.aload_n 0, 1) := by decide +kernel
theorem dX5_enter_30 : decode cX5_enter 30 = .ok (.getfield 106, 3) := by decide +kernel
theorem dX5_enter_33 : decode cX5_enter 33 = .ok (.bipush 24, 2) := by decide +kernel
theorem dX5_enter_35 : decode cX5_enter 35 = .ok (.imul, 1) := by decide +kernel
theorem dX5_enter_36 : decode cX5_enter 36 = .ok (.aload_n 0, 1) := by decide +kernel
theorem dX5_enter_37 : decode cX5_enter 37 = .ok (.getfield 126, 3) := by decide +kernel
theorem dX5_enter_40 : decode cX5_enter 40 = .ok (.iadd, 1) := by decide +kernel
theorem dX5_enter_41 : decode cX5_enter 41 = .ok (.iload_n 2, 1) := by decide +kernel
theorem dX5_enter_42 : decode cX5_enter 42 = .ok (.isub, 1) := by decide +kernel
theorem dX5_enter_43 : decode cX5_enter 43 = .ok (.istore_n 3, 1) := by decide +kernel
theorem dX5_enter_44 : decode cX5_enter 44 = .ok (.aload_n 0, 1) := by decide +kernel
theorem dX5_enter_45 : decode cX5_enter 45 = .ok (.getfield 106, 3) := by decide +kernel
theorem dX5_enter_48 : decode cX5_enter 48 = .ok (.iconst 1, 1) := by decide +kernel
theorem dX5_enter_49 : decode cX5_enter 49 = .ok (.iadd, 1) := by decide +kernel
theorem dX5_enter_50 : decode cX5_enter 50 = .ok (.bipush 24, 2) := by decide +kernel
theorem dX5_enter_52 : decode cX5_enter 52 = .ok (.imul, 1) := by decide +kernel
theorem dX5_enter_53 : decode cX5_enter 53 = .ok (.istore 4, 2) := by decide +kernel
theorem dX5_enter_55 : decode cX5_enter 55 = .ok (.aload_n 0, 1) := by decide +kernel
theorem dX5_enter_56 : decode cX5_enter 56 = .ok (.getfield 38, 3) := by decide +kernel
theorem dX5_enter_59 : decode cX5_enter 59 = .ok (.iload_n 1, 1) := by decide +kernel
theorem dX5_enter_60 : decode cX5_enter 60 = .ok (.invokevirtual 79, 3) := by decide +kernel
theorem dX5_enter_63 : decode cX5_enter 63 = .ok (.ifnull 32, 3) := by decide +kernel
theorem dX5_enter_66 : decode cX5_enter 66 = .ok (.iload_n 2, 1) := by decide +kernel
theorem dX5_enter_67 : decode cX5_enter 67 = .ok (.aload_n 0, 1) := by decide +kernel
theorem dX5_enter_68 : decode cX5_enter 68 = .ok (.getfield 126, 3) := by decide +kernel
theorem dX5_enter_71 : decode cX5_enter 71 = .ok (.if_icmp .gt 24, 3) := by decide +kernel
theorem dX5_enter_74 : decode cX5_enter 74 = .ok (.iload 4, 2) := by decide +kernel
theorem dX5_enter_76 : decode cX5_enter 76 = .ok (.iload_n 2, 1) := by decide +kernel
theorem dX5_enter_77 : decode cX5_enter 77 = .ok (.iadd, 1) := by decide +kernel
theorem dX5_enter_78 : decode cX5_enter 78 = .ok (.aload_n 0, 1) := by decide +kernel
theorem dX5_enter_79 : decode cX5_enter 79 = .ok (.getfield 25, 3) := by decide +kernel
theorem dX5_enter_82 : decode cX5_enter 82 = .ok (.arraylength, 1) := by decide +kernel
theorem dX5_enter_83 : decode cX5_enter 83 = .ok (.if_icmp .gt 12, 3) := by decide +kernel
theorem dX5_enter_86 : decode cX5_enter 86 = .ok (.aload_n 0, 1) := by decide +kernel
theorem dX5_enter_87 : decode cX5_enter 87 = .ok (.getfield 126, 3) := by decide +kernel
theorem dX5_enter_90 : decode cX5_enter 90 = .ok (.bipush 24, 2) := by decide +kernel
theorem dX5_enter_92 : decode cX5_enter 92 = .ok (.if_icmp .le 24, 3) := by decide +kernel
theorem dX5_enter_95 : decode cX5_enter 95 = .ok (.aload_n 0, 1) := by decide +kernel
theorem dX5_enter_96 : decode cX5_enter 96 = .ok (.dup, 1) := by decide +kernel
theorem dX5_enter_97 : decode cX5_enter 97 = .ok (.getfield 76, 3) := by decide +kernel
theorem dX5_enter_100 : decode cX5_enter 100 = .ok (.iconst 1, 1) := by decide +kernel
theorem dX5_enter_101 : decode cX5_enter 101 = .ok (.iadd, 1) := by decide +kernel
theorem dX5_enter_102 : decode cX5_enter 102 = .ok (.putfield 76, 3) := by decide +kernel
theorem dX5_enter_105 : decode cX5_enter 105 = .ok (.aload_n 0, 1) := by decide +kernel
theorem dX5_enter_106 : decode cX5_enter 106 = .ok (.dup, 1) := by decide +kernel
theorem dX5_enter_107 : decode cX5_enter 107 = .ok (.getfield 123, 3) := by decide +kernel
theorem dX5_enter_110 : decode cX5_enter 110 = .ok (.iconst 1, 1) := by decide +kernel
theorem dX5_enter_111 : decode cX5_enter 111 = .ok (.iadd, 1) := by decide +kernel
theorem dX5_enter_112 : decode cX5_enter 112 = .ok (.putfield 123, 3) := by decide +kernel
theorem dX5_enter_115 : decode cX5_enter 115 = .ok (.return_, 1) := by decide +kernel
theorem dX5_enter_116 : decode cX5_enter 116 = .ok (.aload_n 0, 1) := by decide +kernel
theorem dX5_enter_117 : decode cX5_enter 117 = .ok (.getfield 28, 3) := by decide +kernel
theorem dX5_enter_120 : decode cX5_enter 120 = .ok (.iload_n 3, 1) := by decide +kernel
theorem dX5_enter_121 : decode cX5_enter 121 = .ok (.aload_n 0, 1) := by decide +kernel
theorem dX5_enter_122 : decode cX5_enter 122 = .ok (.getfield 25, 3) := by decide +kernel
theorem dX5_enter_125 : decode cX5_enter 125 = .ok (.iload 4, 2) := by decide +kernel
theorem dX5_enter_127 : decode cX5_enter 127 = .ok (.iload_n 2, 1) := by decide +kernel
theorem dX5_enter_128 : decode cX5_enter 128 = .ok (.invokestatic 270, 3) := by decide +kernel
theorem dX5_enter_131 : decode cX5_enter 131 = .ok (.aload_n 0, 1) := by decide +kernel
theorem dX5_enter_132 : decode cX5_enter 132 = .ok (.iconst 1, 1) := by decide +kernel
theorem dX5_enter_133 : decode cX5_enter 133 = .ok (.aload_n 0, 1) := by decide +kernel
theorem dX5_enter_134 : decode cX5_enter 134 = .ok (.getfield 123, 3) := by decide +kernel
theorem dX5_enter_137 : decode cX5_enter 137 = .ok (.invokevirtual 129, 3) := by decide +kernel
theorem dX5_enter_140 : decode cX5_enter 140 = .ok (.aload_n 0, 1) := by decide +kernel
theorem dX5_enter_141 : decode cX5_enter 141 = .ok (.iconst 2, 1) := by decide +kernel
theorem dX5_enter_142 : decode cX5_enter 142 = .ok (.aload_n 0, 1) := by decide +kernel
theorem dX5_enter_143 : decode cX5_enter 143 = .ok (.getfield 126, 3) := by decide +kernel
theorem dX5_enter_146 : decode cX5_enter 146 = .ok (.iload_n 2, 1) := by decide +kernel
theorem dX5_enter_147 : decode cX5_enter 147 = .ok (.isub, 1) := by decide +kernel
theorem dX5_enter_148 : decode cX5_enter 148 = .ok (.invokevirtual 129, 3) := by decide +kernel
theorem dX5_enter_151 : decode cX5_enter 151 = .ok (.aload_n 0, 1) := by decide +kernel
theorem dX5_enter_152 : decode cX5_enter 152 = .ok (.dup, 1) := by decide +kernel
theorem dX5_enter_153 : decode cX5_enter 153 = .ok (.getfield 106, 3) := by decide +kernel
theorem dX5_enter_156 : decode cX5_enter 156 = .ok (.iconst 1, 1) := by decide +kernel
theorem dX5_enter_157 : decode cX5_enter 157 = .ok (.iadd, 1) := by decide +kernel
theorem dX5_enter_158 : decode cX5_enter 158 = .ok (.putfield 106, 3) := by decide +kernel
theorem dX5_enter_161 : decode cX5_enter 161 = .ok (.aload_n 0, 1) := by decide +kernel
theorem dX5_enter_162 : decode cX5_enter 162 = .ok (.iload_n 1, 1) := by decide +kernel
theorem dX5_enter_163 : decode cX5_enter 163 = .ok (.invokevirtual 109, 3) := by decide +kernel
theorem dX5_enter_166 : decode cX5_enter 166 = .ok (.return_, 1) := by decide +kernel
theorem dX5_fieldAt_0 : decode cX5_fieldAt 0 = .ok (.aload_n 0, 1) := by decide +kernel
theorem dX5_fieldAt_1 : decode cX5_fieldAt 1 = .ok (.getfield 38, 3) := by decide +kernel
theorem dX5_fieldAt_4 : decode cX5_fieldAt 4 = .ok (.ifnull 24, 3) := by decide +kernel
theorem dX5_fieldAt_7 : decode cX5_fieldAt 7 = .ok (.iload_n 1, 1) := by decide +kernel
theorem dX5_fieldAt_8 : decode cX5_fieldAt 8 = .ok (.ifCond .lt 20, 3) := by decide +kernel
theorem dX5_fieldAt_11 : decode cX5_fieldAt 11 = .ok (.iload_n 1, 1) := by decide +kernel
theorem dX5_fieldAt_12 : decode cX5_fieldAt 12 = .ok (.aload_n 0, 1) := by decide +kernel
theorem dX5_fieldAt_13 : decode cX5_fieldAt 13 = .ok (.getfield 38, 3) := by decide +kernel
theorem dX5_fieldAt_16 : decode cX5_fieldAt 16 = .ok (.getfield 57, 3) := by decide +kernel
theorem dX5_fieldAt_19 : decode cX5_fieldAt 19 = .ok (.if_icmp .ge 9, 3) := by decide +kernel
theorem dX5_fieldAt_22 : decode cX5_fieldAt 22 = .ok (.iload_n 1, 1) := by decide +kernel
theorem dX5_fieldAt_23 : decode cX5_fieldAt 23 = .ok (.bipush 24, 2) := by decide +kernel
theorem dX5_fieldAt_25 : decode cX5_fieldAt 25 = .ok (.if_icmp .lt 7, 3) := by decide +kernel
theorem dX5_fieldAt_28 : decode cX5_fieldAt 28 = .ok (.lconst 0, 1) := by decide +kernel
theorem dX5_fieldAt_29 : decode cX5_fieldAt 29 = .ok (.goto 9, 3) := by decide +kernel
theorem dX5_fieldAt_32 : decode cX5_fieldAt 32 = .ok (.aload_n 0, 1) := by decide +kernel
theorem dX5_fieldAt_33 : decode cX5_fieldAt 33 = .ok (.getfield 9, 3) := by decide +kernel
theorem dX5_fieldAt_36 : decode cX5_fieldAt 36 = .ok (.iload_n 1, 1) := by decide +kernel
theorem dX5_fieldAt_37 : decode cX5_fieldAt 37 = .ok (.laload, 1) := by decide +kernel
theorem dX5_fieldAt_38 : decode cX5_fieldAt 38 = .ok (.lreturn, 1) := by decide +kernel
theorem dX5_frameAt_0 : decode cX5_frameAt 0 = .ok (.aload_n 0, 1) := by decide +kernel
theorem dX5_frameAt_1 : decode cX5_frameAt 1 = .ok (.getfield 106, 3) := by decide +kernel
theorem dX5_frameAt_4 : decode cX5_frameAt 4 = .ok (.ifCond .lt 28, 3) := by decide +kernel
theorem dX5_frameAt_7 : decode cX5_frameAt 7 = .ok (.aload_n 0, 1) := by decide +kernel
theorem dX5_frameAt_8 : decode cX5_frameAt 8 = .ok (.getfield 106, 3) := by decide +kernel
theorem dX5_frameAt_11 : decode cX5_frameAt 11 = .ok (.bipush 60, 2) := by decide +kernel
theorem dX5_frameAt_13 : decode cX5_frameAt 13 = .ok (.if_icmp .ge 19, 3) := by decide +kernel
theorem dX5_frameAt_16 : decode cX5_frameAt 16 = .ok (.aload_n 0, 1) := by decide +kernel
theorem dX5_frameAt_17 : decode cX5_frameAt 17 = .ok (.getfield 31, 3) := by decide +kernel
theorem dX5_frameAt_20 : decode cX5_frameAt 20 = .ok (.iconst 3, 1) := by decide +kernel
theorem dX5_frameAt_21 : decode cX5_frameAt 21 = .ok (.aload_n 0, 1) := by decide +kernel
theorem dX5_frameAt_22 : decode cX5_frameAt 22 = .ok (.getfield 106, 3) := by decide +kernel
theorem dX5_frameAt_25 : decode cX5_frameAt 25 = .ok (.imul, 1) := by decide +kernel
theorem dX5_frameAt_26 : decode cX5_frameAt 26 = .ok (.iload_n 1, 1) := by decide +kernel
theorem dX5_frameAt_27 : decode cX5_frameAt 27 = .ok (.iadd, 1) := by decide +kernel
theorem dX5_frameAt_28 : decode cX5_frameAt 28 = .ok (.iaload, 1) := by decide +kernel
theorem dX5_frameAt_29 : decode cX5_frameAt 29 = .ok (.goto 4, 3) := by decide +kernel
theorem dX5_frameAt_32 : decode cX5_frameAt 32 = .ok (.iconst 0, 1) := by decide +kernel
theorem dX5_frameAt_33 : decode cX5_frameAt 33 = .ok (.ireturn, 1) := by decide +kernel
theorem dX5_handlerOf_0 : decode cX5_handlerOf 0 = .ok (.iconst 0, 1) := by decide +kernel
theorem dX5_handlerOf_1 : decode cX5_handlerOf 1 = .ok (.istore_n 2, 1) := by decide +kernel
theorem dX5_handlerOf_2 : decode cX5_handlerOf 2 = .ok (.iload_n 2, 1) := by decide +kernel
theorem dX5_handlerOf_3 : decode cX5_handlerOf 3 = .ok (.aload_n 0, 1) := by decide +kernel
theorem dX5_handlerOf_4 : decode cX5_handlerOf 4 = .ok (.getfield 119, 3) := by decide +kernel
theorem dX5_handlerOf_7 : decode cX5_handlerOf 7 = .ok (.getfield 294, 3) := by decide +kernel
theorem dX5_handlerOf_10 : decode cX5_handlerOf 10 = .ok (.if_icmp .ge 60, 3) := by decide +kernel
theorem dX5_handlerOf_13 : decode cX5_handlerOf 13 = .ok (.aload_n 0, 1) := by decide +kernel
theorem dX5_handlerOf_14 : decode cX5_handlerOf 14 = .ok (.getfield 119, 3) := by decide +kernel
theorem dX5_handlerOf_17 : decode cX5_handlerOf 17 = .ok (.iload_n 2, 1) := by decide +kernel
theorem dX5_handlerOf_18 : decode cX5_handlerOf 18 = .ok (.aload_n 0, 1) := by decide +kernel
theorem dX5_handlerOf_19 : decode cX5_handlerOf 19 = .ok (.getfield 123, 3) := by decide +kernel
theorem dX5_handlerOf_22 : decode cX5_handlerOf 22 = .ok (.invokevirtual 297, 3) := by decide +kernel
theorem dX5_handlerOf_25 : decode cX5_handlerOf 25 = .ok (.ifCond .eq 39, 3) := by decide +kernel
theorem dX5_handlerOf_28 : decode cX5_handlerOf 28 = .ok (.aload_n 0, 1) := by decide +kernel
theorem dX5_handlerOf_29 : decode cX5_handlerOf 29 = .ok (.getfield 119, 3) := by decide +kernel
theorem dX5_handlerOf_32 : decode cX5_handlerOf 32 = .ok (.getfield 301, 3) := by decide +kernel
theorem dX5_handlerOf_35 : decode cX5_handlerOf 35 = .ok (.iload_n 2, 1) := by decide +kernel
theorem dX5_handlerOf_36 : decode cX5_handlerOf 36 = .ok (.iaload, 1) := by decide +kernel
theorem dX5_handlerOf_37 : decode cX5_handlerOf 37 = .ok (.iload_n 1, 1) := by decide +kernel
theorem dX5_handlerOf_38 : decode cX5_handlerOf 38 = .ok (.if_icmp .eq 16, 3) := by decide +kernel
theorem dX5_handlerOf_41 : decode cX5_handlerOf 41 = .ok (.aload_n 0, 1) := by decide +kernel
theorem dX5_handlerOf_42 : decode cX5_handlerOf 42 = .ok (.getfield 119, 3) := by decide +kernel
theorem dX5_handlerOf_45 : decode cX5_handlerOf 45 = .ok (.getfield 301, 3) := by decide +kernel
theorem dX5_handlerOf_48 : decode cX5_handlerOf 48 = .ok (.iload_n 2, 1) := by decide +kernel
theorem dX5_handlerOf_49 : decode cX5_handlerOf 49 = .ok (.iaload, 1) := by decide +kernel
theorem dX5_handlerOf_50 : decode cX5_handlerOf 50 = .ok (.iconst (-1), 1) := by decide +kernel
theorem dX5_handlerOf_51 : decode cX5_handlerOf 51 = .ok (.if_icmp .ne 13, 3) := by decide +kernel
theorem dX5_handlerOf_54 : decode cX5_handlerOf 54 = .ok (.aload_n 0, 1) := by decide +kernel
theorem dX5_handlerOf_55 : decode cX5_handlerOf 55 = .ok (.getfield 119, 3) := by decide +kernel
theorem dX5_handlerOf_58 : decode cX5_handlerOf 58 = .ok (.getfield 304, 3) := by decide +kernel
theorem dX5_handlerOf_61 : decode cX5_handlerOf 61 = .ok (.iload_n 2, 1) := by decide +kernel
theorem dX5_handlerOf_62 : decode cX5_handlerOf 62 = .ok (.iaload, 1) := by decide +kernel
theorem dX5_handlerOf_63 : decode cX5_handlerOf 63 = .ok (.ireturn, 1) := by decide +kernel
theorem dX5_handlerOf_64 : decode cX5_handlerOf 64 = .ok (.iinc 2 1, 3) := by decide +kernel
theorem dX5_handlerOf_67 : decode cX5_handlerOf 67 = .ok (.goto (-65), 3) := by decide +kernel
theorem dX5_handlerOf_70 : decode cX5_handlerOf 70 = .ok (.iconst (-1), 1) := by decide +kernel
theorem dX5_handlerOf_71 : decode cX5_handlerOf 71 = .ok (.ireturn, 1) := by decide +kernel
theorem dX5_heapAt_0 : decode cX5_heapAt 0 = .ok (.iload_n 1, 1) := by decide +kernel
theorem dX5_heapAt_1 : decode cX5_heapAt 1 = .ok (.ifCond .lt 20, 3) := by decide +kernel
theorem dX5_heapAt_4 : decode cX5_heapAt 4 = .ok (.iload_n 1, 1) := by decide +kernel
theorem dX5_heapAt_5 : decode cX5_heapAt 5 = .ok (.aload_n 0, 1) := by decide +kernel
theorem dX5_heapAt_6 : decode cX5_heapAt 6 = .ok (.getfield 48, 3) := by decide +kernel
theorem dX5_heapAt_9 : decode cX5_heapAt 9 = .ok (.if_icmp .ge 12, 3) := by decide +kernel
theorem dX5_heapAt_12 : decode cX5_heapAt 12 = .ok (.iload_n 1, 1) := by decide +kernel
theorem dX5_heapAt_13 : decode cX5_heapAt 13 = .ok (.aload_n 0, 1) := by decide +kernel
theorem dX5_heapAt_14 : decode cX5_heapAt 14 = .ok (.getfield 15, 3) := by decide +kernel
theorem dX5_heapAt_17 : decode cX5_heapAt 17 = .ok (.arraylength, 1) := by decide +kernel
theorem dX5_heapAt_18 : decode cX5_heapAt 18 = .ok (.if_icmp .lt 15, 3) := by decide +kernel
theorem dX5_heapAt_21 : decode cX5_heapAt 21 = .ok (.aload_n 0, 1) := by decide +kernel
theorem dX5_heapAt_22 : decode cX5_heapAt 22 = .ok (.dup, 1) := by decide +kernel
theorem dX5_heapAt_23 : decode cX5_heapAt 23 = .ok (.getfield 76, 3) := by decide +kernel
theorem dX5_heapAt_26 : decode cX5_heapAt 26 = .ok (.iconst 1, 1) := by decide +kernel
theorem dX5_heapAt_27 : decode cX5_heapAt 27 = .ok (.iadd, 1) := by decide +kernel
theorem dX5_heapAt_28 : decode cX5_heapAt 28 = .ok (.putfield 76, 3) := by decide +kernel
theorem dX5_heapAt_31 : decode cX5_heapAt 31 = .ok (.iconst 0, 1) := by decide +kernel
theorem dX5_heapAt_32 : decode cX5_heapAt 32 = .ok (.ireturn, 1) := by decide +kernel
theorem dX5_heapAt_33 : decode cX5_heapAt 33 = .ok (.aload_n 0, 1) := by decide +kernel
theorem dX5_heapAt_34 : decode cX5_heapAt 34 = .ok (.getfield 15, 3) := by decide +kernel
theorem dX5_heapAt_37 : decode cX5_heapAt 37 = .ok (.iload_n 1, 1) := by decide +kernel
theorem dX5_heapAt_38 : decode cX5_heapAt 38 = .ok (.iaload, 1) := by decide +kernel
theorem dX5_heapAt_39 : decode cX5_heapAt 39 = .ok (.ireturn, 1) := by decide +kernel
theorem dX5_init_0 : decode cX5_init 0 = .ok (.aload_n 0, 1) := by decide +kernel
theorem dX5_init_1 : decode cX5_init 1 = .ok (.invokespecial 3, 3) := by decide +kernel
theorem dX5_init_4 : decode cX5_init 4 = .ok (.aload_n 0, 1) := by decide +kernel
theorem dX5_init_5 : decode cX5_init 5 = .ok (.bipush 24, 2) := by decide +kernel
theorem dX5_init_7 : decode cX5_init 7 = .ok (.newarray .long, 2) := by decide +kernel
theorem dX5_init_9 : decode cX5_init 9 = .ok (.putfield 9, 3) := by decide +kernel
theorem dX5_init_12 : decode cX5_init 12 = .ok (.aload_n 0, 1) := by decide +kernel
theorem dX5_init_13 : decode cX5_init 13 = .ok (.iconst 0, 1) := by decide +kernel
theorem dX5_init_14 : decode cX5_init 14 = .ok (.newarray .int, 2) := by decide +kernel
theorem dX5_init_16 : decode cX5_init 16 = .ok (.putfield 15, 3) := by decide +kernel
theorem dX5_init_19 : decode cX5_init 19 = .ok (.aload_n 0, 1) := by decide +kernel
theorem dX5_init_20 : decode cX5_init 20 = .ok (.bipush 8, 2) := by decide +kernel
theorem dX5_init_22 : decode cX5_init 22 = .ok (.newarray .int, 2) := by decide +kernel
theorem dX5_init_24 : decode cX5_init 24 = .ok (.putfield 19, 3) := by decide +kernel
theorem dX5_init_27 : decode cX5_init 27 = .ok (.aload_n 0, 1) := by decide +kernel
theorem dX5_init_28 : decode cX5_init 28 = .ok (.bipush 8, 2) := by decide +kernel
theorem dX5_init_30 : decode cX5_init 30 = .ok (.newarray .long, 2) := by decide +kernel
theorem dX5_init_32 : decode cX5_init 32 = .ok (.putfield 22, 3) := by decide +kernel
theorem dX5_init_35 : decode cX5_init 35 = .ok (.aload_n 0, 1) := by decide +kernel
theorem dX5_init_36 : decode cX5_init 36 = .ok (.iconst 0, 1) := by decide +kernel
theorem dX5_init_37 : decode cX5_init 37 = .ok (.newarray .long, 2) := by decide +kernel
theorem dX5_init_39 : decode cX5_init 39 = .ok (.putfield 25, 3) := by decide +kernel
theorem dX5_init_42 : decode cX5_init 42 = .ok (.aload_n 0, 1) := by decide +kernel
theorem dX5_init_43 : decode cX5_init 43 = .ok (.iconst 0, 1) := by decide +kernel
theorem dX5_init_44 : decode cX5_init 44 = .ok (.newarray .long, 2) := by decide +kernel
theorem dX5_init_46 : decode cX5_init 46 = .ok (.putfield 28, 3) := by decide +kernel
theorem dX5_init_49 : decode cX5_init 49 = .ok (.aload_n 0, 1) := by decide +kernel
theorem dX5_init_50 : decode cX5_init 50 = .ok (.sipush 180, 3) := by decide +kernel
theorem dX5_init_53 : decode cX5_init 53 = .ok (.newarray .int, 2) := by decide +kernel
theorem dX5_init_55 : decode cX5_init 55 = .ok (.putfield 31, 3) := by decide +kernel
theorem dX5_init_58 : decode cX5_init 58 = .ok (.aload_n 0, 1) := by decide +kernel
theorem dX5_init_59 : decode cX5_init 59 = .ok (.iconst (-1), 1) := by decide +kernel
theorem dX5_init_60 : decode cX5_init 60 = .ok (.putfield 34, 3) := by decide +kernel
theorem dX5_init_63 : decode cX5_init 63 = .ok (.return_, 1) := by decide +kernel
theorem dX5_isArray_0 : decode cX5_isArray 0 = .ok (.lload_n 1, 1) := by decide +kernel
theorem dX5_isArray_1 : decode cX5_isArray 1 = .ok (.lconst 1, 1) := by decide +kernel
theorem dX5_isArray_2 : decode cX5_isArray 2 = .ok (.lcmp, 1) := by decide +kernel
theorem dX5_isArray_3 : decode cX5_isArray 3 = .ok (.ifCond .lt 17, 3) := by decide +kernel
theorem dX5_isArray_6 : decode cX5_isArray 6 = .ok (.lload_n 1, 1) := by decide +kernel
theorem dX5_isArray_7 : decode cX5_isArray 7 = .ok (.aload_n 0, 1) := by decide +kernel
theorem dX5_isArray_8 : decode cX5_isArray 8 = .ok (.getfield 51, 3) := by decide +kernel
theorem dX5_isArray_11 : decode cX5_isArray 11 = .ok (.i2l, 1) := by decide +kernel
theorem dX5_isArray_12 : decode cX5_isArray 12 = .ok (.lcmp, 1) := by decide +kernel
theorem dX5_isArray_13 : decode cX5_isArray 13 = .ok (.ifCond .gt 7, 3) := by decide +kernel
theorem dX5_isArray_16 : decode cX5_isArray 16 = .ok (.iconst 1, 1) := by decide +kernel
theorem dX5_isArray_17 : decode cX5_isArray 17 = .ok (.goto 4, 3) := by decide +kernel
theorem dX5_isArray_20 : decode cX5_isArray 20 = .ok (.iconst 0, 1) := by decide +kernel
theorem dX5_isArray_21 : decode cX5_isArray 21 = .ok (.ireturn, 1) := by decide +kernel
theorem dX5_isJumpTaken_0 : decode cX5_isJumpTaken 0 = .ok (.iload_n 1, 1) := by decide +kernel
theorem dX5_isJumpTaken_1 : decode cX5_isJumpTaken 1 = .ok (.sipush 167, 3) := by decide +kernel
theorem dX5_isJumpTaken_4 : decode cX5_isJumpTaken 4 = .ok (.if_icmp .ne 5, 3) := by decide +kernel
theorem dX5_isJumpTaken_7 : decode cX5_isJumpTaken 7 = .ok (.iconst 1, 1) := by decide +kernel
theorem dX5_isJumpTaken_8 : decode cX5_isJumpTaken 8 = .ok (.ireturn, 1) := by decide +kernel
theorem dX5_isJumpTaken_9 : decode cX5_isJumpTaken 9 = .ok (.aload_n 0, 1) := by decide +kernel
theorem dX5_isJumpTaken_10 : decode cX5_isJumpTaken 10 = .ok (.invokevirtual 141, 3) := by decide +kernel
theorem dX5_isJumpTaken_13 : decode cX5_isJumpTaken 13 = .ok (.lstore_n 2, 1) := by decide +kernel
theorem dX5_isJumpTaken_14 : decode cX5_isJumpTaken 14 = .ok (.iload_n 1, 1) := by decide +kernel
theorem dX5_isJumpTaken_15 : decode cX5_isJumpTaken 15 = .ok (.lookupswitch 95 #[(165, 65), (166, 80), (198, 41), (199, 53)], 41) := by decide +kernel
theorem dX5_isJumpTaken_56 : decode cX5_isJumpTaken 56 = .ok (.lload_n 2, 1) := by decide +kernel
theorem dX5_isJumpTaken_57 : decode cX5_isJumpTaken 57 = .ok (.lconst 0, 1) := by decide +kernel
theorem dX5_isJumpTaken_58 : decode cX5_isJumpTaken 58 = .ok (.lcmp, 1) := by decide +kernel
theorem dX5_isJumpTaken_59 : decode cX5_isJumpTaken 59 = .ok (.ifCond .ne 7, 3) := by decide +kernel
theorem dX5_isJumpTaken_62 : decode cX5_isJumpTaken 62 = .ok (.iconst 1, 1) := by decide +kernel
theorem dX5_isJumpTaken_63 : decode cX5_isJumpTaken 63 = .ok (.goto 4, 3) := by decide +kernel
theorem dX5_isJumpTaken_66 : decode cX5_isJumpTaken 66 = .ok (.iconst 0, 1) := by decide +kernel
theorem dX5_isJumpTaken_67 : decode cX5_isJumpTaken 67 = .ok (.ireturn, 1) := by decide +kernel
theorem dX5_isJumpTaken_68 : decode cX5_isJumpTaken 68 = .ok (.lload_n 2, 1) := by decide +kernel
theorem dX5_isJumpTaken_69 : decode cX5_isJumpTaken 69 = .ok (.lconst 0, 1) := by decide +kernel
theorem dX5_isJumpTaken_70 : decode cX5_isJumpTaken 70 = .ok (.lcmp, 1) := by decide +kernel
theorem dX5_isJumpTaken_71 : decode cX5_isJumpTaken 71 = .ok (.ifCond .eq 7, 3) := by decide +kernel
theorem dX5_isJumpTaken_74 : decode cX5_isJumpTaken 74 = .ok (.iconst 1, 1) := by decide +kernel
theorem dX5_isJumpTaken_75 : decode cX5_isJumpTaken 75 = .ok (.goto 4, 3) := by decide +kernel
theorem dX5_isJumpTaken_78 : decode cX5_isJumpTaken 78 = .ok (.iconst 0, 1) := by decide +kernel
theorem dX5_isJumpTaken_79 : decode cX5_isJumpTaken 79 = .ok (.ireturn, 1) := by decide +kernel
theorem dX5_isJumpTaken_80 : decode cX5_isJumpTaken 80 = .ok (.aload_n 0, 1) := by decide +kernel
theorem dX5_isJumpTaken_81 : decode cX5_isJumpTaken 81 = .ok (.invokevirtual 141, 3) := by decide +kernel
theorem dX5_isJumpTaken_84 : decode cX5_isJumpTaken 84 = .ok (.lload_n 2, 1) := by decide +kernel
theorem dX5_isJumpTaken_85 : decode cX5_isJumpTaken 85 = .ok (.lcmp, 1) := by decide +kernel
theorem dX5_isJumpTaken_86 : decode cX5_isJumpTaken 86 = .ok (.ifCond .ne 7, 3) := by decide +kernel
theorem dX5_isJumpTaken_89 : decode cX5_isJumpTaken 89 = .ok (.iconst 1, 1) := by decide +kernel
theorem dX5_isJumpTaken_90 : decode cX5_isJumpTaken 90 = .ok (.goto 4, 3) := by decide +kernel
theorem dX5_isJumpTaken_93 : decode cX5_isJumpTaken 93 = .ok (.iconst 0, 1) := by decide +kernel
theorem dX5_isJumpTaken_94 : decode cX5_isJumpTaken 94 = .ok (.ireturn, 1) := by decide +kernel
theorem dX5_isJumpTaken_95 : decode cX5_isJumpTaken 95 = .ok (.aload_n 0, 1) := by decide +kernel
theorem dX5_isJumpTaken_96 : decode cX5_isJumpTaken 96 = .ok (.invokevirtual 141, 3) := by decide +kernel
theorem dX5_isJumpTaken_99 : decode cX5_isJumpTaken 99 = .ok (.lload_n 2, 1) := by decide +kernel
theorem dX5_isJumpTaken_100 : decode cX5_isJumpTaken 100 = .ok (.lcmp, 1) := by decide +kernel
theorem dX5_isJumpTaken_101 : decode cX5_isJumpTaken 101 = .ok (.ifCond .eq 7, 3) := by decide +kernel
theorem dX5_isJumpTaken_104 : decode cX5_isJumpTaken 104 = .ok (.iconst 1, 1) := by decide +kernel
theorem dX5_isJumpTaken_105 : decode cX5_isJumpTaken 105 = .ok (.goto 4, 3) := by decide +kernel
theorem dX5_isJumpTaken_108 : decode cX5_isJumpTaken 108 = .ok (.iconst 0, 1) := by decide +kernel
theorem dX5_isJumpTaken_109 : decode cX5_isJumpTaken 109 = .ok (.ireturn, 1) := by decide +kernel
theorem dX5_isJumpTaken_110 : decode cX5_isJumpTaken 110 = .ok (.iload_n 1, 1) := by decide +kernel
theorem dX5_isJumpTaken_111 : decode cX5_isJumpTaken 111 = .ok (.sipush 159, 3) := by decide +kernel
theorem dX5_isJumpTaken_114 : decode cX5_isJumpTaken 114 = .ok (.if_icmp .ge 13, 3) := by decide +kernel
theorem dX5_isJumpTaken_117 : decode cX5_isJumpTaken 117 = .ok (.iload_n 1, 1) := by decide +kernel
theorem dX5_isJumpTaken_118 : decode cX5_isJumpTaken 118 = .ok (.lload_n 2, 1) := by decide +kernel
theorem dX5_isJumpTaken_119 : decode cX5_isJumpTaken 119 = .ok (.l2i, 1) := by decide +kernel
theorem dX5_isJumpTaken_120 : decode cX5_isJumpTaken 120 = .ok (.iconst 0, 1) := by decide +kernel
theorem dX5_isJumpTaken_121 : decode cX5_isJumpTaken 121 = .ok (.invokestatic 218, 3) := by decide +kernel
theorem dX5_isJumpTaken_124 : decode cX5_isJumpTaken 124 = .ok (.goto 14, 3) := by decide +kernel
theorem dX5_isJumpTaken_127 : decode cX5_isJumpTaken 127 = .ok (.iload_n 1, 1) := by decide +kernel
theorem dX5_isJumpTaken_128 : decode cX5_isJumpTaken 128 = .ok (.aload_n 0, 1) := by decide +kernel
theorem dX5_isJumpTaken_129 : decode cX5_isJumpTaken 129 = .ok (.invokevirtual 141, 3) := by decide +kernel
theorem dX5_isJumpTaken_132 : decode cX5_isJumpTaken 132 = .ok (.l2i, 1) := by decide +kernel
theorem dX5_isJumpTaken_133 : decode cX5_isJumpTaken 133 = .ok (.lload_n 2, 1) := by decide +kernel
theorem dX5_isJumpTaken_134 : decode cX5_isJumpTaken 134 = .ok (.l2i, 1) := by decide +kernel
theorem dX5_isJumpTaken_135 : decode cX5_isJumpTaken 135 = .ok (.invokestatic 218, 3) := by decide +kernel
theorem dX5_isJumpTaken_138 : decode cX5_isJumpTaken 138 = .ok (.ireturn, 1) := by decide +kernel
theorem dX5_leave_0 : decode cX5_leave 0 = .ok (.iload_n 1, 1) := by decide +kernel
theorem dX5_leave_1 : decode cX5_leave 1 = .ok (.invokestatic 166, 3) := by decide +kernel
theorem dX5_leave_4 : decode cX5_leave 4 = .ok (.istore_n 2, 1) := by decide +kernel
theorem dX5_leave_5 : decode cX5_leave 5 = .ok (.aload_n 0, 1) := by decide +kernel
theorem dX5_leave_6 : decode cX5_leave 6 = .ok (.iload_n 2, 1) := by decide +kernel
theorem dX5_leave_7 : decode cX5_leave 7 = .ok (.invokevirtual 169, 3) := by decide +kernel
theorem dX5_leave_10 : decode cX5_leave 10 = .ok (.lstore_n 3, 1) := by decide +kernel
theorem dX5_leave_11 : decode cX5_leave 11 = .ok (.aload_n 0, 1) := by decide +kernel
theorem dX5_leave_12 : decode cX5_leave 12 = .ok (.getfield 106, 3) := by decide +kernel
theorem dX5_leave_15 : decode cX5_leave 15 = .ok (.ifCond .ne 14, 3) := by decide +kernel
theorem dX5_leave_18 : decode cX5_leave 18 = .ok (.aload_n 0, 1) := by decide +kernel
theorem dX5_leave_19 : decode cX5_leave 19 = .ok (.iconst 0, 1) := by decide +kernel
theorem dX5_leave_20 : decode cX5_leave 20 = .ok (.putfield 103, 3) := by decide +kernel
theorem dX5_leave_23 : decode cX5_leave 23 = .ok (.aload_n 0, 1) := by decide +kernel
theorem dX5_leave_24 : decode cX5_leave 24 = .ok (.lload_n 3, 1) := by decide +kernel
theorem dX5_leave_25 : decode cX5_leave 25 = .ok (.putfield 96, 3) := by decide +kernel
theorem dX5_leave_28 : decode cX5_leave 28 = .ok (.return_, 1) := by decide +kernel
theorem dX5_leave_29 : decode cX5_leave 29 = .ok (.aload_n 0, 1) := by decide +kernel
theorem dX5_leave_30 : decode cX5_leave 30 = .ok (.invokevirtual 276, 3) := by decide +kernel
theorem dX5_leave_33 : decode cX5_leave 33 = .ok (.aload_n 0, 1) := by decide +kernel
theorem dX5_leave_34 : decode cX5_leave 34 = .ok (.iload_n 2, 1) := by decide +kernel
theorem dX5_leave_35 : decode cX5_leave 35 = .ok (.lload_n 3, 1) := by decide +kernel
theorem dX5_leave_36 : decode cX5_leave 36 = .ok (.invokevirtual 176, 3) := by decide +kernel
theorem dX5_leave_39 : decode cX5_leave 39 = .ok (.aload_n 0, 1) := by decide +kernel
theorem dX5_leave_40 : decode cX5_leave 40 = .ok (.dup, 1) := by decide +kernel
theorem dX5_leave_41 : decode cX5_leave 41 = .ok (.getfield 123, 3) := by decide +kernel
theorem dX5_leave_44 : decode cX5_leave 44 = .ok (.iconst 1, 1) := by decide +kernel
theorem dX5_leave_45 : decode cX5_leave 45 = .ok (.iadd, 1) := by decide +kernel
theorem dX5_leave_46 : decode cX5_leave 46 = .ok (.putfield 123, 3) := by decide +kernel
theorem dX5_leave_49 : decode cX5_leave 49 = .ok (.return_, 1) := by decide +kernel
theorem dX5_lengthOf_0 : decode cX5_lengthOf 0 = .ok (.aload_n 0, 1) := by decide +kernel
theorem dX5_lengthOf_1 : decode cX5_lengthOf 1 = .ok (.iload_n 1, 1) := by decide +kernel
theorem dX5_lengthOf_2 : decode cX5_lengthOf 2 = .ok (.i2l, 1) := by decide +kernel
theorem dX5_lengthOf_3 : decode cX5_lengthOf 3 = .ok (.invokevirtual 62, 3) := by decide +kernel
theorem dX5_lengthOf_6 : decode cX5_lengthOf 6 = .ok (.ifCond .eq 19, 3) := by decide +kernel
theorem dX5_lengthOf_9 : decode cX5_lengthOf 9 = .ok (.aload_n 0, 1) := by decide +kernel
theorem dX5_lengthOf_10 : decode cX5_lengthOf 10 = .ok (.iload_n 1, 1) := by decide +kernel
theorem dX5_lengthOf_11 : decode cX5_lengthOf 11 = .ok (.iconst 1, 1) := by decide +kernel
theorem dX5_lengthOf_12 : decode cX5_lengthOf 12 = .ok (.iadd, 1) := by decide +kernel
theorem dX5_lengthOf_13 : decode cX5_lengthOf 13 = .ok (.invokevirtual 66, 3) := by decide +kernel
theorem dX5_lengthOf_16 : decode cX5_lengthOf 16 = .ok (.aload_n 0, 1) := by decide +kernel
theorem dX5_lengthOf_17 : decode cX5_lengthOf 17 = .ok (.iload_n 1, 1) := by decide +kernel
theorem dX5_lengthOf_18 : decode cX5_lengthOf 18 = .ok (.invokevirtual 66, 3) := by decide +kernel
theorem dX5_lengthOf_21 : decode cX5_lengthOf 21 = .ok (.isub, 1) := by decide +kernel
theorem dX5_lengthOf_22 : decode cX5_lengthOf 22 = .ok (.goto 4, 3) := by decide +kernel
theorem dX5_lengthOf_25 : decode cX5_lengthOf 25 = .ok (.iconst (-1), 1) := by decide +kernel
theorem dX5_lengthOf_26 : decode cX5_lengthOf 26 = .ok (.ireturn, 1) := by decide +kernel
theorem dX5_localAt_0 : decode cX5_localAt 0 = .ok (.aload_n 0, 1) := by decide +kernel
theorem dX5_localAt_1 : decode cX5_localAt 1 = .ok (.getfield 106, 3) := by decide +kernel
theorem dX5_localAt_4 : decode cX5_localAt 4 = .ok (.bipush 24, 2) := by decide +kernel
theorem dX5_localAt_6 : decode cX5_localAt 6 = .ok (.imul, 1) := by decide +kernel
theorem dX5_localAt_7 : decode cX5_localAt 7 = .ok (.iload_n 1, 1) := by decide +kernel
theorem dX5_localAt_8 : decode cX5_localAt 8 = .ok (.iadd, 1) := by decide +kernel
theorem dX5_localAt_9 : decode cX5_localAt 9 = .ok (.istore_n 2, 1) := by decide +kernel
theorem dX5_localAt_10 : decode cX5_localAt 10 = .ok (.iload_n 1, 1) := by decide +kernel
theorem dX5_localAt_11 : decode cX5_localAt 11 = .ok (.ifCond .lt 22, 3) := by decide +kernel
theorem dX5_localAt_14 : decode cX5_localAt 14 = .ok (.iload_n 1, 1) := by decide +kernel
theorem dX5_localAt_15 : decode cX5_localAt 15 = .ok (.bipush 24, 2) := by decide +kernel
theorem dX5_localAt_17 : decode cX5_localAt 17 = .ok (.if_icmp .ge 16, 3) := by decide +kernel
theorem dX5_localAt_20 : decode cX5_localAt 20 = .ok (.iload_n 2, 1) := by decide +kernel
theorem dX5_localAt_21 : decode cX5_localAt 21 = .ok (.ifCond .lt 12, 3) := by decide +kernel
theorem dX5_localAt_24 : decode cX5_localAt 24 = .ok (.iload_n 2, 1) := by decide +kernel
theorem dX5_localAt_25 : decode cX5_localAt 25 = .ok (.aload_n 0, 1) := by decide +kernel
theorem dX5_localAt_26 : decode cX5_localAt 26 = .ok (.getfield 25, 3) := by decide +kernel
theorem dX5_localAt_29 : decode cX5_localAt 29 = .ok (.arraylength, 1) := by decide +kernel
theorem dX5_localAt_30 : decode cX5_localAt 30 = .ok (.if_icmp .lt 15, 3) := by decide +kernel
theorem dX5_localAt_33 : decode cX5_localAt 33 = .ok (.aload_n 0, 1) := by decide +kernel
theorem dX5_localAt_34 : decode cX5_localAt 34 = .ok (.dup, 1) := by decide +kernel
theorem dX5_localAt_35 : decode cX5_localAt 35 = .ok (.getfield 76, 3) := by decide +kernel
theorem dX5_localAt_38 : decode cX5_localAt 38 = .ok (.iconst 1, 1) := by decide +kernel
theorem dX5_localAt_39 : decode cX5_localAt 39 = .ok (.iadd, 1) := by decide +kernel
theorem dX5_localAt_40 : decode cX5_localAt 40 = .ok (.putfield 76, 3) := by decide +kernel
theorem dX5_localAt_43 : decode cX5_localAt 43 = .ok (.lconst 0, 1) := by decide +kernel
theorem dX5_localAt_44 : decode cX5_localAt 44 = .ok (.lreturn, 1) := by decide +kernel
theorem dX5_localAt_45 : decode cX5_localAt 45 = .ok (.aload_n 0, 1) := by decide +kernel
theorem dX5_localAt_46 : decode cX5_localAt 46 = .ok (.getfield 25, 3) := by decide +kernel
theorem dX5_localAt_49 : decode cX5_localAt 49 = .ok (.iload_n 2, 1) := by decide +kernel
theorem dX5_localAt_50 : decode cX5_localAt 50 = .ok (.laload, 1) := by decide +kernel
theorem dX5_localAt_51 : decode cX5_localAt 51 = .ok (.lreturn, 1) := by decide +kernel
theorem dX5_makeArray_0 : decode cX5_makeArray 0 = .ok (.iload_n 1, 1) := by decide +kernel
theorem dX5_makeArray_1 : decode cX5_makeArray 1 = .ok (.ifCond .ge 9, 3) := by decide +kernel
theorem dX5_makeArray_4 : decode cX5_makeArray 4 = .ok (.aload_n 0, 1) := by decide +kernel
theorem dX5_makeArray_5 : decode cX5_makeArray 5 = .ok (.iconst 3, 1) := by decide +kernel
theorem dX5_makeArray_6 : decode cX5_makeArray 6 = .ok (.invokevirtual 211, 3) := by decide +kernel
theorem dX5_makeArray_9 : decode cX5_makeArray 9 = .ok (.return_, 1) := by decide +kernel
theorem dX5_makeArray_10 : decode cX5_makeArray 10 = .ok (.aload_n 0, 1) := by decide +kernel
theorem dX5_makeArray_11 : decode cX5_makeArray 11 = .ok (.getfield 51, 3) := by decide +kernel
theorem dX5_makeArray_14 : decode cX5_makeArray 14 = .ok (.sipush 400, 3) := by decide +kernel
theorem dX5_makeArray_17 : decode cX5_makeArray 17 = .ok (.if_icmp .ge 15, 3) := by decide +kernel
theorem dX5_makeArray_20 : decode cX5_makeArray 20 = .ok (.iload_n 1, 1) := by decide +kernel
theorem dX5_makeArray_21 : decode cX5_makeArray 21 = .ok (.sipush 20000, 3) := by decide +kernel
theorem dX5_makeArray_24 : decode cX5_makeArray 24 = .ok (.aload_n 0, 1) := by decide +kernel
theorem dX5_makeArray_25 : decode cX5_makeArray 25 = .ok (.getfield 48, 3) := by decide +kernel
theorem dX5_makeArray_28 : decode cX5_makeArray 28 = .ok (.isub, 1) := by decide +kernel
theorem dX5_makeArray_29 : decode cX5_makeArray 29 = .ok (.if_icmp .le 9, 3) := by decide +kernel
theorem dX5_makeArray_32 : decode cX5_makeArray 32 = .ok (.aload_n 0, 1) := by decide +kernel
theorem dX5_makeArray_33 : decode cX5_makeArray 33 = .ok (.iconst 4, 1) := by decide +kernel
theorem dX5_makeArray_34 : decode cX5_makeArray 34 = .ok (.putfield 103, 3) := by decide +kernel
theorem dX5_makeArray_37 : decode cX5_makeArray 37 = .ok (.return_, 1) := by decide +kernel
theorem dX5_makeArray_38 : decode cX5_makeArray 38 = .ok (.aload_n 0, 1) := by decide +kernel
theorem dX5_makeArray_39 : decode cX5_makeArray 39 = .ok (.dup, 1) := by decide +kernel
theorem dX5_makeArray_40 : decode cX5_makeArray 40 = .ok (.getfield 51, 3) := by decide +kernel
theorem dX5_makeArray_43 : decode cX5_makeArray 43 = .ok (.iconst 1, 1) := by decide +kernel
theorem dX5_makeArray_44 : decode cX5_makeArray 44 = .ok (.iadd, 1) := by decide +kernel
theorem dX5_makeArray_45 : decode cX5_makeArray 45 = .ok (.putfield 51, 3) := by decide +kernel
theorem dX5_makeArray_48 : decode cX5_makeArray 48 = .ok (.aload_n 0, 1) := by decide +kernel
theorem dX5_makeArray_49 : decode cX5_makeArray 49 = .ok (.getfield 51, 3) := by decide +kernel
theorem dX5_makeArray_52 : decode cX5_makeArray 52 = .ok (.aload_n 0, 1) := by decide +kernel
theorem dX5_makeArray_53 : decode cX5_makeArray 53 = .ok (.getfield 19, 3) := by decide +kernel
theorem dX5_makeArray_56 : decode cX5_makeArray 56 = .ok (.arraylength, 1) := by decide +kernel
theorem dX5_makeArray_57 : decode cX5_makeArray 57 = .ok (.if_icmp .lt 21, 3) := by decide +kernel
theorem dX5_makeArray_60 : decode cX5_makeArray 60 = .ok (.aload_n 0, 1) := by decide +kernel
theorem dX5_makeArray_61 : decode cX5_makeArray 61 = .ok (.aload_n 0, 1) := by decide +kernel
theorem dX5_makeArray_62 : decode cX5_makeArray 62 = .ok (.getfield 19, 3) := by decide +kernel
theorem dX5_makeArray_65 : decode cX5_makeArray 65 = .ok (.iconst 2, 1) := by decide +kernel
theorem dX5_makeArray_66 : decode cX5_makeArray 66 = .ok (.aload_n 0, 1) := by decide +kernel
theorem dX5_makeArray_67 : decode cX5_makeArray 67 = .ok (.getfield 19, 3) := by decide +kernel
theorem dX5_makeArray_70 : decode cX5_makeArray 70 = .ok (.arraylength, 1) := by decide +kernel
theorem dX5_makeArray_71 : decode cX5_makeArray 71 = .ok (.imul, 1) := by decide +kernel
theorem dX5_makeArray_72 : decode cX5_makeArray 72 = .ok (.invokestatic 307, 3) := by decide +kernel
theorem dX5_makeArray_75 : decode cX5_makeArray 75 = .ok (.putfield 19, 3) := by decide +kernel
theorem dX5_makeArray_78 : decode cX5_makeArray 78 = .ok (.aload_n 0, 1) := by decide +kernel
theorem dX5_makeArray_79 : decode cX5_makeArray 79 = .ok (.getfield 48, 3) := by decide +kernel
theorem dX5_makeArray_82 : decode cX5_makeArray 82 = .ok (.iload_n 1, 1) := by decide +kernel
theorem dX5_makeArray_83 : decode cX5_makeArray 83 = .ok (.iadd, 1) := by decide +kernel
theorem dX5_makeArray_84 : decode cX5_makeArray 84 = .ok (.aload_n 0, 1) := by decide +kernel
theorem dX5_makeArray_85 : decode cX5_makeArray 85 = .ok (.getfield 15, 3) := by decide +kernel
theorem dX5_makeArray_88 : decode cX5_makeArray 88 = .ok (.arraylength, 1) := by decide +kernel
theorem dX5_makeArray_89 : decode cX5_makeArray 89 = .ok (.if_icmp .le 28, 3) := by decide +kernel
theorem dX5_makeArray_92 : decode cX5_makeArray 92 = .ok (.aload_n 0, 1) := by decide +kernel
theorem dX5_makeArray_93 : decode cX5_makeArray 93 = .ok (.aload_n 0, 1) := by decide +kernel
theorem dX5_makeArray_94 : decode cX5_makeArray 94 = .ok (.getfield 15, 3) := by decide +kernel
theorem dX5_makeArray_97 : decode cX5_makeArray 97 = .ok (.sipush 20000, 3) := by decide +kernel
theorem dX5_makeArray_100 : decode cX5_makeArray 100 = .ok (.iconst 2, 1) := by decide +kernel
theorem dX5_makeArray_101 : decode cX5_makeArray 101 = .ok (.aload_n 0, 1) := by decide +kernel
theorem dX5_makeArray_102 : decode cX5_makeArray 102 = .ok (.getfield 48, 3) := by decide +kernel
theorem dX5_makeArray_105 : decode cX5_makeArray 105 = .ok (.iload_n 1, 1) := by decide +kernel
theorem dX5_makeArray_106 : decode cX5_makeArray 106 = .ok (.iadd, 1) := by decide +kernel
theorem dX5_makeArray_107 : decode cX5_makeArray 107 = .ok (.imul, 1) := by decide +kernel
theorem dX5_makeArray_108 : decode cX5_makeArray 108 = .ok (.invokestatic 311, 3) := by decide +kernel
theorem dX5_makeArray_111 : decode cX5_makeArray 111 = .ok (.invokestatic 307, 3) := by decide +kernel
theorem dX5_makeArray_114 : decode cX5_makeArray 114 = .ok (.putfield 15, 3) := by decide +kernel
theorem dX5_makeArray_117 : decode cX5_makeArray 117 = .ok (.aload_n 0, 1) := by decide +kernel
theorem dX5_makeArray_118 : decode cX5_makeArray 118 = .ok (.getfield 19, 3) := by decide +kernel
theorem dX5_makeArray_121 : decode cX5_makeArray 121 = .ok (.aload_n 0, 1) := by decide +kernel
theorem dX5_makeArray_122 : decode cX5_makeArray 122 = .ok (.getfield 51, 3) := by decide +kernel
theorem dX5_makeArray_125 : decode cX5_makeArray 125 = .ok (.aload_n 0, 1) := by decide +kernel
theorem dX5_makeArray_126 : decode cX5_makeArray 126 = .ok (.getfield 48, 3) := by decide +kernel
theorem dX5_makeArray_129 : decode cX5_makeArray 129 = .ok (.iastore, 1) := by decide +kernel
theorem dX5_makeArray_130 : decode cX5_makeArray 130 = .ok (.aload_n 0, 1) := by decide +kernel
theorem dX5_makeArray_131 : decode cX5_makeArray 131 = .ok (.getfield 48, 3) := by decide +kernel
theorem dX5_makeArray_134 : decode cX5_makeArray 134 = .ok (.istore_n 2, 1) := by decide +kernel
theorem dX5_makeArray_135 : decode cX5_makeArray 135 = .ok (.iload_n 2, 1) := by decide +kernel
theorem dX5_makeArray_136 : decode cX5_makeArray 136 = .ok (.aload_n 0, 1) := by decide +kernel
theorem dX5_makeArray_137 : decode cX5_makeArray 137 = .ok (.getfield 48, 3) := by decide +kernel
theorem dX5_makeArray_140 : decode cX5_makeArray 140 = .ok (.iload_n 1, 1) := by decide +kernel
theorem dX5_makeArray_141 : decode cX5_makeArray 141 = .ok (.iadd, 1) := by decide +kernel
theorem dX5_makeArray_142 : decode cX5_makeArray 142 = .ok (.if_icmp .ge 25, 3) := by decide +kernel
theorem dX5_makeArray_145 : decode cX5_makeArray 145 = .ok (.iload_n 2, 1) := by decide +kernel
theorem dX5_makeArray_146 : decode cX5_makeArray 146 = .ok (.aload_n 0, 1) := by decide +kernel
theorem dX5_makeArray_147 : decode cX5_makeArray 147 = .ok (.getfield 15, 3) := by decide +kernel
theorem dX5_makeArray_150 : decode cX5_makeArray 150 = .ok (.arraylength, 1) := by decide +kernel
theorem dX5_makeArray_151 : decode cX5_makeArray 151 = .ok (.if_icmp .ge 16, 3) := by decide +kernel
theorem dX5_makeArray_154 : decode cX5_makeArray 154 = .ok (.aload_n 0, 1) := by decide +kernel
theorem dX5_makeArray_155 : decode cX5_makeArray 155 = .ok (.getfield 15, 3) := by decide +kernel
theorem dX5_makeArray_158 : decode cX5_makeArray 158 = .ok (.iload_n 2, 1) := by decide +kernel
theorem dX5_makeArray_159 : decode cX5_makeArray 159 = .ok (.iconst 0, 1) := by decide +kernel
theorem dX5_makeArray_160 : decode cX5_makeArray 160 = .ok (.iastore, 1) := by decide +kernel
theorem dX5_makeArray_161 : decode cX5_makeArray 161 = .ok (.iinc 2 1, 3) := by decide +kernel
theorem dX5_makeArray_164 : decode cX5_makeArray 164 = .ok (.goto (-29), 3) := by decide +kernel
theorem dX5_makeArray_167 : decode cX5_makeArray 167 = .ok (.aload_n 0, 1) := by decide +kernel
theorem dX5_makeArray_168 : decode cX5_makeArray 168 = .ok (.dup, 1) := by decide +kernel
theorem dX5_makeArray_169 : decode cX5_makeArray 169 = .ok (.getfield 48, 3) := by decide +kernel
theorem dX5_makeArray_172 : decode cX5_makeArray 172 = .ok (.iload_n 1, 1) := by decide +kernel
theorem dX5_makeArray_173 : decode cX5_makeArray 173 = .ok (.iadd, 1) := by decide +kernel
theorem dX5_makeArray_174 : decode cX5_makeArray 174 = .ok (.putfield 48, 3) := by decide +kernel
theorem dX5_makeArray_177 : decode cX5_makeArray 177 = .ok (.aload_n 0, 1) := by decide +kernel
theorem dX5_makeArray_178 : decode cX5_makeArray 178 = .ok (.aload_n 0, 1) := by decide +kernel
theorem dX5_makeArray_179 : decode cX5_makeArray 179 = .ok (.getfield 51, 3) := by decide +kernel
theorem dX5_makeArray_182 : decode cX5_makeArray 182 = .ok (.i2l, 1) := by decide +kernel
theorem dX5_makeArray_183 : decode cX5_makeArray 183 = .ok (.invokevirtual 137, 3) := by decide +kernel
theorem dX5_makeArray_186 : decode cX5_makeArray 186 = .ok (.aload_n 0, 1) := by decide +kernel
theorem dX5_makeArray_187 : decode cX5_makeArray 187 = .ok (.dup, 1) := by decide +kernel
theorem dX5_makeArray_188 : decode cX5_makeArray 188 = .ok (.getfield 123, 3) := by decide +kernel
theorem dX5_makeArray_191 : decode cX5_makeArray 191 = .ok (.iconst 1, 1) := by decide +kernel
theorem dX5_makeArray_192 : decode cX5_makeArray 192 = .ok (.iadd, 1) := by decide +kernel
theorem dX5_makeArray_193 : decode cX5_makeArray 193 = .ok (.putfield 123, 3) := by decide +kernel
theorem dX5_makeArray_196 : decode cX5_makeArray 196 = .ok (.return_, 1) := by decide +kernel
theorem dX5_move_0 : decode cX5_move 0 = .ok (.aload_n 0, 1) := by decide +kernel
theorem dX5_move_1 : decode cX5_move 1 = .ok (.getfield 119, 3) := by decide +kernel
theorem dX5_move_4 : decode cX5_move 4 = .ok (.aload_n 0, 1) := by decide +kernel
theorem dX5_move_5 : decode cX5_move 5 = .ok (.getfield 123, 3) := by decide +kernel
theorem dX5_move_8 : decode cX5_move 8 = .ok (.invokevirtual 228, 3) := by decide +kernel
theorem dX5_move_11 : decode cX5_move 11 = .ok (.istore_n 2, 1) := by decide +kernel
theorem dX5_move_12 : decode cX5_move 12 = .ok (.iload_n 1, 1) := by decide +kernel
theorem dX5_move_13 : decode cX5_move 13 = .ok (.bipush 17, 2) := by decide +kernel
theorem dX5_move_15 : decode cX5_move 15 = .ok (.if_icmp .eq 14, 3) := by decide +kernel
theorem dX5_move_18 : decode cX5_move 18 = .ok (.iload_n 1, 1) := by decide +kernel
theorem dX5_move_19 : decode cX5_move 19 = .ok (.bipush 20, 2) := by decide +kernel
theorem dX5_move_21 : decode cX5_move 21 = .ok (.if_icmp .eq 8, 3) := by decide +kernel
theorem dX5_move_24 : decode cX5_move 24 = .ok (.iload_n 1, 1) := by decide +kernel
theorem dX5_move_25 : decode cX5_move 25 = .ok (.iconst 1, 1) := by decide +kernel
theorem dX5_move_26 : decode cX5_move 26 = .ok (.if_icmp .ne 25, 3) := by decide +kernel
theorem dX5_move_29 : decode cX5_move 29 = .ok (.aload_n 0, 1) := by decide +kernel
theorem dX5_move_30 : decode cX5_move 30 = .ok (.iload_n 1, 1) := by decide +kernel
theorem dX5_move_31 : decode cX5_move 31 = .ok (.invokestatic 163, 3) := by decide +kernel
theorem dX5_move_34 : decode cX5_move 34 = .ok (.aload_n 0, 1) := by decide +kernel
theorem dX5_move_35 : decode cX5_move 35 = .ok (.getfield 119, 3) := by decide +kernel
theorem dX5_move_38 : decode cX5_move 38 = .ok (.aload_n 0, 1) := by decide +kernel
theorem dX5_move_39 : decode cX5_move 39 = .ok (.getfield 123, 3) := by decide +kernel
theorem dX5_move_42 : decode cX5_move 42 = .ok (.invokevirtual 184, 3) := by decide +kernel
theorem dX5_move_45 : decode cX5_move 45 = .ok (.invokevirtual 176, 3) := by decide +kernel
theorem dX5_move_48 : decode cX5_move 48 = .ok (.goto 97, 3) := by decide +kernel
theorem dX5_move_51 : decode cX5_move 51 = .ok (.iload_n 1, 1) := by decide +kernel
theorem dX5_move_52 : decode cX5_move 52 = .ok (.invokestatic 231, 3) := by decide +kernel
theorem dX5_move_55 : decode cX5_move 55 = .ok (.ifCond .eq 19, 3) := by decide +kernel
theorem dX5_move_58 : decode cX5_move 58 = .ok (.aload_n 0, 1) := by decide +kernel
theorem dX5_move_59 : decode cX5_move 59 = .ok (.iload_n 1, 1) := by decide +kernel
theorem dX5_move_60 : decode cX5_move 60 = .ok (.invokestatic 163, 3) := by decide +kernel
theorem dX5_move_63 : decode cX5_move 63 = .ok (.aload_n 0, 1) := by decide +kernel
theorem dX5_move_64 : decode cX5_move 64 = .ok (.iload_n 2, 1) := by decide +kernel
theorem dX5_move_65 : decode cX5_move 65 = .ok (.invokevirtual 234, 3) := by decide +kernel
theorem dX5_move_68 : decode cX5_move 68 = .ok (.invokevirtual 176, 3) := by decide +kernel
theorem dX5_move_71 : decode cX5_move 71 = .ok (.goto 74, 3) := by decide +kernel
theorem dX5_move_74 : decode cX5_move 74 = .ok (.iload_n 1, 1) := by decide +kernel
theorem dX5_move_75 : decode cX5_move 75 = .ok (.invokestatic 237, 3) := by decide +kernel
theorem dX5_move_78 : decode cX5_move 78 = .ok (.ifCond .eq 19, 3) := by decide +kernel
theorem dX5_move_81 : decode cX5_move 81 = .ok (.aload_n 0, 1) := by decide +kernel
theorem dX5_move_82 : decode cX5_move 82 = .ok (.iload_n 2, 1) := by decide +kernel
theorem dX5_move_83 : decode cX5_move 83 = .ok (.aload_n 0, 1) := by decide +kernel
theorem dX5_move_84 : decode cX5_move 84 = .ok (.iload_n 1, 1) := by decide +kernel
theorem dX5_move_85 : decode cX5_move 85 = .ok (.invokestatic 166, 3) := by decide +kernel
theorem dX5_move_88 : decode cX5_move 88 = .ok (.invokevirtual 169, 3) := by decide +kernel
theorem dX5_move_91 : decode cX5_move 91 = .ok (.invokevirtual 133, 3) := by decide +kernel
theorem dX5_move_94 : decode cX5_move 94 = .ok (.goto 51, 3) := by decide +kernel
theorem dX5_move_97 : decode cX5_move 97 = .ok (.iload_n 1, 1) := by decide +kernel
theorem dX5_move_98 : decode cX5_move 98 = .ok (.sipush 132, 3) := by decide +kernel
theorem dX5_move_101 : decode cX5_move 101 = .ok (.if_icmp .ne 30, 3) := by decide +kernel
theorem dX5_move_104 : decode cX5_move 104 = .ok (.aload_n 0, 1) := by decide +kernel
theorem dX5_move_105 : decode cX5_move 105 = .ok (.iload_n 2, 1) := by decide +kernel
theorem dX5_move_106 : decode cX5_move 106 = .ok (.aload_n 0, 1) := by decide +kernel
theorem dX5_move_107 : decode cX5_move 107 = .ok (.iload_n 2, 1) := by decide +kernel
theorem dX5_move_108 : decode cX5_move 108 = .ok (.invokevirtual 234, 3) := by decide +kernel
theorem dX5_move_111 : decode cX5_move 111 = .ok (.l2i, 1) := by decide +kernel
theorem dX5_move_112 : decode cX5_move 112 = .ok (.aload_n 0, 1) := by decide +kernel
theorem dX5_move_113 : decode cX5_move 113 = .ok (.getfield 119, 3) := by decide +kernel
theorem dX5_move_116 : decode cX5_move 116 = .ok (.aload_n 0, 1) := by decide +kernel
theorem dX5_move_117 : decode cX5_move 117 = .ok (.getfield 123, 3) := by decide +kernel
theorem dX5_move_120 : decode cX5_move 120 = .ok (.invokevirtual 240, 3) := by decide +kernel
theorem dX5_move_123 : decode cX5_move 123 = .ok (.iadd, 1) := by decide +kernel
theorem dX5_move_124 : decode cX5_move 124 = .ok (.i2l, 1) := by decide +kernel
theorem dX5_move_125 : decode cX5_move 125 = .ok (.invokevirtual 133, 3) := by decide +kernel
theorem dX5_move_128 : decode cX5_move 128 = .ok (.goto 17, 3) := by decide +kernel
theorem dX5_move_131 : decode cX5_move 131 = .ok (.iload_n 1, 1) := by decide +kernel
theorem dX5_move_132 : decode cX5_move 132 = .ok (.ifCond .eq 13, 3) := by decide +kernel
theorem dX5_move_135 : decode cX5_move 135 = .ok (.aload_n 0, 1) := by decide +kernel
theorem dX5_move_136 : decode cX5_move 136 = .ok (.dup, 1) := by decide +kernel
theorem dX5_move_137 : decode cX5_move 137 = .ok (.getfield 76, 3) := by decide +kernel
theorem dX5_move_140 : decode cX5_move 140 = .ok (.iconst 1, 1) := by decide +kernel
theorem dX5_move_141 : decode cX5_move 141 = .ok (.iadd, 1) := by decide +kernel
theorem dX5_move_142 : decode cX5_move 142 = .ok (.putfield 76, 3) := by decide +kernel
theorem dX5_move_145 : decode cX5_move 145 = .ok (.return_, 1) := by decide +kernel
theorem dX5_openFrame_0 : decode cX5_openFrame 0 = .ok (.aload_n 0, 1) := by decide +kernel
theorem dX5_openFrame_1 : decode cX5_openFrame 1 = .ok (.aload_n 0, 1) := by decide +kernel
theorem dX5_openFrame_2 : decode cX5_openFrame 2 = .ok (.getfield 38, 3) := by decide +kernel
theorem dX5_openFrame_5 : decode cX5_openFrame 5 = .ok (.iload_n 1, 1) := by decide +kernel
theorem dX5_openFrame_6 : decode cX5_openFrame 6 = .ok (.invokevirtual 79, 3) := by decide +kernel
theorem dX5_openFrame_9 : decode cX5_openFrame 9 = .ok (.putfield 119, 3) := by decide +kernel
theorem dX5_openFrame_12 : decode cX5_openFrame 12 = .ok (.aload_n 0, 1) := by decide +kernel

theorem dX3_hasEdge_20 : decode cX3_hasEdge 20 = .ok (.istore_n 3, 1) := by decide +kernel
theorem dX3_hasEdge_21 : decode cX3_hasEdge 21 = .ok (.iload_n 3, 1) := by decide +kernel
theorem dX3_hasEdge_22 : decode cX3_hasEdge 22 = .ok (.aload_n 0, 1) := by decide +kernel
theorem dX3_hasEdge_23 : decode cX3_hasEdge 23 = .ok (.getfield 18, 3) := by decide +kernel
theorem dX3_hasEdge_26 : decode cX3_hasEdge 26 = .ok (.iload_n 1, 1) := by decide +kernel
theorem dX3_hasEdge_27 : decode cX3_hasEdge 27 = .ok (.iconst 1, 1) := by decide +kernel
theorem dX3_hasEdge_28 : decode cX3_hasEdge 28 = .ok (.iadd, 1) := by decide +kernel
theorem dX3_hasEdge_29 : decode cX3_hasEdge 29 = .ok (.iaload, 1) := by decide +kernel
theorem dX3_hasEdge_30 : decode cX3_hasEdge 30 = .ok (.if_icmp .ge 21, 3) := by decide +kernel
theorem dX3_hasEdge_33 : decode cX3_hasEdge 33 = .ok (.aload_n 0, 1) := by decide +kernel
theorem dX3_hasEdge_34 : decode cX3_hasEdge 34 = .ok (.getfield 21, 3) := by decide +kernel
theorem dX3_hasEdge_37 : decode cX3_hasEdge 37 = .ok (.iload_n 3, 1) := by decide +kernel
theorem dX3_hasEdge_38 : decode cX3_hasEdge 38 = .ok (.iaload, 1) := by decide +kernel
theorem dX3_hasEdge_39 : decode cX3_hasEdge 39 = .ok (.iload_n 2, 1) := by decide +kernel
theorem dX3_hasEdge_40 : decode cX3_hasEdge 40 = .ok (.if_icmp .ne 5, 3) := by decide +kernel
theorem dX3_hasEdge_43 : decode cX3_hasEdge 43 = .ok (.iconst 1, 1) := by decide +kernel
theorem dX3_hasEdge_44 : decode cX3_hasEdge 44 = .ok (.ireturn, 1) := by decide +kernel
theorem dX3_hasEdge_45 : decode cX3_hasEdge 45 = .ok (.iinc 3 1, 3) := by decide +kernel
theorem dX3_hasEdge_48 : decode cX3_hasEdge 48 = .ok (.goto (-27), 3) := by decide +kernel
theorem dX3_hasEdge_51 : decode cX3_hasEdge 51 = .ok (.iconst 0, 1) := by decide +kernel
theorem dX3_hasEdge_52 : decode cX3_hasEdge 52 = .ok (.ireturn, 1) := by decide +kernel
theorem dX3_init_0 : decode cX3_init 0 = .ok (.aload_n 0, 1) := by decide +kernel
theorem dX3_init_1 : decode cX3_init 1 = .ok (.invokespecial 3, 3) := by decide +kernel
theorem dX3_init_4 : decode cX3_init 4 = .ok (.aload_n 0, 1) := by decide +kernel
theorem dX3_init_5 : decode cX3_init 5 = .ok (.iconst 0, 1) := by decide +kernel
theorem dX3_init_6 : decode cX3_init 6 = .ok (.newarray .int, 2) := by decide +kernel
theorem dX3_init_8 : decode cX3_init 8 = .ok (.putfield 9, 3) := by decide +kernel
theorem dX3_init_11 : decode cX3_init 11 = .ok (.aload_n 0, 1) := by decide +kernel
theorem dX3_init_12 : decode cX3_init 12 = .ok (.iconst 0, 1) := by decide +kernel
theorem dX3_init_13 : decode cX3_init 13 = .ok (.newarray .int, 2) := by decide +kernel
theorem dX3_init_15 : decode cX3_init 15 = .ok (.putfield 15, 3) := by decide +kernel
theorem dX3_init_18 : decode cX3_init 18 = .ok (.aload_n 0, 1) := by decide +kernel
theorem dX3_init_19 : decode cX3_init 19 = .ok (.iconst 0, 1) := by decide +kernel
theorem dX3_init_20 : decode cX3_init 20 = .ok (.newarray .int, 2) := by decide +kernel
theorem dX3_init_22 : decode cX3_init 22 = .ok (.putfield 18, 3) := by decide +kernel
theorem dX3_init_25 : decode cX3_init 25 = .ok (.aload_n 0, 1) := by decide +kernel
theorem dX3_init_26 : decode cX3_init 26 = .ok (.bipush 16, 2) := by decide +kernel
theorem dX3_init_28 : decode cX3_init 28 = .ok (.newarray .int, 2) := by decide +kernel
theorem dX3_init_30 : decode cX3_init 30 = .ok (.putfield 21, 3) := by decide +kernel
theorem dX3_init_33 : decode cX3_init 33 = .ok (.aload_n 0, 1) := by decide +kernel
theorem dX3_init_34 : decode cX3_init 34 = .ok (.iconst 0, 1) := by decide +kernel
theorem dX3_init_35 : decode cX3_init 35 = .ok (.newarray .int, 2) := by decide +kernel
theorem dX3_init_37 : decode cX3_init 37 = .ok (.putfield 24, 3) := by decide +kernel
theorem dX3_init_40 : decode cX3_init 40 = .ok (.aload_n 0, 1) := by decide +kernel
theorem dX3_init_41 : decode cX3_init 41 = .ok (.iconst 0, 1) := by decide +kernel
theorem dX3_init_42 : decode cX3_init 42 = .ok (.newarray .int, 2) := by decide +kernel
theorem dX3_init_44 : decode cX3_init 44 = .ok (.putfield 27, 3) := by decide +kernel
theorem dX3_init_47 : decode cX3_init 47 = .ok (.aload_n 0, 1) := by decide +kernel
theorem dX3_init_48 : decode cX3_init 48 = .ok (.iconst 0, 1) := by decide +kernel
theorem dX3_init_49 : decode cX3_init 49 = .ok (.newarray .boolean, 2) := by decide +kernel
theorem dX3_init_51 : decode cX3_init 51 = .ok (.putfield 30, 3) := by decide +kernel
theorem dX3_init_54 : decode cX3_init 54 = .ok (.aload_n 0, 1) := by decide +kernel
theorem dX3_init_55 : decode cX3_init 55 = .ok (.iconst 0, 1) := by decide +kernel
theorem dX3_init_56 : decode cX3_init 56 = .ok (.newarray .long, 2) := by decide +kernel
theorem dX3_init_58 : decode cX3_init 58 = .ok (.putfield 34, 3) := by decide +kernel
theorem dX3_init_61 : decode cX3_init 61 = .ok (.aload_n 0, 1) := by decide +kernel
theorem dX3_init_62 : decode cX3_init 62 = .ok (.iconst 0, 1) := by decide +kernel
theorem dX3_init_63 : decode cX3_init 63 = .ok (.newarray .int, 2) := by decide +kernel
theorem dX3_init_65 : decode cX3_init 65 = .ok (.putfield 38, 3) := by decide +kernel
theorem dX3_init_68 : decode cX3_init 68 = .ok (.aload_n 0, 1) := by decide +kernel
theorem dX3_init_69 : decode cX3_init 69 = .ok (.iconst 0, 1) := by decide +kernel
theorem dX3_init_70 : decode cX3_init 70 = .ok (.newarray .int, 2) := by decide +kernel
theorem dX3_init_72 : decode cX3_init 72 = .ok (.putfield 41, 3) := by decide +kernel
theorem dX3_init_75 : decode cX3_init 75 = .ok (.aload_n 0, 1) := by decide +kernel
theorem dX3_init_76 : decode cX3_init 76 = .ok (.iconst 0, 1) := by decide +kernel
theorem dX3_init_77 : decode cX3_init 77 = .ok (.newarray .int, 2) := by decide +kernel
theorem dX3_init_79 : decode cX3_init 79 = .ok (.putfield 44, 3) := by decide +kernel
theorem dX3_init_82 : decode cX3_init 82 = .ok (.aload_n 0, 1) := by decide +kernel
theorem dX3_init_83 : decode cX3_init 83 = .ok (.iconst 0, 1) := by decide +kernel
theorem dX3_init_84 : decode cX3_init 84 = .ok (.newarray .int, 2) := by decide +kernel
theorem dX3_init_86 : decode cX3_init 86 = .ok (.putfield 47, 3) := by decide +kernel
theorem dX3_init_89 : decode cX3_init 89 = .ok (.aload_n 0, 1) := by decide +kernel
theorem dX3_init_90 : decode cX3_init 90 = .ok (.iconst 0, 1) := by decide +kernel
theorem dX3_init_91 : decode cX3_init 91 = .ok (.newarray .int, 2) := by decide +kernel
theorem dX3_init_93 : decode cX3_init 93 = .ok (.putfield 50, 3) := by decide +kernel
theorem dX3_init_96 : decode cX3_init 96 = .ok (.return_, 1) := by decide +kernel
theorem dX3_isReached_0 : decode cX3_isReached 0 = .ok (.iload_n 1, 1) := by decide +kernel
theorem dX3_isReached_1 : decode cX3_isReached 1 = .ok (.ifCond .lt 24, 3) := by decide +kernel
theorem dX3_isReached_4 : decode cX3_isReached 4 = .ok (.iload_n 1, 1) := by decide +kernel
theorem dX3_isReached_5 : decode cX3_isReached 5 = .ok (.aload_n 0, 1) := by decide +kernel
theorem dX3_isReached_6 : decode cX3_isReached 6 = .ok (.getfield 78, 3) := by decide +kernel
theorem dX3_isReached_9 : decode cX3_isReached 9 = .ok (.if_icmp .ge 16, 3) := by decide +kernel
theorem dX3_isReached_12 : decode cX3_isReached 12 = .ok (.aload_n 0, 1) := by decide +kernel
theorem dX3_isReached_13 : decode cX3_isReached 13 = .ok (.getfield 30, 3) := by decide +kernel
theorem dX3_isReached_16 : decode cX3_isReached 16 = .ok (.iload_n 1, 1) := by decide +kernel
theorem dX3_isReached_17 : decode cX3_isReached 17 = .ok (.baload, 1) := by decide +kernel
theorem dX3_isReached_18 : decode cX3_isReached 18 = .ok (.ifCond .eq 7, 3) := by decide +kernel
theorem dX3_isReached_21 : decode cX3_isReached 21 = .ok (.iconst 1, 1) := by decide +kernel
theorem dX3_isReached_22 : decode cX3_isReached 22 = .ok (.goto 4, 3) := by decide +kernel
theorem dX3_isReached_25 : decode cX3_isReached 25 = .ok (.iconst 0, 1) := by decide +kernel
theorem dX3_isReached_26 : decode cX3_isReached 26 = .ok (.ireturn, 1) := by decide +kernel
theorem dX3_lastOf_0 : decode cX3_lastOf 0 = .ok (.iload_n 1, 1) := by decide +kernel
theorem dX3_lastOf_1 : decode cX3_lastOf 1 = .ok (.iconst 1, 1) := by decide +kernel
theorem dX3_lastOf_2 : decode cX3_lastOf 2 = .ok (.iadd, 1) := by decide +kernel
theorem dX3_lastOf_3 : decode cX3_lastOf 3 = .ok (.aload_n 0, 1) := by decide +kernel
theorem dX3_lastOf_4 : decode cX3_lastOf 4 = .ok (.getfield 78, 3) := by decide +kernel
theorem dX3_lastOf_7 : decode cX3_lastOf 7 = .ok (.if_icmp .ge 14, 3) := by decide +kernel
theorem dX3_lastOf_10 : decode cX3_lastOf 10 = .ok (.aload_n 0, 1) := by decide +kernel
theorem dX3_lastOf_11 : decode cX3_lastOf 11 = .ok (.getfield 9, 3) := by decide +kernel
theorem dX3_lastOf_14 : decode cX3_lastOf 14 = .ok (.iload_n 1, 1) := by decide +kernel
theorem dX3_lastOf_15 : decode cX3_lastOf 15 = .ok (.iconst 1, 1) := by decide +kernel
theorem dX3_lastOf_16 : decode cX3_lastOf 16 = .ok (.iadd, 1) := by decide +kernel
theorem dX3_lastOf_17 : decode cX3_lastOf 17 = .ok (.iaload, 1) := by decide +kernel
theorem dX3_lastOf_18 : decode cX3_lastOf 18 = .ok (.goto 10, 3) := by decide +kernel
theorem dX3_lastOf_21 : decode cX3_lastOf 21 = .ok (.aload_n 0, 1) := by decide +kernel
theorem dX3_lastOf_22 : decode cX3_lastOf 22 = .ok (.getfield 53, 3) := by decide +kernel
theorem dX3_lastOf_25 : decode cX3_lastOf 25 = .ok (.getfield 82, 3) := by decide +kernel
theorem dX3_lastOf_28 : decode cX3_lastOf 28 = .ok (.iconst 1, 1) := by decide +kernel
theorem dX3_lastOf_29 : decode cX3_lastOf 29 = .ok (.isub, 1) := by decide +kernel
theorem dX3_lastOf_30 : decode cX3_lastOf 30 = .ok (.ireturn, 1) := by decide +kernel
theorem dX3_makeRoom_0 : decode cX3_makeRoom 0 = .ok (.aload_n 0, 1) := by decide +kernel
theorem dX3_makeRoom_1 : decode cX3_makeRoom 1 = .ok (.getfield 44, 3) := by decide +kernel
theorem dX3_makeRoom_4 : decode cX3_makeRoom 4 = .ok (.arraylength, 1) := by decide +kernel
theorem dX3_makeRoom_5 : decode cX3_makeRoom 5 = .ok (.aload_n 0, 1) := by decide +kernel
theorem dX3_makeRoom_6 : decode cX3_makeRoom 6 = .ok (.getfield 78, 3) := by decide +kernel
theorem dX3_makeRoom_9 : decode cX3_makeRoom 9 = .ok (.if_icmp .ge 70, 3) := by decide +kernel
theorem dX3_makeRoom_12 : decode cX3_makeRoom 12 = .ok (.iconst 2, 1) := by decide +kernel
theorem dX3_makeRoom_13 : decode cX3_makeRoom 13 = .ok (.aload_n 0, 1) := by decide +kernel
theorem dX3_makeRoom_14 : decode cX3_makeRoom 14 = .ok (.getfield 78, 3) := by decide +kernel
theorem dX3_makeRoom_17 : decode cX3_makeRoom 17 = .ok (.imul, 1) := by decide +kernel
theorem dX3_makeRoom_18 : decode cX3_makeRoom 18 = .ok (.istore_n 1, 1) := by decide +kernel
theorem dX3_makeRoom_19 : decode cX3_makeRoom 19 = .ok (.aload_n 0, 1) := by decide +kernel
theorem dX3_makeRoom_20 : decode cX3_makeRoom 20 = .ok (.iload_n 1, 1) := by decide +kernel
theorem dX3_makeRoom_21 : decode cX3_makeRoom 21 = .ok (.iconst 1, 1) := by decide +kernel
theorem dX3_makeRoom_22 : decode cX3_makeRoom 22 = .ok (.iadd, 1) := by decide +kernel
theorem dX3_makeRoom_23 : decode cX3_makeRoom 23 = .ok (.newarray .int, 2) := by decide +kernel
theorem dX3_makeRoom_25 : decode cX3_makeRoom 25 = .ok (.putfield 18, 3) := by decide +kernel
theorem dX3_makeRoom_28 : decode cX3_makeRoom 28 = .ok (.aload_n 0, 1) := by decide +kernel
theorem dX3_makeRoom_29 : decode cX3_makeRoom 29 = .ok (.iload_n 1, 1) := by decide +kernel
theorem dX3_makeRoom_30 : decode cX3_makeRoom 30 = .ok (.iconst 1, 1) := by decide +kernel
theorem dX3_makeRoom_31 : decode cX3_makeRoom 31 = .ok (.iadd, 1) := by decide +kernel
theorem dX3_makeRoom_32 : decode cX3_makeRoom 32 = .ok (.newarray .int, 2) := by decide +kernel
theorem dX3_makeRoom_34 : decode cX3_makeRoom 34 = .ok (.putfield 24, 3) := by decide +kernel
theorem dX3_makeRoom_37 : decode cX3_makeRoom 37 = .ok (.aload_n 0, 1) := by decide +kernel
theorem dX3_makeRoom_38 : decode cX3_makeRoom 38 = .ok (.iload_n 1, 1) := by decide +kernel
theorem dX3_makeRoom_39 : decode cX3_makeRoom 39 = .ok (.newarray .boolean, 2) := by decide +kernel
theorem dX3_makeRoom_41 : decode cX3_makeRoom 41 = .ok (.putfield 30, 3) := by decide +kernel
theorem dX3_makeRoom_44 : decode cX3_makeRoom 44 = .ok (.aload_n 0, 1) := by decide +kernel
theorem dX3_makeRoom_45 : decode cX3_makeRoom 45 = .ok (.iload_n 1, 1) := by decide +kernel
theorem dX3_makeRoom_46 : decode cX3_makeRoom 46 = .ok (.newarray .int, 2) := by decide +kernel
theorem dX3_makeRoom_48 : decode cX3_makeRoom 48 = .ok (.putfield 38, 3) := by decide +kernel
theorem dX3_makeRoom_51 : decode cX3_makeRoom 51 = .ok (.aload_n 0, 1) := by decide +kernel
theorem dX3_makeRoom_52 : decode cX3_makeRoom 52 = .ok (.iload_n 1, 1) := by decide +kernel
theorem dX3_makeRoom_53 : decode cX3_makeRoom 53 = .ok (.newarray .int, 2) := by decide +kernel
theorem dX3_makeRoom_55 : decode cX3_makeRoom 55 = .ok (.putfield 41, 3) := by decide +kernel
theorem dX3_makeRoom_58 : decode cX3_makeRoom 58 = .ok (.aload_n 0, 1) := by decide +kernel
theorem dX3_makeRoom_59 : decode cX3_makeRoom 59 = .ok (.iload_n 1, 1) := by decide +kernel
theorem dX3_makeRoom_60 : decode cX3_makeRoom 60 = .ok (.newarray .int, 2) := by decide +kernel
theorem dX3_makeRoom_62 : decode cX3_makeRoom 62 = .ok (.putfield 44, 3) := by decide +kernel
theorem dX3_makeRoom_65 : decode cX3_makeRoom 65 = .ok (.aload_n 0, 1) := by decide +kernel

theorem dX4_init_13 : decode cX4_init 13 = .ok (.newarray .int, 2) := by decide +kernel
theorem dX4_init_15 : decode cX4_init 15 = .ok (.putfield 15, 3) := by decide +kernel
theorem dX4_init_18 : decode cX4_init 18 = .ok (.aload_n 0, 1) := by decide +kernel
theorem dX4_init_19 : decode cX4_init 19 = .ok (.iconst 0, 1) := by decide +kernel
theorem dX4_init_20 : decode cX4_init 20 = .ok (.newarray .boolean, 2) := by decide +kernel
theorem dX4_init_22 : decode cX4_init 22 = .ok (.putfield 18, 3) := by decide +kernel
theorem dX4_init_25 : decode cX4_init 25 = .ok (.return_, 1) := by decide +kernel
theorem dX4_isWrong_0 : decode cX4_isWrong 0 = .ok (.iload_n 1, 1) := by decide +kernel
theorem dX4_isWrong_1 : decode cX4_isWrong 1 = .ok (.ifCond .lt 38, 3) := by decide +kernel
theorem dX4_isWrong_4 : decode cX4_isWrong 4 = .ok (.iload_n 1, 1) := by decide +kernel
theorem dX4_isWrong_5 : decode cX4_isWrong 5 = .ok (.aload_n 0, 1) := by decide +kernel
theorem dX4_isWrong_6 : decode cX4_isWrong 6 = .ok (.getfield 18, 3) := by decide +kernel
theorem dX4_isWrong_9 : decode cX4_isWrong 9 = .ok (.arraylength, 1) := by decide +kernel
theorem dX4_isWrong_10 : decode cX4_isWrong 10 = .ok (.if_icmp .ge 29, 3) := by decide +kernel
theorem dX4_isWrong_13 : decode cX4_isWrong 13 = .ok (.aload_n 0, 1) := by decide +kernel
theorem dX4_isWrong_14 : decode cX4_isWrong 14 = .ok (.getfield 18, 3) := by decide +kernel
theorem dX4_isWrong_17 : decode cX4_isWrong 17 = .ok (.iload_n 1, 1) := by decide +kernel
theorem dX4_isWrong_18 : decode cX4_isWrong 18 = .ok (.baload, 1) := by decide +kernel
theorem dX4_isWrong_19 : decode cX4_isWrong 19 = .ok (.ifCond .ne 16, 3) := by decide +kernel
theorem dX4_isWrong_22 : decode cX4_isWrong 22 = .ok (.aload_n 0, 1) := by decide +kernel
theorem dX4_isWrong_23 : decode cX4_isWrong 23 = .ok (.getfield 9, 3) := by decide +kernel
theorem dX4_isWrong_26 : decode cX4_isWrong 26 = .ok (.iload_n 1, 1) := by decide +kernel
theorem dX4_isWrong_27 : decode cX4_isWrong 27 = .ok (.iaload, 1) := by decide +kernel
theorem dX4_isWrong_28 : decode cX4_isWrong 28 = .ok (.invokestatic 111, 3) := by decide +kernel
theorem dX4_isWrong_31 : decode cX4_isWrong 31 = .ok (.iconst 1, 1) := by decide +kernel
theorem dX4_isWrong_32 : decode cX4_isWrong 32 = .ok (.if_icmp .le 7, 3) := by decide +kernel
theorem dX4_isWrong_35 : decode cX4_isWrong 35 = .ok (.iconst 1, 1) := by decide +kernel
theorem dX4_isWrong_36 : decode cX4_isWrong 36 = .ok (.goto 4, 3) := by decide +kernel
theorem dX4_isWrong_39 : decode cX4_isWrong 39 = .ok (.iconst 0, 1) := by decide +kernel
theorem dX4_isWrong_40 : decode cX4_isWrong 40 = .ok (.ireturn, 1) := by decide +kernel
theorem dX4_makeRoom_0 : decode cX4_makeRoom 0 = .ok (.aload_n 0, 1) := by decide +kernel
theorem dX4_makeRoom_1 : decode cX4_makeRoom 1 = .ok (.getfield 9, 3) := by decide +kernel
theorem dX4_makeRoom_4 : decode cX4_makeRoom 4 = .ok (.arraylength, 1) := by decide +kernel
theorem dX4_makeRoom_5 : decode cX4_makeRoom 5 = .ok (.iload_n 1, 1) := by decide +kernel
theorem dX4_makeRoom_6 : decode cX4_makeRoom 6 = .ok (.if_icmp .ge 30, 3) := by decide +kernel
theorem dX4_makeRoom_9 : decode cX4_makeRoom 9 = .ok (.aload_n 0, 1) := by decide +kernel
theorem dX4_makeRoom_10 : decode cX4_makeRoom 10 = .ok (.iconst 2, 1) := by decide +kernel
theorem dX4_makeRoom_11 : decode cX4_makeRoom 11 = .ok (.iload_n 1, 1) := by decide +kernel
theorem dX4_makeRoom_12 : decode cX4_makeRoom 12 = .ok (.imul, 1) := by decide +kernel
theorem dX4_makeRoom_13 : decode cX4_makeRoom 13 = .ok (.newarray .int, 2) := by decide +kernel
theorem dX4_makeRoom_15 : decode cX4_makeRoom 15 = .ok (.putfield 9, 3) := by decide +kernel
theorem dX4_makeRoom_18 : decode cX4_makeRoom 18 = .ok (.aload_n 0, 1) := by decide +kernel
theorem dX4_makeRoom_19 : decode cX4_makeRoom 19 = .ok (.iconst 2, 1) := by decide +kernel
theorem dX4_makeRoom_20 : decode cX4_makeRoom 20 = .ok (.iload_n 1, 1) := by decide +kernel
theorem dX4_makeRoom_21 : decode cX4_makeRoom 21 = .ok (.imul, 1) := by decide +kernel
theorem dX4_makeRoom_22 : decode cX4_makeRoom 22 = .ok (.newarray .int, 2) := by decide +kernel
theorem dX4_makeRoom_24 : decode cX4_makeRoom 24 = .ok (.putfield 15, 3) := by decide +kernel
theorem dX4_makeRoom_27 : decode cX4_makeRoom 27 = .ok (.aload_n 0, 1) := by decide +kernel
theorem dX4_makeRoom_28 : decode cX4_makeRoom 28 = .ok (.iconst 2, 1) := by decide +kernel
theorem dX4_makeRoom_29 : decode cX4_makeRoom 29 = .ok (.iload_n 1, 1) := by decide +kernel
theorem dX4_makeRoom_30 : decode cX4_makeRoom 30 = .ok (.imul, 1) := by decide +kernel
theorem dX4_makeRoom_31 : decode cX4_makeRoom 31 = .ok (.newarray .boolean, 2) := by decide +kernel
theorem dX4_makeRoom_33 : decode cX4_makeRoom 33 = .ok (.putfield 18, 3) := by decide +kernel
theorem dX4_makeRoom_36 : decode cX4_makeRoom 36 = .ok (.aload_n 0, 1) := by decide +kernel
theorem dX4_makeRoom_37 : decode cX4_makeRoom 37 = .ok (.getfield 9, 3) := by decide +kernel
theorem dX4_makeRoom_40 : decode cX4_makeRoom 40 = .ok (.iconst 0, 1) := by decide +kernel
theorem dX4_makeRoom_41 : decode cX4_makeRoom 41 = .ok (.invokestatic 58, 3) := by decide +kernel
theorem dX4_makeRoom_44 : decode cX4_makeRoom 44 = .ok (.aload_n 0, 1) := by decide +kernel
theorem dX4_makeRoom_45 : decode cX4_makeRoom 45 = .ok (.getfield 15, 3) := by decide +kernel
theorem dX4_makeRoom_48 : decode cX4_makeRoom 48 = .ok (.iconst 0, 1) := by decide +kernel
theorem dX4_makeRoom_49 : decode cX4_makeRoom 49 = .ok (.invokestatic 58, 3) := by decide +kernel
theorem dX4_makeRoom_52 : decode cX4_makeRoom 52 = .ok (.iconst 0, 1) := by decide +kernel
theorem dX4_makeRoom_53 : decode cX4_makeRoom 53 = .ok (.istore_n 2, 1) := by decide +kernel
theorem dX4_makeRoom_54 : decode cX4_makeRoom 54 = .ok (.iload_n 2, 1) := by decide +kernel
theorem dX4_makeRoom_55 : decode cX4_makeRoom 55 = .ok (.aload_n 0, 1) := by decide +kernel
theorem dX4_makeRoom_56 : decode cX4_makeRoom 56 = .ok (.getfield 18, 3) := by decide +kernel
theorem dX4_makeRoom_59 : decode cX4_makeRoom 59 = .ok (.arraylength, 1) := by decide +kernel
theorem dX4_makeRoom_60 : decode cX4_makeRoom 60 = .ok (.if_icmp .ge 16, 3) := by decide +kernel
theorem dX4_makeRoom_63 : decode cX4_makeRoom 63 = .ok (.aload_n 0, 1) := by decide +kernel
theorem dX4_makeRoom_64 : decode cX4_makeRoom 64 = .ok (.getfield 18, 3) := by decide +kernel
theorem dX4_makeRoom_67 : decode cX4_makeRoom 67 = .ok (.iload_n 2, 1) := by decide +kernel
theorem dX4_makeRoom_68 : decode cX4_makeRoom 68 = .ok (.iconst 0, 1) := by decide +kernel
theorem dX4_makeRoom_69 : decode cX4_makeRoom 69 = .ok (.bastore, 1) := by decide +kernel
theorem dX4_makeRoom_70 : decode cX4_makeRoom 70 = .ok (.iinc 2 1, 3) := by decide +kernel
theorem dX4_makeRoom_73 : decode cX4_makeRoom 73 = .ok (.goto (-19), 3) := by decide +kernel
theorem dX4_makeRoom_76 : decode cX4_makeRoom 76 = .ok (.return_, 1) := by decide +kernel
theorem dX4_seek_0 : decode cX4_seek 0 = .ok (.aload_n 0, 1) := by decide +kernel
theorem dX4_seek_1 : decode cX4_seek 1 = .ok (.aload_n 1, 1) := by decide +kernel
theorem dX4_seek_2 : decode cX4_seek 2 = .ok (.putfield 22, 3) := by decide +kernel
theorem dX4_seek_5 : decode cX4_seek 5 = .ok (.aload_n 0, 1) := by decide +kernel
theorem dX4_seek_6 : decode cX4_seek 6 = .ok (.aload_n 2, 1) := by decide +kernel
theorem dX4_seek_7 : decode cX4_seek 7 = .ok (.putfield 26, 3) := by decide +kernel
theorem dX4_seek_10 : decode cX4_seek 10 = .ok (.aload_n 0, 1) := by decide +kernel
theorem dX4_seek_11 : decode cX4_seek 11 = .ok (.iload_n 3, 1) := by decide +kernel
theorem dX4_seek_12 : decode cX4_seek 12 = .ok (.putfield 30, 3) := by decide +kernel
theorem dX4_seek_15 : decode cX4_seek 15 = .ok (.aload_n 0, 1) := by decide +kernel
theorem dX4_seek_16 : decode cX4_seek 16 = .ok (.iconst 0, 1) := by decide +kernel
theorem dX4_seek_17 : decode cX4_seek 17 = .ok (.putfield 34, 3) := by decide +kernel
theorem dX4_seek_20 : decode cX4_seek 20 = .ok (.aload_n 0, 1) := by decide +kernel
theorem dX4_seek_21 : decode cX4_seek 21 = .ok (.aload_n 0, 1) := by decide +kernel
theorem dX4_seek_22 : decode cX4_seek 22 = .ok (.getfield 26, 3) := by decide +kernel
theorem dX4_seek_25 : decode cX4_seek 25 = .ok (.getfield 37, 3) := by decide +kernel
theorem dX4_seek_28 : decode cX4_seek 28 = .ok (.invokevirtual 42, 3) := by decide +kernel
theorem dX4_seek_31 : decode cX4_seek 31 = .ok (.aload_n 0, 1) := by decide +kernel
theorem dX4_seek_32 : decode cX4_seek 32 = .ok (.iconst 0, 1) := by decide +kernel
theorem dX4_seek_33 : decode cX4_seek 33 = .ok (.iconst 0, 1) := by decide +kernel
theorem dX4_seek_34 : decode cX4_seek 34 = .ok (.invokevirtual 46, 3) := by decide +kernel
theorem dX4_seek_37 : decode cX4_seek 37 = .ok (.aload_n 0, 1) := by decide +kernel
theorem dX4_seek_38 : decode cX4_seek 38 = .ok (.iconst 1, 1) := by decide +kernel
theorem dX4_seek_39 : decode cX4_seek 39 = .ok (.putfield 50, 3) := by decide +kernel
theorem dX4_seek_42 : decode cX4_seek 42 = .ok (.iconst 0, 1) := by decide +kernel
theorem dX4_seek_43 : decode cX4_seek 43 = .ok (.istore 4, 2) := by decide +kernel
theorem dX4_seek_45 : decode cX4_seek 45 = .ok (.aload_n 0, 1) := by decide +kernel
theorem dX4_seek_46 : decode cX4_seek 46 = .ok (.getfield 50, 3) := by decide +kernel
theorem dX4_seek_49 : decode cX4_seek 49 = .ok (.ifCond .eq 111, 3) := by decide +kernel
theorem dX4_seek_52 : decode cX4_seek 52 = .ok (.iload 4, 2) := by decide +kernel
theorem dX4_seek_54 : decode cX4_seek 54 = .ok (.ldc 54, 2) := by decide +kernel
theorem dX4_seek_56 : decode cX4_seek 56 = .ok (.if_icmp .ge 104, 3) := by decide +kernel
theorem dX4_seek_59 : decode cX4_seek 59 = .ok (.aload_n 0, 1) := by decide +kernel
theorem dX4_seek_60 : decode cX4_seek 60 = .ok (.iconst 0, 1) := by decide +kernel
theorem dX4_seek_61 : decode cX4_seek 61 = .ok (.putfield 50, 3) := by decide +kernel
theorem dX4_seek_64 : decode cX4_seek 64 = .ok (.iconst 0, 1) := by decide +kernel
theorem dX4_seek_65 : decode cX4_seek 65 = .ok (.istore 5, 2) := by decide +kernel
theorem dX4_seek_67 : decode cX4_seek 67 = .ok (.iload 5, 2) := by decide +kernel
theorem dX4_seek_69 : decode cX4_seek 69 = .ok (.aload_n 0, 1) := by decide +kernel
theorem dX4_seek_70 : decode cX4_seek 70 = .ok (.getfield 26, 3) := by decide +kernel
theorem dX4_seek_73 : decode cX4_seek 73 = .ok (.getfield 37, 3) := by decide +kernel
theorem dX4_seek_76 : decode cX4_seek 76 = .ok (.if_icmp .ge 78, 3) := by decide +kernel
theorem dX4_seek_79 : decode cX4_seek 79 = .ok (.iload 5, 2) := by decide +kernel
theorem dX4_seek_81 : decode cX4_seek 81 = .ok (.aload_n 0, 1) := by decide +kernel
theorem dX4_seek_82 : decode cX4_seek 82 = .ok (.getfield 15, 3) := by decide +kernel
theorem dX4_seek_85 : decode cX4_seek 85 = .ok (.arraylength, 1) := by decide +kernel
theorem dX4_seek_86 : decode cX4_seek 86 = .ok (.if_icmp .ge 68, 3) := by decide +kernel
theorem dX4_seek_89 : decode cX4_seek 89 = .ok (.aload_n 0, 1) := by decide +kernel
theorem dX4_seek_90 : decode cX4_seek 90 = .ok (.getfield 15, 3) := by decide +kernel
theorem dX4_seek_93 : decode cX4_seek 93 = .ok (.iload 5, 2) := by decide +kernel
theorem dX4_seek_95 : decode cX4_seek 95 = .ok (.iaload, 1) := by decide +kernel
theorem dX4_seek_96 : decode cX4_seek 96 = .ok (.istore 6, 2) := by decide +kernel
theorem dX4_seek_98 : decode cX4_seek 98 = .ok (.aload_n 0, 1) := by decide +kernel
theorem dX4_seek_99 : decode cX4_seek 99 = .ok (.getfield 15, 3) := by decide +kernel
theorem dX4_seek_102 : decode cX4_seek 102 = .ok (.iload 5, 2) := by decide +kernel
theorem dX4_seek_104 : decode cX4_seek 104 = .ok (.iconst 0, 1) := by decide +kernel
theorem dX4_seek_105 : decode cX4_seek 105 = .ok (.iastore, 1) := by decide +kernel
theorem dX4_seek_106 : decode cX4_seek 106 = .ok (.iconst 0, 1) := by decide +kernel
theorem dX4_seek_107 : decode cX4_seek 107 = .ok (.istore 7, 2) := by decide +kernel
theorem dX4_seek_109 : decode cX4_seek 109 = .ok (.iload 6, 2) := by decide +kernel
theorem dX4_seek_111 : decode cX4_seek 111 = .ok (.iload 7, 2) := by decide +kernel
theorem dX4_seek_113 : decode cX4_seek 113 = .ok (.iushr, 1) := by decide +kernel
theorem dX4_seek_114 : decode cX4_seek 114 = .ok (.ifCond .le 34, 3) := by decide +kernel
theorem dX4_seek_117 : decode cX4_seek 117 = .ok (.iload 7, 2) := by decide +kernel
theorem dX4_seek_119 : decode cX4_seek 119 = .ok (.bipush 31, 2) := by decide +kernel
theorem dX4_seek_121 : decode cX4_seek 121 = .ok (.if_icmp .ge 27, 3) := by decide +kernel
theorem dX4_seek_124 : decode cX4_seek 124 = .ok (.iload 6, 2) := by decide +kernel
theorem dX4_seek_126 : decode cX4_seek 126 = .ok (.iload 7, 2) := by decide +kernel
theorem dX4_seek_128 : decode cX4_seek 128 = .ok (.ishr, 1) := by decide +kernel
theorem dX4_seek_129 : decode cX4_seek 129 = .ok (.iconst 1, 1) := by decide +kernel
theorem dX4_seek_130 : decode cX4_seek 130 = .ok (.iand, 1) := by decide +kernel
theorem dX4_seek_131 : decode cX4_seek 131 = .ok (.ifCond .eq 11, 3) := by decide +kernel
theorem dX4_seek_134 : decode cX4_seek 134 = .ok (.aload_n 0, 1) := by decide +kernel
theorem dX4_seek_135 : decode cX4_seek 135 = .ok (.iload 5, 2) := by decide +kernel

theorem dX1_hasLong_25 : decode cX1_hasLong 25 = .ok (.aload_n 0, 1) := by decide +kernel
theorem dX1_hasLong_26 : decode cX1_hasLong 26 = .ok (.bipush 24, 2) := by decide +kernel
theorem dX1_hasLong_28 : decode cX1_hasLong 28 = .ok (.aload_n 0, 1) := by decide +kernel
theorem dX1_hasLong_29 : decode cX1_hasLong 29 = .ok (.getfield 103, 3) := by decide +kernel
theorem dX1_hasLong_32 : decode cX1_hasLong 32 = .ok (.iadd, 1) := by decide +kernel
theorem dX1_hasLong_33 : decode cX1_hasLong 33 = .ok (.iconst 2, 1) := by decide +kernel
theorem dX1_hasLong_34 : decode cX1_hasLong 34 = .ok (.isub, 1) := by decide +kernel
theorem dX1_hasLong_35 : decode cX1_hasLong 35 = .ok (.invokevirtual 182, 3) := by decide +kernel
theorem dX1_hasLong_38 : decode cX1_hasLong 38 = .ok (.iconst 2, 1) := by decide +kernel
theorem dX1_hasLong_39 : decode cX1_hasLong 39 = .ok (.if_icmp .ne 7, 3) := by decide +kernel
theorem dX1_hasLong_42 : decode cX1_hasLong 42 = .ok (.iconst 1, 1) := by decide +kernel
theorem dX1_hasLong_43 : decode cX1_hasLong 43 = .ok (.goto 4, 3) := by decide +kernel
theorem dX1_hasLong_46 : decode cX1_hasLong 46 = .ok (.iconst 0, 1) := by decide +kernel
theorem dX1_hasLong_47 : decode cX1_hasLong 47 = .ok (.ireturn, 1) := by decide +kernel
theorem dX1_init_0 : decode cX1_init 0 = .ok (.aload_n 0, 1) := by decide +kernel
theorem dX1_init_1 : decode cX1_init 1 = .ok (.invokespecial 3, 3) := by decide +kernel
theorem dX1_init_4 : decode cX1_init 4 = .ok (.aload_n 0, 1) := by decide +kernel
theorem dX1_init_5 : decode cX1_init 5 = .ok (.new 9, 3) := by decide +kernel
theorem dX1_init_8 : decode cX1_init 8 = .ok (.dup, 1) := by decide +kernel
theorem dX1_init_9 : decode cX1_init 9 = .ok (.invokespecial 11, 3) := by decide +kernel
theorem dX1_init_12 : decode cX1_init 12 = .ok (.putfield 12, 3) := by decide +kernel
theorem dX1_init_15 : decode cX1_init 15 = .ok (.aload_n 0, 1) := by decide +kernel
theorem dX1_init_16 : decode cX1_init 16 = .ok (.iconst 0, 1) := by decide +kernel
theorem dX1_init_17 : decode cX1_init 17 = .ok (.newarray .byte, 2) := by decide +kernel
theorem dX1_init_19 : decode cX1_init 19 = .ok (.putfield 18, 3) := by decide +kernel
theorem dX1_init_22 : decode cX1_init 22 = .ok (.aload_n 0, 1) := by decide +kernel
theorem dX1_init_23 : decode cX1_init 23 = .ok (.iconst 0, 1) := by decide +kernel
theorem dX1_init_24 : decode cX1_init 24 = .ok (.newarray .boolean, 2) := by decide +kernel
theorem dX1_init_26 : decode cX1_init 26 = .ok (.putfield 22, 3) := by decide +kernel
theorem dX1_init_29 : decode cX1_init 29 = .ok (.aload_n 0, 1) := by decide +kernel
theorem dX1_init_30 : decode cX1_init 30 = .ok (.iconst 0, 1) := by decide +kernel
theorem dX1_init_31 : decode cX1_init 31 = .ok (.newarray .boolean, 2) := by decide +kernel
theorem dX1_init_33 : decode cX1_init 33 = .ok (.putfield 26, 3) := by decide +kernel
theorem dX1_init_36 : decode cX1_init 36 = .ok (.aload_n 0, 1) := by decide +kernel
theorem dX1_init_37 : decode cX1_init 37 = .ok (.bipush 48, 2) := by decide +kernel
theorem dX1_init_39 : decode cX1_init 39 = .ok (.newarray .byte, 2) := by decide +kernel
theorem dX1_init_41 : decode cX1_init 41 = .ok (.putfield 29, 3) := by decide +kernel
theorem dX1_init_44 : decode cX1_init 44 = .ok (.return_, 1) := by decide +kernel
theorem dX1_isOnePlace_0 : decode cX1_isOnePlace 0 = .ok (.iload_n 0, 1) := by decide +kernel
theorem dX1_isOnePlace_1 : decode cX1_isOnePlace 1 = .ok (.iconst 1, 1) := by decide +kernel
theorem dX1_isOnePlace_2 : decode cX1_isOnePlace 2 = .ok (.if_icmp .eq 19, 3) := by decide +kernel
theorem dX1_isOnePlace_5 : decode cX1_isOnePlace 5 = .ok (.iload_n 0, 1) := by decide +kernel
theorem dX1_isOnePlace_6 : decode cX1_isOnePlace 6 = .ok (.iconst 4, 1) := by decide +kernel
theorem dX1_isOnePlace_7 : decode cX1_isOnePlace 7 = .ok (.if_icmp .eq 14, 3) := by decide +kernel
theorem dX1_isOnePlace_10 : decode cX1_isOnePlace 10 = .ok (.iload_n 0, 1) := by decide +kernel
theorem dX1_isOnePlace_11 : decode cX1_isOnePlace 11 = .ok (.iconst 5, 1) := by decide +kernel
theorem dX1_isOnePlace_12 : decode cX1_isOnePlace 12 = .ok (.if_icmp .eq 9, 3) := by decide +kernel
theorem dX1_isOnePlace_15 : decode cX1_isOnePlace 15 = .ok (.iload_n 0, 1) := by decide +kernel
theorem dX1_isOnePlace_16 : decode cX1_isOnePlace 16 = .ok (.bipush 6, 2) := by decide +kernel
theorem dX1_isOnePlace_18 : decode cX1_isOnePlace 18 = .ok (.if_icmp .ne 7, 3) := by decide +kernel
theorem dX1_isOnePlace_21 : decode cX1_isOnePlace 21 = .ok (.iconst 1, 1) := by decide +kernel
theorem dX1_isOnePlace_22 : decode cX1_isOnePlace 22 = .ok (.goto 4, 3) := by decide +kernel
theorem dX1_isOnePlace_25 : decode cX1_isOnePlace 25 = .ok (.iconst 0, 1) := by decide +kernel
theorem dX1_isOnePlace_26 : decode cX1_isOnePlace 26 = .ok (.ireturn, 1) := by decide +kernel
theorem dX1_isReference_0 : decode cX1_isReference 0 = .ok (.iload_n 0, 1) := by decide +kernel
theorem dX1_isReference_1 : decode cX1_isReference 1 = .ok (.iconst 4, 1) := by decide +kernel
theorem dX1_isReference_2 : decode cX1_isReference 2 = .ok (.if_icmp .eq 14, 3) := by decide +kernel
theorem dX1_isReference_5 : decode cX1_isReference 5 = .ok (.iload_n 0, 1) := by decide +kernel
theorem dX1_isReference_6 : decode cX1_isReference 6 = .ok (.iconst 5, 1) := by decide +kernel
theorem dX1_isReference_7 : decode cX1_isReference 7 = .ok (.if_icmp .eq 9, 3) := by decide +kernel
theorem dX1_isReference_10 : decode cX1_isReference 10 = .ok (.iload_n 0, 1) := by decide +kernel
theorem dX1_isReference_11 : decode cX1_isReference 11 = .ok (.bipush 6, 2) := by decide +kernel
theorem dX1_isReference_13 : decode cX1_isReference 13 = .ok (.if_icmp .ne 7, 3) := by decide +kernel
theorem dX1_isReference_16 : decode cX1_isReference 16 = .ok (.iconst 1, 1) := by decide +kernel
theorem dX1_isReference_17 : decode cX1_isReference 17 = .ok (.goto 4, 3) := by decide +kernel
theorem dX1_isReference_20 : decode cX1_isReference 20 = .ok (.iconst 0, 1) := by decide +kernel
theorem dX1_isReference_21 : decode cX1_isReference 21 = .ok (.ireturn, 1) := by decide +kernel
theorem dX1_join_0 : decode cX1_join 0 = .ok (.iload_n 0, 1) := by decide +kernel
theorem dX1_join_1 : decode cX1_join 1 = .ok (.iload_n 1, 1) := by decide +kernel
theorem dX1_join_2 : decode cX1_join 2 = .ok (.if_icmp .eq 19, 3) := by decide +kernel
theorem dX1_join_5 : decode cX1_join 5 = .ok (.iload_n 1, 1) := by decide +kernel
theorem dX1_join_6 : decode cX1_join 6 = .ok (.bipush 6, 2) := by decide +kernel
theorem dX1_join_8 : decode cX1_join 8 = .ok (.if_icmp .ne 15, 3) := by decide +kernel
theorem dX1_join_11 : decode cX1_join 11 = .ok (.iload_n 0, 1) := by decide +kernel
theorem dX1_join_12 : decode cX1_join 12 = .ok (.iconst 4, 1) := by decide +kernel
theorem dX1_join_13 : decode cX1_join 13 = .ok (.if_icmp .eq 8, 3) := by decide +kernel
theorem dX1_join_16 : decode cX1_join 16 = .ok (.iload_n 0, 1) := by decide +kernel
theorem dX1_join_17 : decode cX1_join 17 = .ok (.iconst 5, 1) := by decide +kernel
theorem dX1_join_18 : decode cX1_join 18 = .ok (.if_icmp .ne 5, 3) := by decide +kernel
theorem dX1_join_21 : decode cX1_join 21 = .ok (.iload_n 0, 1) := by decide +kernel
theorem dX1_join_22 : decode cX1_join 22 = .ok (.ireturn, 1) := by decide +kernel
theorem dX1_join_23 : decode cX1_join 23 = .ok (.iload_n 0, 1) := by decide +kernel
theorem dX1_join_24 : decode cX1_join 24 = .ok (.bipush 6, 2) := by decide +kernel
theorem dX1_join_26 : decode cX1_join 26 = .ok (.if_icmp .ne 17, 3) := by decide +kernel
theorem dX1_join_29 : decode cX1_join 29 = .ok (.iload_n 1, 1) := by decide +kernel
theorem dX1_join_30 : decode cX1_join 30 = .ok (.iconst 4, 1) := by decide +kernel
theorem dX1_join_31 : decode cX1_join 31 = .ok (.if_icmp .eq 8, 3) := by decide +kernel
theorem dX1_join_34 : decode cX1_join 34 = .ok (.iload_n 1, 1) := by decide +kernel
theorem dX1_join_35 : decode cX1_join 35 = .ok (.iconst 5, 1) := by decide +kernel
theorem dX1_join_36 : decode cX1_join 36 = .ok (.if_icmp .ne 7, 3) := by decide +kernel
theorem dX1_join_39 : decode cX1_join 39 = .ok (.iload_n 1, 1) := by decide +kernel
theorem dX1_join_40 : decode cX1_join 40 = .ok (.goto 4, 3) := by decide +kernel
theorem dX1_join_43 : decode cX1_join 43 = .ok (.iconst 0, 1) := by decide +kernel
theorem dX1_join_44 : decode cX1_join 44 = .ok (.ireturn, 1) := by decide +kernel
theorem dX1_keepTypes_0 : decode cX1_keepTypes 0 = .ok (.aload_n 0, 1) := by decide +kernel
theorem dX1_keepTypes_1 : decode cX1_keepTypes 1 = .ok (.getfield 36, 3) := by decide +kernel
theorem dX1_keepTypes_4 : decode cX1_keepTypes 4 = .ok (.aload_n 0, 1) := by decide +kernel
theorem dX1_keepTypes_5 : decode cX1_keepTypes 5 = .ok (.getfield 36, 3) := by decide +kernel
theorem dX1_keepTypes_8 : decode cX1_keepTypes 8 = .ok (.getfield 50, 3) := by decide +kernel
theorem dX1_keepTypes_11 : decode cX1_keepTypes 11 = .ok (.newarray .byte, 2) := by decide +kernel
theorem dX1_keepTypes_13 : decode cX1_keepTypes 13 = .ok (.putfield 228, 3) := by decide +kernel
theorem dX1_keepTypes_16 : decode cX1_keepTypes 16 = .ok (.aload_n 0, 1) := by decide +kernel
theorem dX1_keepTypes_17 : decode cX1_keepTypes 17 = .ok (.getfield 36, 3) := by decide +kernel
theorem dX1_keepTypes_20 : decode cX1_keepTypes 20 = .ok (.aload_n 0, 1) := by decide +kernel
theorem dX1_keepTypes_21 : decode cX1_keepTypes 21 = .ok (.getfield 36, 3) := by decide +kernel
theorem dX1_keepTypes_24 : decode cX1_keepTypes 24 = .ok (.getfield 50, 3) := by decide +kernel
theorem dX1_keepTypes_27 : decode cX1_keepTypes 27 = .ok (.newarray .long, 2) := by decide +kernel
theorem dX1_keepTypes_29 : decode cX1_keepTypes 29 = .ok (.putfield 230, 3) := by decide +kernel
theorem dX1_keepTypes_32 : decode cX1_keepTypes 32 = .ok (.aload_n 0, 1) := by decide +kernel
theorem dX1_keepTypes_33 : decode cX1_keepTypes 33 = .ok (.getfield 36, 3) := by decide +kernel
theorem dX1_keepTypes_36 : decode cX1_keepTypes 36 = .ok (.aload_n 0, 1) := by decide +kernel
theorem dX1_keepTypes_37 : decode cX1_keepTypes 37 = .ok (.getfield 36, 3) := by decide +kernel
theorem dX1_keepTypes_40 : decode cX1_keepTypes 40 = .ok (.getfield 50, 3) := by decide +kernel
theorem dX1_keepTypes_43 : decode cX1_keepTypes 43 = .ok (.newarray .long, 2) := by decide +kernel
theorem dX1_keepTypes_45 : decode cX1_keepTypes 45 = .ok (.putfield 234, 3) := by decide +kernel
theorem dX1_keepTypes_48 : decode cX1_keepTypes 48 = .ok (.iconst 0, 1) := by decide +kernel
theorem dX1_keepTypes_49 : decode cX1_keepTypes 49 = .ok (.istore_n 1, 1) := by decide +kernel
theorem dX1_keepTypes_50 : decode cX1_keepTypes 50 = .ok (.iload_n 1, 1) := by decide +kernel
theorem dX1_keepTypes_51 : decode cX1_keepTypes 51 = .ok (.aload_n 0, 1) := by decide +kernel
theorem dX1_keepTypes_52 : decode cX1_keepTypes 52 = .ok (.getfield 36, 3) := by decide +kernel
theorem dX1_keepTypes_55 : decode cX1_keepTypes 55 = .ok (.getfield 50, 3) := by decide +kernel
theorem dX1_keepTypes_58 : decode cX1_keepTypes 58 = .ok (.if_icmp .ge 109, 3) := by decide +kernel
theorem dX1_keepTypes_61 : decode cX1_keepTypes 61 = .ok (.aload_n 0, 1) := by decide +kernel
theorem dX1_keepTypes_62 : decode cX1_keepTypes 62 = .ok (.getfield 36, 3) := by decide +kernel
theorem dX1_keepTypes_65 : decode cX1_keepTypes 65 = .ok (.getfield 228, 3) := by decide +kernel
theorem dX1_keepTypes_68 : decode cX1_keepTypes 68 = .ok (.iload_n 1, 1) := by decide +kernel
theorem dX1_keepTypes_69 : decode cX1_keepTypes 69 = .ok (.aload_n 0, 1) := by decide +kernel
theorem dX1_keepTypes_70 : decode cX1_keepTypes 70 = .ok (.getfield 12, 3) := by decide +kernel
theorem dX1_keepTypes_73 : decode cX1_keepTypes 73 = .ok (.iload_n 1, 1) := by decide +kernel
theorem dX1_keepTypes_74 : decode cX1_keepTypes 74 = .ok (.invokevirtual 112, 3) := by decide +kernel
theorem dX1_keepTypes_77 : decode cX1_keepTypes 77 = .ok (.i2b, 1) := by decide +kernel
theorem dX1_keepTypes_78 : decode cX1_keepTypes 78 = .ok (.bastore, 1) := by decide +kernel
theorem dX1_keepTypes_79 : decode cX1_keepTypes 79 = .ok (.iconst 0, 1) := by decide +kernel
theorem dX1_keepTypes_80 : decode cX1_keepTypes 80 = .ok (.istore_n 2, 1) := by decide +kernel
theorem dX1_keepTypes_81 : decode cX1_keepTypes 81 = .ok (.aload_n 0, 1) := by decide +kernel
theorem dX1_keepTypes_82 : decode cX1_keepTypes 82 = .ok (.getfield 22, 3) := by decide +kernel
theorem dX1_keepTypes_85 : decode cX1_keepTypes 85 = .ok (.iload_n 1, 1) := by decide +kernel
theorem dX1_keepTypes_86 : decode cX1_keepTypes 86 = .ok (.baload, 1) := by decide +kernel
theorem dX1_keepTypes_87 : decode cX1_keepTypes 87 = .ok (.ifCond .eq 74, 3) := by decide +kernel
theorem dX1_keepTypes_90 : decode cX1_keepTypes 90 = .ok (.iload_n 2, 1) := by decide +kernel
theorem dX1_keepTypes_91 : decode cX1_keepTypes 91 = .ok (.bipush 24, 2) := by decide +kernel
theorem dX1_keepTypes_93 : decode cX1_keepTypes 93 = .ok (.if_icmp .ge 68, 3) := by decide +kernel
theorem dX1_keepTypes_96 : decode cX1_keepTypes 96 = .ok (.aload_n 0, 1) := by decide +kernel
theorem dX1_keepTypes_97 : decode cX1_keepTypes 97 = .ok (.getfield 18, 3) := by decide +kernel
theorem dX1_keepTypes_100 : decode cX1_keepTypes 100 = .ok (.iload_n 1, 1) := by decide +kernel
theorem dX1_keepTypes_101 : decode cX1_keepTypes 101 = .ok (.bipush 48, 2) := by decide +kernel
theorem dX1_keepTypes_103 : decode cX1_keepTypes 103 = .ok (.imul, 1) := by decide +kernel
theorem dX1_keepTypes_104 : decode cX1_keepTypes 104 = .ok (.iload_n 2, 1) := by decide +kernel
theorem dX1_keepTypes_105 : decode cX1_keepTypes 105 = .ok (.iadd, 1) := by decide +kernel
theorem dX1_keepTypes_106 : decode cX1_keepTypes 106 = .ok (.baload, 1) := by decide +kernel

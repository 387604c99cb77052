theorem dX14_leastLocals_55 : decode cX14_leastLocals 55 = .ok (.iload 4, 2) := by decide +kernel
theorem dX14_leastLocals_57 : decode cX14_leastLocals 57 = .ok (.bipush 25, 2) := by decide +kernel
theorem dX14_leastLocals_59 : decode cX14_leastLocals 59 = .ok (.if_icmp .eq 25, 3) := by decide +kernel
theorem dX14_leastLocals_62 : decode cX14_leastLocals 62 = .ok (.iload 4, 2) := by decide +kernel
theorem dX14_leastLocals_64 : decode cX14_leastLocals 64 = .ok (.bipush 54, 2) := by decide +kernel
theorem dX14_leastLocals_66 : decode cX14_leastLocals 66 = .ok (.if_icmp .eq 18, 3) := by decide +kernel
theorem dX14_leastLocals_69 : decode cX14_leastLocals 69 = .ok (.iload 4, 2) := by decide +kernel
theorem dX14_leastLocals_71 : decode cX14_leastLocals 71 = .ok (.bipush 58, 2) := by decide +kernel
theorem dX14_leastLocals_73 : decode cX14_leastLocals 73 = .ok (.if_icmp .eq 11, 3) := by decide +kernel
theorem dX14_leastLocals_76 : decode cX14_leastLocals 76 = .ok (.iload 4, 2) := by decide +kernel
theorem dX14_leastLocals_78 : decode cX14_leastLocals 78 = .ok (.sipush 132, 3) := by decide +kernel
theorem dX14_leastLocals_81 : decode cX14_leastLocals 81 = .ok (.if_icmp .ne 15, 3) := by decide +kernel
theorem dX14_leastLocals_84 : decode cX14_leastLocals 84 = .ok (.iload_n 2, 1) := by decide +kernel
theorem dX14_leastLocals_85 : decode cX14_leastLocals 85 = .ok (.aload_n 0, 1) := by decide +kernel
theorem dX14_leastLocals_86 : decode cX14_leastLocals 86 = .ok (.iload_n 3, 1) := by decide +kernel
theorem dX14_leastLocals_87 : decode cX14_leastLocals 87 = .ok (.invokevirtual 697, 3) := by decide +kernel
theorem dX14_leastLocals_90 : decode cX14_leastLocals 90 = .ok (.iconst 1, 1) := by decide +kernel
theorem dX14_leastLocals_91 : decode cX14_leastLocals 91 = .ok (.iadd, 1) := by decide +kernel
theorem dX14_leastLocals_92 : decode cX14_leastLocals 92 = .ok (.invokestatic 926, 3) := by decide +kernel
theorem dX14_leastLocals_95 : decode cX14_leastLocals 95 = .ok (.istore_n 2, 1) := by decide +kernel
theorem dX14_leastLocals_96 : decode cX14_leastLocals 96 = .ok (.iinc 3 1, 3) := by decide +kernel
theorem dX14_leastLocals_99 : decode cX14_leastLocals 99 = .ok (.goto (-92), 3) := by decide +kernel
theorem dX14_leastLocals_102 : decode cX14_leastLocals 102 = .ok (.iload_n 2, 1) := by decide +kernel
theorem dX14_leastLocals_103 : decode cX14_leastLocals 103 = .ok (.ireturn, 1) := by decide +kernel
theorem dX14_leastStack_0 : decode cX14_leastStack 0 = .ok (.aload_n 0, 1) := by decide +kernel
theorem dX14_leastStack_1 : decode cX14_leastStack 1 = .ok (.bipush 28, 2) := by decide +kernel
theorem dX14_leastStack_3 : decode cX14_leastStack 3 = .ok (.invokevirtual 838, 3) := by decide +kernel
theorem dX14_leastStack_6 : decode cX14_leastStack 6 = .ok (.iconst 0, 1) := by decide +kernel
theorem dX14_leastStack_7 : decode cX14_leastStack 7 = .ok (.istore_n 1, 1) := by decide +kernel
theorem dX14_leastStack_8 : decode cX14_leastStack 8 = .ok (.iconst 0, 1) := by decide +kernel
theorem dX14_leastStack_9 : decode cX14_leastStack 9 = .ok (.istore_n 2, 1) := by decide +kernel
theorem dX14_leastStack_10 : decode cX14_leastStack 10 = .ok (.iload_n 2, 1) := by decide +kernel
theorem dX14_leastStack_11 : decode cX14_leastStack 11 = .ok (.aload_n 0, 1) := by decide +kernel
theorem dX14_leastStack_12 : decode cX14_leastStack 12 = .ok (.getfield 673, 3) := by decide +kernel
theorem dX14_leastStack_15 : decode cX14_leastStack 15 = .ok (.if_icmp .ge 34, 3) := by decide +kernel
theorem dX14_leastStack_18 : decode cX14_leastStack 18 = .ok (.aload_n 0, 1) := by decide +kernel
theorem dX14_leastStack_19 : decode cX14_leastStack 19 = .ok (.iload_n 2, 1) := by decide +kernel
theorem dX14_leastStack_20 : decode cX14_leastStack 20 = .ok (.invokevirtual 774, 3) := by decide +kernel
theorem dX14_leastStack_23 : decode cX14_leastStack 23 = .ok (.istore_n 3, 1) := by decide +kernel
theorem dX14_leastStack_24 : decode cX14_leastStack 24 = .ok (.iload_n 3, 1) := by decide +kernel
theorem dX14_leastStack_25 : decode cX14_leastStack 25 = .ok (.ifCond .lt 18, 3) := by decide +kernel
theorem dX14_leastStack_28 : decode cX14_leastStack 28 = .ok (.iload_n 1, 1) := by decide +kernel
theorem dX14_leastStack_29 : decode cX14_leastStack 29 = .ok (.iload_n 3, 1) := by decide +kernel
theorem dX14_leastStack_30 : decode cX14_leastStack 30 = .ok (.aload_n 0, 1) := by decide +kernel
theorem dX14_leastStack_31 : decode cX14_leastStack 31 = .ok (.iload_n 2, 1) := by decide +kernel
theorem dX14_leastStack_32 : decode cX14_leastStack 32 = .ok (.iload_n 3, 1) := by decide +kernel
theorem dX14_leastStack_33 : decode cX14_leastStack 33 = .ok (.invokevirtual 747, 3) := by decide +kernel
theorem dX14_leastStack_36 : decode cX14_leastStack 36 = .ok (.invokestatic 926, 3) := by decide +kernel
theorem dX14_leastStack_39 : decode cX14_leastStack 39 = .ok (.invokestatic 926, 3) := by decide +kernel
theorem dX14_leastStack_42 : decode cX14_leastStack 42 = .ok (.istore_n 1, 1) := by decide +kernel
theorem dX14_leastStack_43 : decode cX14_leastStack 43 = .ok (.iinc 2 1, 3) := by decide +kernel
theorem dX14_leastStack_46 : decode cX14_leastStack 46 = .ok (.goto (-36), 3) := by decide +kernel
theorem dX14_leastStack_49 : decode cX14_leastStack 49 = .ok (.iload_n 1, 1) := by decide +kernel
theorem dX14_leastStack_50 : decode cX14_leastStack 50 = .ok (.ireturn, 1) := by decide +kernel
theorem dX14_leave_0 : decode cX14_leave 0 = .ok (.iload_n 1, 1) := by decide +kernel
theorem dX14_leave_1 : decode cX14_leave 1 = .ok (.sipush 177, 3) := by decide +kernel
theorem dX14_leave_4 : decode cX14_leave 4 = .ok (.if_icmp .ne 7, 3) := by decide +kernel
theorem dX14_leave_7 : decode cX14_leave 7 = .ok (.lconst 0, 1) := by decide +kernel
theorem dX14_leave_8 : decode cX14_leave 8 = .ok (.goto 19, 3) := by decide +kernel
theorem dX14_leave_11 : decode cX14_leave 11 = .ok (.aload_n 0, 1) := by decide +kernel
theorem dX14_leave_12 : decode cX14_leave 12 = .ok (.iload_n 1, 1) := by decide +kernel
theorem dX14_leave_13 : decode cX14_leave 13 = .ok (.sipush 173, 3) := by decide +kernel
theorem dX14_leave_16 : decode cX14_leave 16 = .ok (.if_icmp .ne 7, 3) := by decide +kernel
theorem dX14_leave_19 : decode cX14_leave 19 = .ok (.iconst 2, 1) := by decide +kernel
theorem dX14_leave_20 : decode cX14_leave 20 = .ok (.goto 4, 3) := by decide +kernel
theorem dX14_leave_23 : decode cX14_leave 23 = .ok (.iconst 1, 1) := by decide +kernel
theorem dX14_leave_24 : decode cX14_leave 24 = .ok (.invokevirtual 1000, 3) := by decide +kernel
theorem dX14_leave_27 : decode cX14_leave 27 = .ok (.lstore_n 2, 1) := by decide +kernel
theorem dX14_leave_28 : decode cX14_leave 28 = .ok (.aload_n 0, 1) := by decide +kernel
theorem dX14_leave_29 : decode cX14_leave 29 = .ok (.dup, 1) := by decide +kernel
theorem dX14_leave_30 : decode cX14_leave 30 = .ok (.getfield 974, 3) := by decide +kernel
theorem dX14_leave_33 : decode cX14_leave 33 = .ok (.iconst 1, 1) := by decide +kernel
theorem dX14_leave_34 : decode cX14_leave 34 = .ok (.isub, 1) := by decide +kernel
theorem dX14_leave_35 : decode cX14_leave 35 = .ok (.putfield 974, 3) := by decide +kernel
theorem dX14_leave_38 : decode cX14_leave 38 = .ok (.aload_n 0, 1) := by decide +kernel
theorem dX14_leave_39 : decode cX14_leave 39 = .ok (.getfield 974, 3) := by decide +kernel
theorem dX14_leave_42 : decode cX14_leave 42 = .ok (.ifCond .ne 14, 3) := by decide +kernel
theorem dX14_leave_45 : decode cX14_leave 45 = .ok (.aload_n 0, 1) := by decide +kernel
theorem dX14_leave_46 : decode cX14_leave 46 = .ok (.iconst 0, 1) := by decide +kernel
theorem dX14_leave_47 : decode cX14_leave 47 = .ok (.putfield 977, 3) := by decide +kernel
theorem dX14_leave_50 : decode cX14_leave 50 = .ok (.aload_n 0, 1) := by decide +kernel
theorem dX14_leave_51 : decode cX14_leave 51 = .ok (.lload_n 2, 1) := by decide +kernel
theorem dX14_leave_52 : decode cX14_leave 52 = .ok (.putfield 980, 3) := by decide +kernel
theorem dX14_leave_55 : decode cX14_leave 55 = .ok (.return_, 1) := by decide +kernel
theorem dX14_leave_56 : decode cX14_leave 56 = .ok (.iload_n 1, 1) := by decide +kernel
theorem dX14_leave_57 : decode cX14_leave 57 = .ok (.sipush 172, 3) := by decide +kernel
theorem dX14_leave_60 : decode cX14_leave 60 = .ok (.if_icmp .ne 12, 3) := by decide +kernel
theorem dX14_leave_63 : decode cX14_leave 63 = .ok (.aload_n 0, 1) := by decide +kernel
theorem dX14_leave_64 : decode cX14_leave 64 = .ok (.lload_n 2, 1) := by decide +kernel
theorem dX14_leave_65 : decode cX14_leave 65 = .ok (.l2i, 1) := by decide +kernel
theorem dX14_leave_66 : decode cX14_leave 66 = .ok (.invokevirtual 1056, 3) := by decide +kernel
theorem dX14_leave_69 : decode cX14_leave 69 = .ok (.goto 27, 3) := by decide +kernel
theorem dX14_leave_72 : decode cX14_leave 72 = .ok (.iload_n 1, 1) := by decide +kernel
theorem dX14_leave_73 : decode cX14_leave 73 = .ok (.sipush 177, 3) := by decide +kernel
theorem dX14_leave_76 : decode cX14_leave 76 = .ok (.if_icmp .eq 20, 3) := by decide +kernel
theorem dX14_leave_79 : decode cX14_leave 79 = .ok (.aload_n 0, 1) := by decide +kernel
theorem dX14_leave_80 : decode cX14_leave 80 = .ok (.lload_n 2, 1) := by decide +kernel
theorem dX14_leave_81 : decode cX14_leave 81 = .ok (.iload_n 1, 1) := by decide +kernel
theorem dX14_leave_82 : decode cX14_leave 82 = .ok (.sipush 173, 3) := by decide +kernel
theorem dX14_leave_85 : decode cX14_leave 85 = .ok (.if_icmp .ne 7, 3) := by decide +kernel
theorem dX14_leave_88 : decode cX14_leave 88 = .ok (.iconst 2, 1) := by decide +kernel
theorem dX14_leave_89 : decode cX14_leave 89 = .ok (.goto 4, 3) := by decide +kernel
theorem dX14_leave_92 : decode cX14_leave 92 = .ok (.iconst 1, 1) := by decide +kernel
theorem dX14_leave_93 : decode cX14_leave 93 = .ok (.invokevirtual 1003, 3) := by decide +kernel
theorem dX14_leave_96 : decode cX14_leave 96 = .ok (.aload_n 0, 1) := by decide +kernel
theorem dX14_leave_97 : decode cX14_leave 97 = .ok (.aload_n 0, 1) := by decide +kernel
theorem dX14_leave_98 : decode cX14_leave 98 = .ok (.getfield 164, 3) := by decide +kernel
theorem dX14_leave_101 : decode cX14_leave 101 = .ok (.aload_n 0, 1) := by decide +kernel
theorem dX14_leave_102 : decode cX14_leave 102 = .ok (.getfield 974, 3) := by decide +kernel
theorem dX14_leave_105 : decode cX14_leave 105 = .ok (.iconst 1, 1) := by decide +kernel
theorem dX14_leave_106 : decode cX14_leave 106 = .ok (.isub, 1) := by decide +kernel
theorem dX14_leave_107 : decode cX14_leave 107 = .ok (.iaload, 1) := by decide +kernel
theorem dX14_leave_108 : decode cX14_leave 108 = .ok (.iconst 1, 1) := by decide +kernel
theorem dX14_leave_109 : decode cX14_leave 109 = .ok (.iadd, 1) := by decide +kernel
theorem dX14_leave_110 : decode cX14_leave 110 = .ok (.invokevirtual 1006, 3) := by decide +kernel
theorem dX14_leave_113 : decode cX14_leave 113 = .ok (.return_, 1) := by decide +kernel
theorem dX14_left_0 : decode cX14_left 0 = .ok (.iload_n 0, 1) := by decide +kernel
theorem dX14_left_1 : decode cX14_left 1 = .ok (.bipush 89, 2) := by decide +kernel
theorem dX14_left_3 : decode cX14_left 3 = .ok (.if_icmp .eq 9, 3) := by decide +kernel
theorem dX14_left_6 : decode cX14_left 6 = .ok (.iload_n 0, 1) := by decide +kernel
theorem dX14_left_7 : decode cX14_left 7 = .ok (.bipush 95, 2) := by decide +kernel
theorem dX14_left_9 : decode cX14_left 9 = .ok (.if_icmp .ne 7, 3) := by decide +kernel
theorem dX14_left_12 : decode cX14_left 12 = .ok (.iconst 2, 1) := by decide +kernel
theorem dX14_left_13 : decode cX14_left 13 = .ok (.goto 24, 3) := by decide +kernel
theorem dX14_left_16 : decode cX14_left 16 = .ok (.iload_n 0, 1) := by decide +kernel
theorem dX14_left_17 : decode cX14_left 17 = .ok (.bipush 90, 2) := by decide +kernel
theorem dX14_left_19 : decode cX14_left 19 = .ok (.if_icmp .ne 7, 3) := by decide +kernel
theorem dX14_left_22 : decode cX14_left 22 = .ok (.iconst 3, 1) := by decide +kernel
theorem dX14_left_23 : decode cX14_left 23 = .ok (.goto 14, 3) := by decide +kernel
theorem dX14_left_26 : decode cX14_left 26 = .ok (.iload_n 0, 1) := by decide +kernel
theorem dX14_left_27 : decode cX14_left 27 = .ok (.bipush 92, 2) := by decide +kernel
theorem dX14_left_29 : decode cX14_left 29 = .ok (.if_icmp .ne 7, 3) := by decide +kernel
theorem dX14_left_32 : decode cX14_left 32 = .ok (.iconst 4, 1) := by decide +kernel
theorem dX14_left_33 : decode cX14_left 33 = .ok (.goto 4, 3) := by decide +kernel
theorem dX14_left_36 : decode cX14_left 36 = .ok (.iconst 0, 1) := by decide +kernel
theorem dX14_left_37 : decode cX14_left 37 = .ok (.ireturn, 1) := by decide +kernel
theorem dX14_length_0 : decode cX14_length 0 = .ok (.aload_n 0, 1) := by decide +kernel
theorem dX14_length_1 : decode cX14_length 1 = .ok (.iload_n 1, 1) := by decide +kernel
theorem dX14_length_2 : decode cX14_length 2 = .ok (.iload_n 2, 1) := by decide +kernel
theorem dX14_length_3 : decode cX14_length 3 = .ok (.invokevirtual 662, 3) := by decide +kernel
theorem dX14_length_6 : decode cX14_length 6 = .ok (.ifCond .eq 17, 3) := by decide +kernel
theorem dX14_length_9 : decode cX14_length 9 = .ok (.aload_n 0, 1) := by decide +kernel
theorem dX14_length_10 : decode cX14_length 10 = .ok (.getfield 11, 3) := by decide +kernel
theorem dX14_length_13 : decode cX14_length 13 = .ok (.iload_n 1, 1) := by decide +kernel
theorem dX14_length_14 : decode cX14_length 14 = .ok (.aaload, 1) := by decide +kernel
theorem dX14_length_15 : decode cX14_length 15 = .ok (.getfield 510, 3) := by decide +kernel
theorem dX14_length_18 : decode cX14_length 18 = .ok (.iload_n 2, 1) := by decide +kernel
theorem dX14_length_19 : decode cX14_length 19 = .ok (.iaload, 1) := by decide +kernel
theorem dX14_length_20 : decode cX14_length 20 = .ok (.goto 4, 3) := by decide +kernel
theorem dX14_length_23 : decode cX14_length 23 = .ok (.iconst (-1), 1) := by decide +kernel
theorem dX14_length_24 : decode cX14_length 24 = .ok (.ireturn, 1) := by decide +kernel
theorem dX14_letter_0 : decode cX14_letter 0 = .ok (.iload_n 2, 1) := by decide +kernel
theorem dX14_letter_1 : decode cX14_letter 1 = .ok (.aload_n 0, 1) := by decide +kernel
theorem dX14_letter_2 : decode cX14_letter 2 = .ok (.getfield 40, 3) := by decide +kernel
theorem dX14_letter_5 : decode cX14_letter 5 = .ok (.iload_n 1, 1) := by decide +kernel
theorem dX14_letter_6 : decode cX14_letter 6 = .ok (.iaload, 1) := by decide +kernel
theorem dX14_letter_7 : decode cX14_letter 7 = .ok (.if_icmp .ge 19, 3) := by decide +kernel
theorem dX14_letter_10 : decode cX14_letter 10 = .ok (.aload_n 0, 1) := by decide +kernel
theorem dX14_letter_11 : decode cX14_letter 11 = .ok (.getfield 309, 3) := by decide +kernel
theorem dX14_letter_14 : decode cX14_letter 14 = .ok (.aload_n 0, 1) := by decide +kernel
theorem dX14_letter_15 : decode cX14_letter 15 = .ok (.getfield 37, 3) := by decide +kernel
theorem dX14_letter_18 : decode cX14_letter 18 = .ok (.iload_n 1, 1) := by decide +kernel
theorem dX14_letter_19 : decode cX14_letter 19 = .ok (.iaload, 1) := by decide +kernel
theorem dX14_letter_20 : decode cX14_letter 20 = .ok (.iload_n 2, 1) := by decide +kernel
theorem dX14_letter_21 : decode cX14_letter 21 = .ok (.iadd, 1) := by decide +kernel
theorem dX14_letter_22 : decode cX14_letter 22 = .ok (.baload, 1) := by decide +kernel
theorem dX14_letter_23 : decode cX14_letter 23 = .ok (.goto 4, 3) := by decide +kernel
theorem dX14_letter_26 : decode cX14_letter 26 = .ok (.iconst 0, 1) := by decide +kernel
theorem dX14_letter_27 : decode cX14_letter 27 = .ok (.ireturn, 1) := by decide +kernel
theorem dX14_letters_0 : decode cX14_letters 0 = .ok (.new 540, 3) := by decide +kernel
theorem dX14_letters_3 : decode cX14_letters 3 = .ok (.dup, 1) := by decide +kernel
theorem dX14_letters_4 : decode cX14_letters 4 = .ok (.iconst 4, 1) := by decide +kernel
theorem dX14_letters_5 : decode cX14_letters 5 = .ok (.invokespecial 542, 3) := by decide +kernel
theorem dX14_letters_8 : decode cX14_letters 8 = .ok (.astore_n 2, 1) := by decide +kernel
theorem dX14_letters_9 : decode cX14_letters 9 = .ok (.iload_n 1, 1) := by decide +kernel
theorem dX14_letters_10 : decode cX14_letters 10 = .ok (.istore_n 3, 1) := by decide +kernel
theorem dX14_letters_11 : decode cX14_letters 11 = .ok (.iload_n 3, 1) := by decide +kernel
theorem dX14_letters_12 : decode cX14_letters 12 = .ok (.aload_n 0, 1) := by decide +kernel
theorem dX14_letters_13 : decode cX14_letters 13 = .ok (.invokevirtual 404, 3) := by decide +kernel
theorem dX14_letters_16 : decode cX14_letters 16 = .ok (.if_icmp .ge 62, 3) := by decide +kernel
theorem dX14_letters_19 : decode cX14_letters 19 = .ok (.aload_n 0, 1) := by decide +kernel
theorem dX14_letters_20 : decode cX14_letters 20 = .ok (.iload_n 3, 1) := by decide +kernel
theorem dX14_letters_21 : decode cX14_letters 21 = .ok (.invokevirtual 408, 3) := by decide +kernel
theorem dX14_letters_24 : decode cX14_letters 24 = .ok (.bipush 41, 2) := by decide +kernel
theorem dX14_letters_26 : decode cX14_letters 26 = .ok (.if_icmp .eq 52, 3) := by decide +kernel
theorem dX14_letters_29 : decode cX14_letters 29 = .ok (.aload_n 0, 1) := by decide +kernel
theorem dX14_letters_30 : decode cX14_letters 30 = .ok (.iload_n 3, 1) := by decide +kernel
theorem dX14_letters_31 : decode cX14_letters 31 = .ok (.invokevirtual 408, 3) := by decide +kernel
theorem dX14_letters_34 : decode cX14_letters 34 = .ok (.bipush 91, 2) := by decide +kernel
theorem dX14_letters_36 : decode cX14_letters 36 = .ok (.if_icmp .ne 16, 3) := by decide +kernel
theorem dX14_letters_39 : decode cX14_letters 39 = .ok (.aload_n 2, 1) := by decide +kernel
theorem dX14_letters_40 : decode cX14_letters 40 = .ok (.bipush 65, 2) := by decide +kernel
theorem dX14_letters_42 : decode cX14_letters 42 = .ok (.invokevirtual 544, 3) := by decide +kernel
theorem dX14_letters_45 : decode cX14_letters 45 = .ok (.pop, 1) := by decide +kernel
theorem dX14_letters_46 : decode cX14_letters 46 = .ok (.iinc 3 1, 3) := by decide +kernel
theorem dX14_letters_49 : decode cX14_letters 49 = .ok (.goto 23, 3) := by decide +kernel
theorem dX14_letters_52 : decode cX14_letters 52 = .ok (.aload_n 0, 1) := by decide +kernel
theorem dX14_letters_53 : decode cX14_letters 53 = .ok (.iload_n 3, 1) := by decide +kernel
theorem dX14_letters_54 : decode cX14_letters 54 = .ok (.invokevirtual 408, 3) := by decide +kernel
theorem dX14_letters_57 : decode cX14_letters 57 = .ok (.bipush 86, 2) := by decide +kernel
theorem dX14_letters_59 : decode cX14_letters 59 = .ok (.if_icmp .eq 13, 3) := by decide +kernel
theorem dX14_letters_62 : decode cX14_letters 62 = .ok (.aload_n 2, 1) := by decide +kernel
theorem dX14_letters_63 : decode cX14_letters 63 = .ok (.aload_n 0, 1) := by decide +kernel
theorem dX14_letters_64 : decode cX14_letters 64 = .ok (.iload_n 3, 1) := by decide +kernel
theorem dX14_letters_65 : decode cX14_letters 65 = .ok (.invokevirtual 408, 3) := by decide +kernel
theorem dX14_letters_68 : decode cX14_letters 68 = .ok (.invokevirtual 544, 3) := by decide +kernel
theorem dX14_letters_71 : decode cX14_letters 71 = .ok (.pop, 1) := by decide +kernel
theorem dX14_letters_72 : decode cX14_letters 72 = .ok (.iinc 3 1, 3) := by decide +kernel
theorem dX14_letters_75 : decode cX14_letters 75 = .ok (.goto (-64), 3) := by decide +kernel
theorem dX14_letters_78 : decode cX14_letters 78 = .ok (.aload_n 2, 1) := by decide +kernel
theorem dX14_letters_79 : decode cX14_letters 79 = .ok (.invokevirtual 548, 3) := by decide +kernel
theorem dX14_letters_82 : decode cX14_letters 82 = .ok (.areturn, 1) := by decide +kernel
theorem dX14_liveAt_0 : decode cX14_liveAt 0 = .ok (.aload_n 0, 1) := by decide +kernel
theorem dX14_liveAt_1 : decode cX14_liveAt 1 = .ok (.iload_n 1, 1) := by decide +kernel
theorem dX14_liveAt_2 : decode cX14_liveAt 2 = .ok (.invokevirtual 1234, 3) := by decide +kernel
theorem dX14_liveAt_5 : decode cX14_liveAt 5 = .ok (.istore_n 2, 1) := by decide +kernel
theorem dX14_liveAt_6 : decode cX14_liveAt 6 = .ok (.aload_n 0, 1) := by decide +kernel
theorem dX14_liveAt_7 : decode cX14_liveAt 7 = .ok (.getfield 240, 3) := by decide +kernel
theorem dX14_liveAt_10 : decode cX14_liveAt 10 = .ok (.iload_n 1, 1) := by decide +kernel
theorem dX14_liveAt_11 : decode cX14_liveAt 11 = .ok (.iaload, 1) := by decide +kernel
theorem dX14_liveAt_12 : decode cX14_liveAt 12 = .ok (.invokestatic 1237, 3) := by decide +kernel
theorem dX14_liveAt_15 : decode cX14_liveAt 15 = .ok (.ifCond .eq 23, 3) := by decide +kernel
theorem dX14_liveAt_18 : decode cX14_liveAt 18 = .ok (.iload_n 2, 1) := by decide +kernel
theorem dX14_liveAt_19 : decode cX14_liveAt 19 = .ok (.aload_n 0, 1) := by decide +kernel
theorem dX14_liveAt_20 : decode cX14_liveAt 20 = .ok (.getfield 240, 3) := by decide +kernel
theorem dX14_liveAt_23 : decode cX14_liveAt 23 = .ok (.iload_n 1, 1) := by decide +kernel
theorem dX14_liveAt_24 : decode cX14_liveAt 24 = .ok (.iaload, 1) := by decide +kernel
theorem dX14_liveAt_25 : decode cX14_liveAt 25 = .ok (.aload_n 0, 1) := by decide +kernel
theorem dX14_liveAt_26 : decode cX14_liveAt 26 = .ok (.getfield 243, 3) := by decide +kernel
theorem dX14_liveAt_29 : decode cX14_liveAt 29 = .ok (.iload_n 1, 1) := by decide +kernel
theorem dX14_liveAt_30 : decode cX14_liveAt 30 = .ok (.iaload, 1) := by decide +kernel
theorem dX14_liveAt_31 : decode cX14_liveAt 31 = .ok (.invokestatic 1240, 3) := by decide +kernel
theorem dX14_liveAt_34 : decode cX14_liveAt 34 = .ok (.iconst (-1), 1) := by decide +kernel
theorem dX14_liveAt_35 : decode cX14_liveAt 35 = .ok (.ixor, 1) := by decide +kernel
theorem dX14_liveAt_36 : decode cX14_liveAt 36 = .ok (.iand, 1) := by decide +kernel
theorem dX14_liveAt_37 : decode cX14_liveAt 37 = .ok (.istore_n 2, 1) := by decide +kernel
theorem dX14_liveAt_38 : decode cX14_liveAt 38 = .ok (.aload_n 0, 1) := by decide +kernel
theorem dX14_liveAt_39 : decode cX14_liveAt 39 = .ok (.getfield 240, 3) := by decide +kernel
theorem dX14_liveAt_42 : decode cX14_liveAt 42 = .ok (.iload_n 1, 1) := by decide +kernel
theorem dX14_liveAt_43 : decode cX14_liveAt 43 = .ok (.iaload, 1) := by decide +kernel
theorem dX14_liveAt_44 : decode cX14_liveAt 44 = .ok (.invokestatic 1243, 3) := by decide +kernel
theorem dX14_liveAt_47 : decode cX14_liveAt 47 = .ok (.ifCond .ne 15, 3) := by decide +kernel
theorem dX14_liveAt_50 : decode cX14_liveAt 50 = .ok (.aload_n 0, 1) := by decide +kernel
theorem dX14_liveAt_51 : decode cX14_liveAt 51 = .ok (.getfield 240, 3) := by decide +kernel
theorem dX14_liveAt_54 : decode cX14_liveAt 54 = .ok (.iload_n 1, 1) := by decide +kernel
theorem dX14_liveAt_55 : decode cX14_liveAt 55 = .ok (.iaload, 1) := by decide +kernel
theorem dX14_liveAt_56 : decode cX14_liveAt 56 = .ok (.sipush 132, 3) := by decide +kernel
theorem dX14_liveAt_59 : decode cX14_liveAt 59 = .ok (.if_icmp .ne 21, 3) := by decide +kernel
theorem dX14_liveAt_62 : decode cX14_liveAt 62 = .ok (.iload_n 2, 1) := by decide +kernel
theorem dX14_liveAt_63 : decode cX14_liveAt 63 = .ok (.aload_n 0, 1) := by decide +kernel
theorem dX14_liveAt_64 : decode cX14_liveAt 64 = .ok (.getfield 240, 3) := by decide +kernel
theorem dX14_liveAt_67 : decode cX14_liveAt 67 = .ok (.iload_n 1, 1) := by decide +kernel
theorem dX14_liveAt_68 : decode cX14_liveAt 68 = .ok (.iaload, 1) := by decide +kernel
theorem dX14_liveAt_69 : decode cX14_liveAt 69 = .ok (.aload_n 0, 1) := by decide +kernel
theorem dX14_liveAt_70 : decode cX14_liveAt 70 = .ok (.getfield 243, 3) := by decide +kernel
theorem dX14_liveAt_73 : decode cX14_liveAt 73 = .ok (.iload_n 1, 1) := by decide +kernel
theorem dX14_liveAt_74 : decode cX14_liveAt 74 = .ok (.iaload, 1) := by decide +kernel
theorem dX14_liveAt_75 : decode cX14_liveAt 75 = .ok (.invokestatic 1240, 3) := by decide +kernel
theorem dX14_liveAt_78 : decode cX14_liveAt 78 = .ok (.ior, 1) := by decide +kernel
theorem dX14_liveAt_79 : decode cX14_liveAt 79 = .ok (.istore_n 2, 1) := by decide +kernel
theorem dX14_liveAt_80 : decode cX14_liveAt 80 = .ok (.iconst 0, 1) := by decide +kernel
theorem dX14_liveAt_81 : decode cX14_liveAt 81 = .ok (.istore_n 3, 1) := by decide +kernel
theorem dX14_liveAt_82 : decode cX14_liveAt 82 = .ok (.iload_n 3, 1) := by decide +kernel
theorem dX14_liveAt_83 : decode cX14_liveAt 83 = .ok (.aload_n 0, 1) := by decide +kernel
theorem dX14_liveAt_84 : decode cX14_liveAt 84 = .ok (.getfield 1136, 3) := by decide +kernel
theorem dX14_liveAt_87 : decode cX14_liveAt 87 = .ok (.if_icmp .ge 36, 3) := by decide +kernel
theorem dX14_liveAt_90 : decode cX14_liveAt 90 = .ok (.aload_n 0, 1) := by decide +kernel
theorem dX14_liveAt_91 : decode cX14_liveAt 91 = .ok (.iload_n 1, 1) := by decide +kernel
theorem dX14_liveAt_92 : decode cX14_liveAt 92 = .ok (.iload_n 3, 1) := by decide +kernel
theorem dX14_liveAt_93 : decode cX14_liveAt 93 = .ok (.invokevirtual 1196, 3) := by decide +kernel
theorem dX14_liveAt_96 : decode cX14_liveAt 96 = .ok (.ifCond .eq 21, 3) := by decide +kernel
theorem dX14_liveAt_99 : decode cX14_liveAt 99 = .ok (.iload_n 2, 1) := by decide +kernel
theorem dX14_liveAt_100 : decode cX14_liveAt 100 = .ok (.aload_n 0, 1) := by decide +kernel
theorem dX14_liveAt_101 : decode cX14_liveAt 101 = .ok (.getfield 276, 3) := by decide +kernel
theorem dX14_liveAt_104 : decode cX14_liveAt 104 = .ok (.aload_n 0, 1) := by decide +kernel
theorem dX14_liveAt_105 : decode cX14_liveAt 105 = .ok (.aload_n 0, 1) := by decide +kernel
theorem dX14_liveAt_106 : decode cX14_liveAt 106 = .ok (.getfield 258, 3) := by decide +kernel
theorem dX14_liveAt_109 : decode cX14_liveAt 109 = .ok (.iload_n 3, 1) := by decide +kernel
theorem dX14_liveAt_110 : decode cX14_liveAt 110 = .ok (.iaload, 1) := by decide +kernel
theorem dX14_liveAt_111 : decode cX14_liveAt 111 = .ok (.invokevirtual 1133, 3) := by decide +kernel
theorem dX14_liveAt_114 : decode cX14_liveAt 114 = .ok (.iaload, 1) := by decide +kernel
theorem dX14_liveAt_115 : decode cX14_liveAt 115 = .ok (.ior, 1) := by decide +kernel
theorem dX14_liveAt_116 : decode cX14_liveAt 116 = .ok (.istore_n 2, 1) := by decide +kernel
theorem dX14_liveAt_117 : decode cX14_liveAt 117 = .ok (.iinc 3 1, 3) := by decide +kernel
theorem dX14_liveAt_120 : decode cX14_liveAt 120 = .ok (.goto (-38), 3) := by decide +kernel
theorem dX14_liveAt_123 : decode cX14_liveAt 123 = .ok (.iload_n 2, 1) := by decide +kernel
theorem dX14_liveAt_124 : decode cX14_liveAt 124 = .ok (.ireturn, 1) := by decide +kernel
theorem dX14_liveBehind_0 : decode cX14_liveBehind 0 = .ok (.aload_n 0, 1) := by decide +kernel
theorem dX14_liveBehind_1 : decode cX14_liveBehind 1 = .ok (.getfield 240, 3) := by decide +kernel
theorem dX14_liveBehind_4 : decode cX14_liveBehind 4 = .ok (.iload_n 1, 1) := by decide +kernel
theorem dX14_liveBehind_5 : decode cX14_liveBehind 5 = .ok (.iaload, 1) := by decide +kernel
theorem dX14_liveBehind_6 : decode cX14_liveBehind 6 = .ok (.invokestatic 756, 3) := by decide +kernel
theorem dX14_liveBehind_9 : decode cX14_liveBehind 9 = .ok (.ifCond .eq 28, 3) := by decide +kernel
theorem dX14_liveBehind_12 : decode cX14_liveBehind 12 = .ok (.aload_n 0, 1) := by decide +kernel
theorem dX14_liveBehind_13 : decode cX14_liveBehind 13 = .ok (.iload_n 1, 1) := by decide +kernel
theorem dX14_liveBehind_14 : decode cX14_liveBehind 14 = .ok (.invokevirtual 1161, 3) := by decide +kernel
theorem dX14_liveBehind_17 : decode cX14_liveBehind 17 = .ok (.aload_n 0, 1) := by decide +kernel
theorem dX14_liveBehind_18 : decode cX14_liveBehind 18 = .ok (.getfield 1130, 3) := by decide +kernel
theorem dX14_liveBehind_21 : decode cX14_liveBehind 21 = .ok (.if_icmp .ge 16, 3) := by decide +kernel
theorem dX14_liveBehind_24 : decode cX14_liveBehind 24 = .ok (.aload_n 0, 1) := by decide +kernel
theorem dX14_liveBehind_25 : decode cX14_liveBehind 25 = .ok (.getfield 276, 3) := by decide +kernel
theorem dX14_liveBehind_28 : decode cX14_liveBehind 28 = .ok (.aload_n 0, 1) := by decide +kernel
theorem dX14_liveBehind_29 : decode cX14_liveBehind 29 = .ok (.iload_n 1, 1) := by decide +kernel
theorem dX14_liveBehind_30 : decode cX14_liveBehind 30 = .ok (.invokevirtual 1161, 3) := by decide +kernel
theorem dX14_liveBehind_33 : decode cX14_liveBehind 33 = .ok (.iaload, 1) := by decide +kernel
theorem dX14_liveBehind_34 : decode cX14_liveBehind 34 = .ok (.goto 4, 3) := by decide +kernel
theorem dX14_liveBehind_37 : decode cX14_liveBehind 37 = .ok (.iconst 0, 1) := by decide +kernel
theorem dX14_liveBehind_38 : decode cX14_liveBehind 38 = .ok (.istore_n 2, 1) := by decide +kernel
theorem dX14_liveBehind_39 : decode cX14_liveBehind 39 = .ok (.iconst 0, 1) := by decide +kernel
theorem dX14_liveBehind_40 : decode cX14_liveBehind 40 = .ok (.istore_n 3, 1) := by decide +kernel
theorem dX14_liveBehind_41 : decode cX14_liveBehind 41 = .ok (.iload_n 3, 1) := by decide +kernel
theorem dX14_liveBehind_42 : decode cX14_liveBehind 42 = .ok (.aload_n 0, 1) := by decide +kernel
theorem dX14_liveBehind_43 : decode cX14_liveBehind 43 = .ok (.iload_n 1, 1) := by decide +kernel
theorem dX14_liveBehind_44 : decode cX14_liveBehind 44 = .ok (.invokevirtual 1139, 3) := by decide +kernel
theorem dX14_liveBehind_47 : decode cX14_liveBehind 47 = .ok (.if_icmp .ge 23, 3) := by decide +kernel
theorem dX14_liveBehind_50 : decode cX14_liveBehind 50 = .ok (.iload_n 2, 1) := by decide +kernel
theorem dX14_liveBehind_51 : decode cX14_liveBehind 51 = .ok (.aload_n 0, 1) := by decide +kernel
theorem dX14_liveBehind_52 : decode cX14_liveBehind 52 = .ok (.getfield 276, 3) := by decide +kernel
theorem dX14_liveBehind_55 : decode cX14_liveBehind 55 = .ok (.aload_n 0, 1) := by decide +kernel
theorem dX14_liveBehind_56 : decode cX14_liveBehind 56 = .ok (.iload_n 1, 1) := by decide +kernel
theorem dX14_liveBehind_57 : decode cX14_liveBehind 57 = .ok (.iload_n 3, 1) := by decide +kernel
theorem dX14_liveBehind_58 : decode cX14_liveBehind 58 = .ok (.invokevirtual 1142, 3) := by decide +kernel
theorem dX14_liveBehind_61 : decode cX14_liveBehind 61 = .ok (.iaload, 1) := by decide +kernel
theorem dX14_liveBehind_62 : decode cX14_liveBehind 62 = .ok (.ior, 1) := by decide +kernel
theorem dX14_liveBehind_63 : decode cX14_liveBehind 63 = .ok (.istore_n 2, 1) := by decide +kernel
theorem dX14_liveBehind_64 : decode cX14_liveBehind 64 = .ok (.iinc 3 1, 3) := by decide +kernel
theorem dX14_liveBehind_67 : decode cX14_liveBehind 67 = .ok (.goto (-26), 3) := by decide +kernel
theorem dX14_liveBehind_70 : decode cX14_liveBehind 70 = .ok (.iload_n 2, 1) := by decide +kernel
theorem dX14_liveBehind_71 : decode cX14_liveBehind 71 = .ok (.ireturn, 1) := by decide +kernel
theorem dX14_local_0 : decode cX14_local 0 = .ok (.aload_n 0, 1) := by decide +kernel
theorem dX14_local_1 : decode cX14_local 1 = .ok (.iload_n 1, 1) := by decide +kernel
theorem dX14_local_2 : decode cX14_local 2 = .ok (.iload_n 2, 1) := by decide +kernel
theorem dX14_local_3 : decode cX14_local 3 = .ok (.iload_n 3, 1) := by decide +kernel
theorem dX14_local_4 : decode cX14_local 4 = .ok (.invokevirtual 863, 3) := by decide +kernel
theorem dX14_local_7 : decode cX14_local 7 = .ok (.istore 5, 2) := by decide +kernel
theorem dX14_local_9 : decode cX14_local 9 = .ok (.iload 5, 2) := by decide +kernel
theorem dX14_local_11 : decode cX14_local 11 = .ok (.ifCond .lt 30, 3) := by decide +kernel
theorem dX14_local_14 : decode cX14_local 14 = .ok (.aload_n 0, 1) := by decide +kernel
theorem dX14_local_15 : decode cX14_local 15 = .ok (.getfield 11, 3) := by decide +kernel
theorem dX14_local_18 : decode cX14_local 18 = .ok (.iload_n 1, 1) := by decide +kernel
theorem dX14_local_19 : decode cX14_local 19 = .ok (.aaload, 1) := by decide +kernel
theorem dX14_local_20 : decode cX14_local 20 = .ok (.getfield 857, 3) := by decide +kernel
theorem dX14_local_23 : decode cX14_local 23 = .ok (.iload 5, 2) := by decide +kernel
theorem dX14_local_25 : decode cX14_local 25 = .ok (.iaload, 1) := by decide +kernel
theorem dX14_local_26 : decode cX14_local 26 = .ok (.ifCond .lt 15, 3) := by decide +kernel
theorem dX14_local_29 : decode cX14_local 29 = .ok (.iload 4, 2) := by decide +kernel
theorem dX14_local_31 : decode cX14_local 31 = .ok (.ifCond .lt 10, 3) := by decide +kernel
theorem dX14_local_34 : decode cX14_local 34 = .ok (.iload 4, 2) := by decide +kernel
theorem dX14_local_36 : decode cX14_local 36 = .ok (.bipush 24, 2) := by decide +kernel
theorem dX14_local_38 : decode cX14_local 38 = .ok (.if_icmp .lt 5, 3) := by decide +kernel
theorem dX14_local_41 : decode cX14_local 41 = .ok (.iconst (-1), 1) := by decide +kernel
theorem dX14_local_42 : decode cX14_local 42 = .ok (.ireturn, 1) := by decide +kernel
theorem dX14_local_43 : decode cX14_local 43 = .ok (.aload_n 0, 1) := by decide +kernel
theorem dX14_local_44 : decode cX14_local 44 = .ok (.getfield 11, 3) := by decide +kernel
theorem dX14_local_47 : decode cX14_local 47 = .ok (.iload_n 1, 1) := by decide +kernel
theorem dX14_local_48 : decode cX14_local 48 = .ok (.aaload, 1) := by decide +kernel
theorem dX14_local_49 : decode cX14_local 49 = .ok (.getfield 857, 3) := by decide +kernel
theorem dX14_local_52 : decode cX14_local 52 = .ok (.iload 5, 2) := by decide +kernel
theorem dX14_local_54 : decode cX14_local 54 = .ok (.iconst 1, 1) := by decide +kernel
theorem dX14_local_55 : decode cX14_local 55 = .ok (.iadd, 1) := by decide +kernel
theorem dX14_local_56 : decode cX14_local 56 = .ok (.iload 4, 2) := by decide +kernel
theorem dX14_local_58 : decode cX14_local 58 = .ok (.bipush 8, 2) := by decide +kernel
theorem dX14_local_60 : decode cX14_local 60 = .ok (.idiv, 1) := by decide +kernel
theorem dX14_local_61 : decode cX14_local 61 = .ok (.iadd, 1) := by decide +kernel
theorem dX14_local_62 : decode cX14_local 62 = .ok (.iaload, 1) := by decide +kernel
theorem dX14_local_63 : decode cX14_local 63 = .ok (.iconst 4, 1) := by decide +kernel
theorem dX14_local_64 : decode cX14_local 64 = .ok (.iload 4, 2) := by decide +kernel
theorem dX14_local_66 : decode cX14_local 66 = .ok (.bipush 8, 2) := by decide +kernel
theorem dX14_local_68 : decode cX14_local 68 = .ok (.irem, 1) := by decide +kernel
theorem dX14_local_69 : decode cX14_local 69 = .ok (.imul, 1) := by decide +kernel
theorem dX14_local_70 : decode cX14_local 70 = .ok (.ishr, 1) := by decide +kernel
theorem dX14_local_71 : decode cX14_local 71 = .ok (.bipush 15, 2) := by decide +kernel
theorem dX14_local_73 : decode cX14_local 73 = .ok (.iand, 1) := by decide +kernel
theorem dX14_local_74 : decode cX14_local 74 = .ok (.ireturn, 1) := by decide +kernel
theorem dX14_localRow_0 : decode cX14_localRow 0 = .ok (.iload_n 2, 1) := by decide +kernel
theorem dX14_localRow_1 : decode cX14_localRow 1 = .ok (.bipush 22, 2) := by decide +kernel
theorem dX14_localRow_3 : decode cX14_localRow 3 = .ok (.if_icmp .eq 9, 3) := by decide +kernel
theorem dX14_localRow_6 : decode cX14_localRow 6 = .ok (.iload_n 2, 1) := by decide +kernel
theorem dX14_localRow_7 : decode cX14_localRow 7 = .ok (.bipush 55, 2) := by decide +kernel
theorem dX14_localRow_9 : decode cX14_localRow 9 = .ok (.if_icmp .ne 7, 3) := by decide +kernel
theorem dX14_localRow_12 : decode cX14_localRow 12 = .ok (.iconst 2, 1) := by decide +kernel
theorem dX14_localRow_13 : decode cX14_localRow 13 = .ok (.goto 4, 3) := by decide +kernel
theorem dX14_localRow_16 : decode cX14_localRow 16 = .ok (.iconst 1, 1) := by decide +kernel
theorem dX14_localRow_17 : decode cX14_localRow 17 = .ok (.istore 4, 2) := by decide +kernel
theorem dX14_localRow_19 : decode cX14_localRow 19 = .ok (.aload_n 0, 1) := by decide +kernel
theorem dX14_localRow_20 : decode cX14_localRow 20 = .ok (.iload_n 3, 1) := by decide +kernel
theorem dX14_localRow_21 : decode cX14_localRow 21 = .ok (.iload 4, 2) := by decide +kernel
theorem dX14_localRow_23 : decode cX14_localRow 23 = .ok (.iadd, 1) := by decide +kernel
theorem dX14_localRow_24 : decode cX14_localRow 24 = .ok (.aload_n 0, 1) := by decide +kernel
theorem dX14_localRow_25 : decode cX14_localRow 25 = .ok (.getfield 469, 3) := by decide +kernel
theorem dX14_localRow_28 : decode cX14_localRow 28 = .ok (.if_icmp .gt 7, 3) := by decide +kernel
theorem dX14_localRow_31 : decode cX14_localRow 31 = .ok (.iconst 1, 1) := by decide +kernel
theorem dX14_localRow_32 : decode cX14_localRow 32 = .ok (.goto 4, 3) := by decide +kernel
theorem dX14_localRow_35 : decode cX14_localRow 35 = .ok (.iconst 0, 1) := by decide +kernel
theorem dX14_localRow_36 : decode cX14_localRow 36 = .ok (.iload_n 1, 1) := by decide +kernel
theorem dX14_localRow_37 : decode cX14_localRow 37 = .ok (.invokevirtual 465, 3) := by decide +kernel
theorem dX14_localRow_40 : decode cX14_localRow 40 = .ok (.aload_n 0, 1) := by decide +kernel
theorem dX14_localRow_41 : decode cX14_localRow 41 = .ok (.iload_n 2, 1) := by decide +kernel
theorem dX14_localRow_42 : decode cX14_localRow 42 = .ok (.iload_n 3, 1) := by decide +kernel
theorem dX14_localRow_43 : decode cX14_localRow 43 = .ok (.iconst 0, 1) := by decide +kernel
theorem dX14_localRow_44 : decode cX14_localRow 44 = .ok (.invokevirtual 472, 3) := by decide +kernel
theorem dX14_localRow_47 : decode cX14_localRow 47 = .ok (.return_, 1) := by decide +kernel
theorem dX14_longOf_0 : decode cX14_longOf 0 = .ok (.aload_n 0, 1) := by decide +kernel
theorem dX14_longOf_1 : decode cX14_longOf 1 = .ok (.iload_n 1, 1) := by decide +kernel
theorem dX14_longOf_2 : decode cX14_longOf 2 = .ok (.invokevirtual 697, 3) := by decide +kernel
theorem dX14_longOf_5 : decode cX14_longOf 5 = .ok (.i2l, 1) := by decide +kernel
theorem dX14_longOf_6 : decode cX14_longOf 6 = .ok (.bipush 32, 2) := by decide +kernel
theorem dX14_longOf_8 : decode cX14_longOf 8 = .ok (.lshl, 1) := by decide +kernel
theorem dX14_longOf_9 : decode cX14_longOf 9 = .ok (.aload_n 0, 1) := by decide +kernel
theorem dX14_longOf_10 : decode cX14_longOf 10 = .ok (.iload_n 1, 1) := by decide +kernel
theorem dX14_longOf_11 : decode cX14_longOf 11 = .ok (.invokevirtual 694, 3) := by decide +kernel
theorem dX14_longOf_14 : decode cX14_longOf 14 = .ok (.i2l, 1) := by decide +kernel
theorem dX14_longOf_15 : decode cX14_longOf 15 = .ok (.ldc2_w 378, 3) := by decide +kernel
theorem dX14_longOf_18 : decode cX14_longOf 18 = .ok (.land, 1) := by decide +kernel
theorem dX14_longOf_19 : decode cX14_longOf 19 = .ok (.lor, 1) := by decide +kernel
theorem dX14_longOf_20 : decode cX14_longOf 20 = .ok (.lreturn, 1) := by decide +kernel
theorem dX14_longWork_0 : decode cX14_longWork 0 = .ok (.lload_n 3, 1) := by decide +kernel
theorem dX14_longWork_1 : decode cX14_longWork 1 = .ok (.l2i, 1) := by decide +kernel
theorem dX14_longWork_2 : decode cX14_longWork 2 = .ok (.bipush 63, 2) := by decide +kernel
theorem dX14_longWork_4 : decode cX14_longWork 4 = .ok (.iand, 1) := by decide +kernel
theorem dX14_longWork_5 : decode cX14_longWork 5 = .ok (.istore 5, 2) := by decide +kernel
theorem dX14_longWork_7 : decode cX14_longWork 7 = .ok (.iload_n 0, 1) := by decide +kernel
theorem dX14_longWork_8 : decode cX14_longWork 8 = .ok (.tableswitch 216 97 129 #[148, 216, 216, 216, 152, 216, 216, 216, 156, 216, 216, 216, 160, 216, 216, 216, 177, 216, 216, 216, 216, 216, 216, 216, 193, 216, 198, 216, 203, 216, 208, 216, 212], 148) := by decide +kernel
theorem dX14_longWork_156 : decode cX14_longWork 156 = .ok (.lload_n 1, 1) := by decide +kernel
theorem dX14_longWork_157 : decode cX14_longWork 157 = .ok (.lload_n 3, 1) := by decide +kernel
theorem dX14_longWork_158 : decode cX14_longWork 158 = .ok (.ladd, 1) := by decide +kernel
theorem dX14_longWork_159 : decode cX14_longWork 159 = .ok (.lreturn, 1) := by decide +kernel
theorem dX14_longWork_160 : decode cX14_longWork 160 = .ok (.lload_n 1, 1) := by decide +kernel
theorem dX14_longWork_161 : decode cX14_longWork 161 = .ok (.lload_n 3, 1) := by decide +kernel
theorem dX14_longWork_162 : decode cX14_longWork 162 = .ok (.lsub, 1) := by decide +kernel
theorem dX14_longWork_163 : decode cX14_longWork 163 = .ok (.lreturn, 1) := by decide +kernel
theorem dX14_longWork_164 : decode cX14_longWork 164 = .ok (.lload_n 1, 1) := by decide +kernel
theorem dX14_longWork_165 : decode cX14_longWork 165 = .ok (.lload_n 3, 1) := by decide +kernel
theorem dX14_longWork_166 : decode cX14_longWork 166 = .ok (.lmul, 1) := by decide +kernel
theorem dX14_longWork_167 : decode cX14_longWork 167 = .ok (.lreturn, 1) := by decide +kernel
theorem dX14_longWork_168 : decode cX14_longWork 168 = .ok (.lload_n 3, 1) := by decide +kernel
theorem dX14_longWork_169 : decode cX14_longWork 169 = .ok (.ldc2_w 1069, 3) := by decide +kernel
theorem dX14_longWork_172 : decode cX14_longWork 172 = .ok (.lcmp, 1) := by decide +kernel
theorem dX14_longWork_173 : decode cX14_longWork 173 = .ok (.ifCond .ne 8, 3) := by decide +kernel
theorem dX14_longWork_176 : decode cX14_longWork 176 = .ok (.lload_n 1, 1) := by decide +kernel
theorem dX14_longWork_177 : decode cX14_longWork 177 = .ok (.lneg, 1) := by decide +kernel
theorem dX14_longWork_178 : decode cX14_longWork 178 = .ok (.goto 6, 3) := by decide +kernel
theorem dX14_longWork_181 : decode cX14_longWork 181 = .ok (.lload_n 1, 1) := by decide +kernel
theorem dX14_longWork_182 : decode cX14_longWork 182 = .ok (.lload_n 3, 1) := by decide +kernel
theorem dX14_longWork_183 : decode cX14_longWork 183 = .ok (.ldiv, 1) := by decide +kernel
theorem dX14_longWork_184 : decode cX14_longWork 184 = .ok (.lreturn, 1) := by decide +kernel
theorem dX14_longWork_185 : decode cX14_longWork 185 = .ok (.lload_n 3, 1) := by decide +kernel
theorem dX14_longWork_186 : decode cX14_longWork 186 = .ok (.ldc2_w 1069, 3) := by decide +kernel
theorem dX14_longWork_189 : decode cX14_longWork 189 = .ok (.lcmp, 1) := by decide +kernel
theorem dX14_longWork_190 : decode cX14_longWork 190 = .ok (.ifCond .ne 7, 3) := by decide +kernel
theorem dX14_longWork_193 : decode cX14_longWork 193 = .ok (.lconst 0, 1) := by decide +kernel
theorem dX14_longWork_194 : decode cX14_longWork 194 = .ok (.goto 6, 3) := by decide +kernel
theorem dX14_longWork_197 : decode cX14_longWork 197 = .ok (.lload_n 1, 1) := by decide +kernel
theorem dX14_longWork_198 : decode cX14_longWork 198 = .ok (.lload_n 3, 1) := by decide +kernel
theorem dX14_longWork_199 : decode cX14_longWork 199 = .ok (.lrem, 1) := by decide +kernel
theorem dX14_longWork_200 : decode cX14_longWork 200 = .ok (.lreturn, 1) := by decide +kernel
theorem dX14_longWork_201 : decode cX14_longWork 201 = .ok (.lload_n 1, 1) := by decide +kernel
theorem dX14_longWork_202 : decode cX14_longWork 202 = .ok (.iload 5, 2) := by decide +kernel
theorem dX14_longWork_204 : decode cX14_longWork 204 = .ok (.lshl, 1) := by decide +kernel
theorem dX14_longWork_205 : decode cX14_longWork 205 = .ok (.lreturn, 1) := by decide +kernel
theorem dX14_longWork_206 : decode cX14_longWork 206 = .ok (.lload_n 1, 1) := by decide +kernel
theorem dX14_longWork_207 : decode cX14_longWork 207 = .ok (.iload 5, 2) := by decide +kernel
theorem dX14_longWork_209 : decode cX14_longWork 209 = .ok (.lshr, 1) := by decide +kernel
theorem dX14_longWork_210 : decode cX14_longWork 210 = .ok (.lreturn, 1) := by decide +kernel
theorem dX14_longWork_211 : decode cX14_longWork 211 = .ok (.lload_n 1, 1) := by decide +kernel
theorem dX14_longWork_212 : decode cX14_longWork 212 = .ok (.iload 5, 2) := by decide +kernel
theorem dX14_longWork_214 : decode cX14_longWork 214 = .ok (.lushr, 1) := by decide +kernel
theorem dX14_longWork_215 : decode cX14_longWork 215 = .ok (.lreturn, 1) := by decide +kernel
theorem dX14_longWork_216 : decode cX14_longWork 216 = .ok (.lload_n 1, 1) := by decide +kernel
theorem dX14_longWork_217 : decode cX14_longWork 217 = .ok (.lload_n 3, 1) := by decide +kernel
theorem dX14_longWork_218 : decode cX14_longWork 218 = .ok (.land, 1) := by decide +kernel
theorem dX14_longWork_219 : decode cX14_longWork 219 = .ok (.lreturn, 1) := by decide +kernel
theorem dX14_longWork_220 : decode cX14_longWork 220 = .ok (.lload_n 1, 1) := by decide +kernel
theorem dX14_longWork_221 : decode cX14_longWork 221 = .ok (.lload_n 3, 1) := by decide +kernel
theorem dX14_longWork_222 : decode cX14_longWork 222 = .ok (.lor, 1) := by decide +kernel
theorem dX14_longWork_223 : decode cX14_longWork 223 = .ok (.lreturn, 1) := by decide +kernel
theorem dX14_longWork_224 : decode cX14_longWork 224 = .ok (.lload_n 1, 1) := by decide +kernel
theorem dX14_longWork_225 : decode cX14_longWork 225 = .ok (.lload_n 3, 1) := by decide +kernel
theorem dX14_longWork_226 : decode cX14_longWork 226 = .ok (.lxor, 1) := by decide +kernel
theorem dX14_longWork_227 : decode cX14_longWork 227 = .ok (.lreturn, 1) := by decide +kernel
theorem dX14_look_0 : decode cX14_look 0 = .ok (.aload_n 0, 1) := by decide +kernel
theorem dX14_look_1 : decode cX14_look 1 = .ok (.aload_n 1, 1) := by decide +kernel
theorem dX14_look_2 : decode cX14_look 2 = .ok (.putfield 665, 3) := by decide +kernel
theorem dX14_look_5 : decode cX14_look 5 = .ok (.aload_n 0, 1) := by decide +kernel
theorem dX14_look_6 : decode cX14_look 6 = .ok (.aload_n 1, 1) := by decide +kernel
theorem dX14_look_7 : decode cX14_look 7 = .ok (.getfield 638, 3) := by decide +kernel
theorem dX14_look_10 : decode cX14_look 10 = .ok (.putfield 667, 3) := by decide +kernel
theorem dX14_look_13 : decode cX14_look 13 = .ok (.aload_n 0, 1) := by decide +kernel
theorem dX14_look_14 : decode cX14_look 14 = .ok (.aload_n 1, 1) := by decide +kernel
theorem dX14_look_15 : decode cX14_look 15 = .ok (.getfield 641, 3) := by decide +kernel
theorem dX14_look_18 : decode cX14_look 18 = .ok (.putfield 668, 3) := by decide +kernel
theorem dX14_look_21 : decode cX14_look 21 = .ok (.aload_n 0, 1) := by decide +kernel
theorem dX14_look_22 : decode cX14_look 22 = .ok (.aload_n 1, 1) := by decide +kernel
theorem dX14_look_23 : decode cX14_look 23 = .ok (.getfield 644, 3) := by decide +kernel
theorem dX14_look_26 : decode cX14_look 26 = .ok (.putfield 669, 3) := by decide +kernel
theorem dX14_look_29 : decode cX14_look 29 = .ok (.aload_n 0, 1) := by decide +kernel
theorem dX14_look_30 : decode cX14_look 30 = .ok (.aload_n 1, 1) := by decide +kernel
theorem dX14_look_31 : decode cX14_look 31 = .ok (.getfield 507, 3) := by decide +kernel
theorem dX14_look_34 : decode cX14_look 34 = .ok (.iload_n 2, 1) := by decide +kernel
theorem dX14_look_35 : decode cX14_look 35 = .ok (.iaload, 1) := by decide +kernel
theorem dX14_look_36 : decode cX14_look 36 = .ok (.putfield 670, 3) := by decide +kernel
theorem dX14_look_39 : decode cX14_look 39 = .ok (.aload_n 0, 1) := by decide +kernel
theorem dX14_look_40 : decode cX14_look 40 = .ok (.aload_n 1, 1) := by decide +kernel
theorem dX14_look_41 : decode cX14_look 41 = .ok (.getfield 510, 3) := by decide +kernel
theorem dX14_look_44 : decode cX14_look 44 = .ok (.iload_n 2, 1) := by decide +kernel
theorem dX14_look_45 : decode cX14_look 45 = .ok (.iaload, 1) := by decide +kernel
theorem dX14_look_46 : decode cX14_look 46 = .ok (.putfield 673, 3) := by decide +kernel
theorem dX14_look_49 : decode cX14_look 49 = .ok (.aload_n 0, 1) := by decide +kernel
theorem dX14_look_50 : decode cX14_look 50 = .ok (.aload_n 1, 1) := by decide +kernel
theorem dX14_look_51 : decode cX14_look 51 = .ok (.getfield 513, 3) := by decide +kernel
theorem dX14_look_54 : decode cX14_look 54 = .ok (.iload_n 2, 1) := by decide +kernel
theorem dX14_look_55 : decode cX14_look 55 = .ok (.iaload, 1) := by decide +kernel
theorem dX14_look_56 : decode cX14_look 56 = .ok (.putfield 676, 3) := by decide +kernel
theorem dX14_look_59 : decode cX14_look 59 = .ok (.aload_n 0, 1) := by decide +kernel
theorem dX14_look_60 : decode cX14_look 60 = .ok (.aload_n 1, 1) := by decide +kernel
theorem dX14_look_61 : decode cX14_look 61 = .ok (.getfield 519, 3) := by decide +kernel
theorem dX14_look_64 : decode cX14_look 64 = .ok (.iload_n 2, 1) := by decide +kernel
theorem dX14_look_65 : decode cX14_look 65 = .ok (.iaload, 1) := by decide +kernel
theorem dX14_look_66 : decode cX14_look 66 = .ok (.putfield 679, 3) := by decide +kernel
theorem dX14_look_69 : decode cX14_look 69 = .ok (.return_, 1) := by decide +kernel
theorem dX14_loop_0 : decode cX14_loop 0 = .ok (.iconst 0, 1) := by decide +kernel
theorem dX14_loop_1 : decode cX14_loop 1 = .ok (.istore_n 2, 1) := by decide +kernel
theorem dX14_loop_2 : decode cX14_loop 2 = .ok (.iconst 0, 1) := by decide +kernel
theorem dX14_loop_3 : decode cX14_loop 3 = .ok (.istore_n 3, 1) := by decide +kernel
theorem dX14_loop_4 : decode cX14_loop 4 = .ok (.iload_n 3, 1) := by decide +kernel
theorem dX14_loop_5 : decode cX14_loop 5 = .ok (.aload_n 0, 1) := by decide +kernel
theorem dX14_loop_6 : decode cX14_loop 6 = .ok (.getfield 1088, 3) := by decide +kernel
theorem dX14_loop_9 : decode cX14_loop 9 = .ok (.if_icmp .ge 98, 3) := by decide +kernel
theorem dX14_loop_12 : decode cX14_loop 12 = .ok (.aload_n 0, 1) := by decide +kernel
theorem dX14_loop_13 : decode cX14_loop 13 = .ok (.getfield 216, 3) := by decide +kernel
theorem dX14_loop_16 : decode cX14_loop 16 = .ok (.iload_n 3, 1) := by decide +kernel
theorem dX14_loop_17 : decode cX14_loop 17 = .ok (.iconst 0, 1) := by decide +kernel
theorem dX14_loop_18 : decode cX14_loop 18 = .ok (.bastore, 1) := by decide +kernel
theorem dX14_loop_19 : decode cX14_loop 19 = .ok (.aload_n 0, 1) := by decide +kernel
theorem dX14_loop_20 : decode cX14_loop 20 = .ok (.getfield 194, 3) := by decide +kernel
theorem dX14_loop_23 : decode cX14_loop 23 = .ok (.iload_n 3, 1) := by decide +kernel
theorem dX14_loop_24 : decode cX14_loop 24 = .ok (.iaload, 1) := by decide +kernel
theorem dX14_loop_25 : decode cX14_loop 25 = .ok (.istore 4, 2) := by decide +kernel
theorem dX14_loop_27 : decode cX14_loop 27 = .ok (.aload_n 0, 1) := by decide +kernel
theorem dX14_loop_28 : decode cX14_loop 28 = .ok (.getfield 200, 3) := by decide +kernel
theorem dX14_loop_31 : decode cX14_loop 31 = .ok (.iload_n 3, 1) := by decide +kernel
theorem dX14_loop_32 : decode cX14_loop 32 = .ok (.baload, 1) := by decide +kernel
theorem dX14_loop_33 : decode cX14_loop 33 = .ok (.ifCond .eq 49, 3) := by decide +kernel
theorem dX14_loop_36 : decode cX14_loop 36 = .ok (.iload 4, 2) := by decide +kernel
theorem dX14_loop_38 : decode cX14_loop 38 = .ok (.aload_n 0, 1) := by decide +kernel
theorem dX14_loop_39 : decode cX14_loop 39 = .ok (.getfield 194, 3) := by decide +kernel
theorem dX14_loop_42 : decode cX14_loop 42 = .ok (.iload_n 3, 1) := by decide +kernel
theorem dX14_loop_43 : decode cX14_loop 43 = .ok (.iconst 1, 1) := by decide +kernel
theorem dX14_loop_44 : decode cX14_loop 44 = .ok (.iadd, 1) := by decide +kernel
theorem dX14_loop_45 : decode cX14_loop 45 = .ok (.iaload, 1) := by decide +kernel
theorem dX14_loop_46 : decode cX14_loop 46 = .ok (.if_icmp .ge 36, 3) := by decide +kernel
theorem dX14_loop_49 : decode cX14_loop 49 = .ok (.aload_n 0, 1) := by decide +kernel
theorem dX14_loop_50 : decode cX14_loop 50 = .ok (.getfield 197, 3) := by decide +kernel
theorem dX14_loop_53 : decode cX14_loop 53 = .ok (.iload 4, 2) := by decide +kernel
theorem dX14_loop_55 : decode cX14_loop 55 = .ok (.iaload, 1) := by decide +kernel
theorem dX14_loop_56 : decode cX14_loop 56 = .ok (.iload_n 1, 1) := by decide +kernel
theorem dX14_loop_57 : decode cX14_loop 57 = .ok (.if_icmp .ne 19, 3) := by decide +kernel
theorem dX14_loop_60 : decode cX14_loop 60 = .ok (.aload_n 0, 1) := by decide +kernel
theorem dX14_loop_61 : decode cX14_loop 61 = .ok (.iload_n 1, 1) := by decide +kernel
theorem dX14_loop_62 : decode cX14_loop 62 = .ok (.iload_n 3, 1) := by decide +kernel
theorem dX14_loop_63 : decode cX14_loop 63 = .ok (.invokevirtual 1106, 3) := by decide +kernel
theorem dX14_loop_66 : decode cX14_loop 66 = .ok (.ifCond .eq 10, 3) := by decide +kernel
theorem dX14_loop_69 : decode cX14_loop 69 = .ok (.aload_n 0, 1) := by decide +kernel
theorem dX14_loop_70 : decode cX14_loop 70 = .ok (.getfield 216, 3) := by decide +kernel
theorem dX14_loop_73 : decode cX14_loop 73 = .ok (.iload_n 3, 1) := by decide +kernel
theorem dX14_loop_74 : decode cX14_loop 74 = .ok (.iconst 1, 1) := by decide +kernel
theorem dX14_loop_75 : decode cX14_loop 75 = .ok (.bastore, 1) := by decide +kernel
theorem dX14_loop_76 : decode cX14_loop 76 = .ok (.iinc 4 1, 3) := by decide +kernel
theorem dX14_loop_79 : decode cX14_loop 79 = .ok (.goto (-52), 3) := by decide +kernel
theorem dX14_loop_82 : decode cX14_loop 82 = .ok (.iload_n 2, 1) := by decide +kernel
theorem dX14_loop_83 : decode cX14_loop 83 = .ok (.ifCond .ne 12, 3) := by decide +kernel
theorem dX14_loop_86 : decode cX14_loop 86 = .ok (.aload_n 0, 1) := by decide +kernel
theorem dX14_loop_87 : decode cX14_loop 87 = .ok (.getfield 216, 3) := by decide +kernel
theorem dX14_loop_90 : decode cX14_loop 90 = .ok (.iload_n 3, 1) := by decide +kernel
theorem dX14_loop_91 : decode cX14_loop 91 = .ok (.baload, 1) := by decide +kernel
theorem dX14_loop_92 : decode cX14_loop 92 = .ok (.ifCond .eq 7, 3) := by decide +kernel
theorem dX14_loop_95 : decode cX14_loop 95 = .ok (.iconst 1, 1) := by decide +kernel
theorem dX14_loop_96 : decode cX14_loop 96 = .ok (.goto 4, 3) := by decide +kernel
theorem dX14_loop_99 : decode cX14_loop 99 = .ok (.iconst 0, 1) := by decide +kernel
theorem dX14_loop_100 : decode cX14_loop 100 = .ok (.istore_n 2, 1) := by decide +kernel
theorem dX14_loop_101 : decode cX14_loop 101 = .ok (.iinc 3 1, 3) := by decide +kernel
theorem dX14_loop_104 : decode cX14_loop 104 = .ok (.goto (-100), 3) := by decide +kernel
theorem dX14_loop_107 : decode cX14_loop 107 = .ok (.iload_n 2, 1) := by decide +kernel
theorem dX14_loop_108 : decode cX14_loop 108 = .ok (.ifCond .ne 4, 3) := by decide +kernel
theorem dX14_loop_111 : decode cX14_loop 111 = .ok (.return_, 1) := by decide +kernel
theorem dX14_loop_112 : decode cX14_loop 112 = .ok (.aload_n 0, 1) := by decide +kernel
theorem dX14_loop_113 : decode cX14_loop 113 = .ok (.getfield 210, 3) := by decide +kernel
theorem dX14_loop_116 : decode cX14_loop 116 = .ok (.iload_n 1, 1) := by decide +kernel
theorem dX14_loop_117 : decode cX14_loop 117 = .ok (.iconst 1, 1) := by decide +kernel
theorem dX14_loop_118 : decode cX14_loop 118 = .ok (.bastore, 1) := by decide +kernel
theorem dX14_loop_119 : decode cX14_loop 119 = .ok (.aload_n 0, 1) := by decide +kernel
theorem dX14_loop_120 : decode cX14_loop 120 = .ok (.getfield 216, 3) := by decide +kernel
theorem dX14_loop_123 : decode cX14_loop 123 = .ok (.iload_n 1, 1) := by decide +kernel
theorem dX14_loop_124 : decode cX14_loop 124 = .ok (.iconst 1, 1) := by decide +kernel
theorem dX14_loop_125 : decode cX14_loop 125 = .ok (.bastore, 1) := by decide +kernel
theorem dX14_loop_126 : decode cX14_loop 126 = .ok (.iconst 1, 1) := by decide +kernel
theorem dX14_loop_127 : decode cX14_loop 127 = .ok (.istore_n 3, 1) := by decide +kernel
theorem dX14_loop_128 : decode cX14_loop 128 = .ok (.iload_n 3, 1) := by decide +kernel
theorem dX14_loop_129 : decode cX14_loop 129 = .ok (.ifCond .eq 132, 3) := by decide +kernel
theorem dX14_loop_132 : decode cX14_loop 132 = .ok (.iconst 0, 1) := by decide +kernel
theorem dX14_loop_133 : decode cX14_loop 133 = .ok (.istore_n 3, 1) := by decide +kernel
theorem dX14_loop_134 : decode cX14_loop 134 = .ok (.iconst 0, 1) := by decide +kernel
theorem dX14_loop_135 : decode cX14_loop 135 = .ok (.istore 4, 2) := by decide +kernel
theorem dX14_loop_137 : decode cX14_loop 137 = .ok (.iload 4, 2) := by decide +kernel
theorem dX14_loop_139 : decode cX14_loop 139 = .ok (.aload_n 0, 1) := by decide +kernel
theorem dX14_loop_140 : decode cX14_loop 140 = .ok (.getfield 1088, 3) := by decide +kernel
theorem dX14_loop_143 : decode cX14_loop 143 = .ok (.if_icmp .ge 115, 3) := by decide +kernel
theorem dX14_loop_146 : decode cX14_loop 146 = .ok (.aload_n 0, 1) := by decide +kernel
theorem dX14_loop_147 : decode cX14_loop 147 = .ok (.getfield 216, 3) := by decide +kernel
theorem dX14_loop_150 : decode cX14_loop 150 = .ok (.iload 4, 2) := by decide +kernel
theorem dX14_loop_152 : decode cX14_loop 152 = .ok (.baload, 1) := by decide +kernel
theorem dX14_loop_153 : decode cX14_loop 153 = .ok (.ifCond .ne 99, 3) := by decide +kernel
theorem dX14_loop_156 : decode cX14_loop 156 = .ok (.aload_n 0, 1) := by decide +kernel
theorem dX14_loop_157 : decode cX14_loop 157 = .ok (.getfield 200, 3) := by decide +kernel
theorem dX14_loop_160 : decode cX14_loop 160 = .ok (.iload 4, 2) := by decide +kernel
theorem dX14_loop_162 : decode cX14_loop 162 = .ok (.baload, 1) := by decide +kernel
theorem dX14_loop_163 : decode cX14_loop 163 = .ok (.ifCond .ne 6, 3) := by decide +kernel
theorem dX14_loop_166 : decode cX14_loop 166 = .ok (.goto 86, 3) := by decide +kernel
theorem dX14_loop_169 : decode cX14_loop 169 = .ok (.aload_n 0, 1) := by decide +kernel
theorem dX14_loop_170 : decode cX14_loop 170 = .ok (.getfield 194, 3) := by decide +kernel
theorem dX14_loop_173 : decode cX14_loop 173 = .ok (.iload 4, 2) := by decide +kernel
theorem dX14_loop_175 : decode cX14_loop 175 = .ok (.iaload, 1) := by decide +kernel
theorem dX14_loop_176 : decode cX14_loop 176 = .ok (.istore 5, 2) := by decide +kernel
theorem dX14_loop_178 : decode cX14_loop 178 = .ok (.iload 5, 2) := by decide +kernel
theorem dX14_loop_180 : decode cX14_loop 180 = .ok (.aload_n 0, 1) := by decide +kernel
theorem dX14_loop_181 : decode cX14_loop 181 = .ok (.getfield 194, 3) := by decide +kernel
theorem dX14_loop_184 : decode cX14_loop 184 = .ok (.iload 4, 2) := by decide +kernel
theorem dX14_loop_186 : decode cX14_loop 186 = .ok (.iconst 1, 1) := by decide +kernel
theorem dX14_loop_187 : decode cX14_loop 187 = .ok (.iadd, 1) := by decide +kernel
theorem dX14_loop_188 : decode cX14_loop 188 = .ok (.iaload, 1) := by decide +kernel
theorem dX14_loop_189 : decode cX14_loop 189 = .ok (.if_icmp .ge 43, 3) := by decide +kernel
theorem dX14_loop_192 : decode cX14_loop 192 = .ok (.aload_n 0, 1) := by decide +kernel
theorem dX14_loop_193 : decode cX14_loop 193 = .ok (.getfield 216, 3) := by decide +kernel
theorem dX14_loop_196 : decode cX14_loop 196 = .ok (.aload_n 0, 1) := by decide +kernel
theorem dX14_loop_197 : decode cX14_loop 197 = .ok (.getfield 197, 3) := by decide +kernel
theorem dX14_loop_200 : decode cX14_loop 200 = .ok (.iload 5, 2) := by decide +kernel
theorem dX14_loop_202 : decode cX14_loop 202 = .ok (.iaload, 1) := by decide +kernel
theorem dX14_loop_203 : decode cX14_loop 203 = .ok (.baload, 1) := by decide +kernel
theorem dX14_loop_204 : decode cX14_loop 204 = .ok (.ifCond .eq 22, 3) := by decide +kernel
theorem dX14_loop_207 : decode cX14_loop 207 = .ok (.aload_n 0, 1) := by decide +kernel
theorem dX14_loop_208 : decode cX14_loop 208 = .ok (.getfield 197, 3) := by decide +kernel
theorem dX14_loop_211 : decode cX14_loop 211 = .ok (.iload 5, 2) := by decide +kernel
theorem dX14_loop_213 : decode cX14_loop 213 = .ok (.iaload, 1) := by decide +kernel
theorem dX14_loop_214 : decode cX14_loop 214 = .ok (.iload_n 1, 1) := by decide +kernel
theorem dX14_loop_215 : decode cX14_loop 215 = .ok (.if_icmp .eq 11, 3) := by decide +kernel
theorem dX14_loop_218 : decode cX14_loop 218 = .ok (.aload_n 0, 1) := by decide +kernel
theorem dX14_loop_219 : decode cX14_loop 219 = .ok (.getfield 216, 3) := by decide +kernel
theorem dX14_loop_222 : decode cX14_loop 222 = .ok (.iload 4, 2) := by decide +kernel
theorem dX14_loop_224 : decode cX14_loop 224 = .ok (.iconst 1, 1) := by decide +kernel
theorem dX14_loop_225 : decode cX14_loop 225 = .ok (.bastore, 1) := by decide +kernel
theorem dX14_loop_226 : decode cX14_loop 226 = .ok (.iinc 5 1, 3) := by decide +kernel
theorem dX14_loop_229 : decode cX14_loop 229 = .ok (.goto (-51), 3) := by decide +kernel
theorem dX14_loop_232 : decode cX14_loop 232 = .ok (.iload_n 3, 1) := by decide +kernel
theorem dX14_loop_233 : decode cX14_loop 233 = .ok (.ifCond .ne 13, 3) := by decide +kernel
theorem dX14_loop_236 : decode cX14_loop 236 = .ok (.aload_n 0, 1) := by decide +kernel
theorem dX14_loop_237 : decode cX14_loop 237 = .ok (.getfield 216, 3) := by decide +kernel
theorem dX14_loop_240 : decode cX14_loop 240 = .ok (.iload 4, 2) := by decide +kernel
theorem dX14_loop_242 : decode cX14_loop 242 = .ok (.baload, 1) := by decide +kernel
theorem dX14_loop_243 : decode cX14_loop 243 = .ok (.ifCond .eq 7, 3) := by decide +kernel
theorem dX14_loop_246 : decode cX14_loop 246 = .ok (.iconst 1, 1) := by decide +kernel
theorem dX14_loop_247 : decode cX14_loop 247 = .ok (.goto 4, 3) := by decide +kernel
theorem dX14_loop_250 : decode cX14_loop 250 = .ok (.iconst 0, 1) := by decide +kernel
theorem dX14_loop_251 : decode cX14_loop 251 = .ok (.istore_n 3, 1) := by decide +kernel
theorem dX14_loop_252 : decode cX14_loop 252 = .ok (.iinc 4 1, 3) := by decide +kernel
theorem dX14_loop_255 : decode cX14_loop 255 = .ok (.goto (-118), 3) := by decide +kernel
theorem dX14_loop_258 : decode cX14_loop 258 = .ok (.goto (-130), 3) := by decide +kernel
theorem dX14_loop_261 : decode cX14_loop 261 = .ok (.iconst 0, 1) := by decide +kernel
theorem dX14_loop_262 : decode cX14_loop 262 = .ok (.istore 4, 2) := by decide +kernel
theorem dX14_loop_264 : decode cX14_loop 264 = .ok (.iload 4, 2) := by decide +kernel
theorem dX14_loop_266 : decode cX14_loop 266 = .ok (.aload_n 0, 1) := by decide +kernel
theorem dX14_loop_267 : decode cX14_loop 267 = .ok (.getfield 1088, 3) := by decide +kernel
theorem dX14_loop_270 : decode cX14_loop 270 = .ok (.if_icmp .ge 30, 3) := by decide +kernel
theorem dX14_loop_273 : decode cX14_loop 273 = .ok (.aload_n 0, 1) := by decide +kernel
theorem dX14_loop_274 : decode cX14_loop 274 = .ok (.getfield 216, 3) := by decide +kernel
theorem dX14_loop_277 : decode cX14_loop 277 = .ok (.iload 4, 2) := by decide +kernel
theorem dX14_loop_279 : decode cX14_loop 279 = .ok (.baload, 1) := by decide +kernel
theorem dX14_loop_280 : decode cX14_loop 280 = .ok (.ifCond .eq 14, 3) := by decide +kernel
theorem dX14_loop_283 : decode cX14_loop 283 = .ok (.aload_n 0, 1) := by decide +kernel
theorem dX14_loop_284 : decode cX14_loop 284 = .ok (.getfield 213, 3) := by decide +kernel
theorem dX14_loop_287 : decode cX14_loop 287 = .ok (.iload 4, 2) := by decide +kernel
theorem dX14_loop_289 : decode cX14_loop 289 = .ok (.dup2, 1) := by decide +kernel
theorem dX14_loop_290 : decode cX14_loop 290 = .ok (.iaload, 1) := by decide +kernel
theorem dX14_loop_291 : decode cX14_loop 291 = .ok (.iconst 1, 1) := by decide +kernel
theorem dX14_loop_292 : decode cX14_loop 292 = .ok (.iadd, 1) := by decide +kernel
theorem dX14_loop_293 : decode cX14_loop 293 = .ok (.iastore, 1) := by decide +kernel
theorem dX14_loop_294 : decode cX14_loop 294 = .ok (.iinc 4 1, 3) := by decide +kernel
theorem dX14_loop_297 : decode cX14_loop 297 = .ok (.goto (-33), 3) := by decide +kernel
theorem dX14_loop_300 : decode cX14_loop 300 = .ok (.return_, 1) := by decide +kernel
theorem dX14_loops_0 : decode cX14_loops 0 = .ok (.iconst 0, 1) := by decide +kernel
theorem dX14_loops_1 : decode cX14_loops 1 = .ok (.istore_n 1, 1) := by decide +kernel
theorem dX14_loops_2 : decode cX14_loops 2 = .ok (.iload_n 1, 1) := by decide +kernel
theorem dX14_loops_3 : decode cX14_loops 3 = .ok (.aload_n 0, 1) := by decide +kernel
theorem dX14_loops_4 : decode cX14_loops 4 = .ok (.getfield 1088, 3) := by decide +kernel
theorem dX14_loops_7 : decode cX14_loops 7 = .ok (.if_icmp .ge 23, 3) := by decide +kernel
theorem dX14_loops_10 : decode cX14_loops 10 = .ok (.aload_n 0, 1) := by decide +kernel
theorem dX14_loops_11 : decode cX14_loops 11 = .ok (.getfield 213, 3) := by decide +kernel
theorem dX14_loops_14 : decode cX14_loops 14 = .ok (.iload_n 1, 1) := by decide +kernel
theorem dX14_loops_15 : decode cX14_loops 15 = .ok (.iconst 0, 1) := by decide +kernel
theorem dX14_loops_16 : decode cX14_loops 16 = .ok (.iastore, 1) := by decide +kernel
theorem dX14_loops_17 : decode cX14_loops 17 = .ok (.aload_n 0, 1) := by decide +kernel
theorem dX14_loops_18 : decode cX14_loops 18 = .ok (.getfield 210, 3) := by decide +kernel
theorem dX14_loops_21 : decode cX14_loops 21 = .ok (.iload_n 1, 1) := by decide +kernel
theorem dX14_loops_22 : decode cX14_loops 22 = .ok (.iconst 0, 1) := by decide +kernel
theorem dX14_loops_23 : decode cX14_loops 23 = .ok (.bastore, 1) := by decide +kernel
theorem dX14_loops_24 : decode cX14_loops 24 = .ok (.iinc 1 1, 3) := by decide +kernel
theorem dX14_loops_27 : decode cX14_loops 27 = .ok (.goto (-25), 3) := by decide +kernel
theorem dX14_loops_30 : decode cX14_loops 30 = .ok (.iconst 0, 1) := by decide +kernel
theorem dX14_loops_31 : decode cX14_loops 31 = .ok (.istore_n 1, 1) := by decide +kernel
theorem dX14_loops_32 : decode cX14_loops 32 = .ok (.iload_n 1, 1) := by decide +kernel
theorem dX14_loops_33 : decode cX14_loops 33 = .ok (.aload_n 0, 1) := by decide +kernel
theorem dX14_loops_34 : decode cX14_loops 34 = .ok (.getfield 1088, 3) := by decide +kernel
theorem dX14_loops_37 : decode cX14_loops 37 = .ok (.if_icmp .ge 23, 3) := by decide +kernel
theorem dX14_loops_40 : decode cX14_loops 40 = .ok (.aload_n 0, 1) := by decide +kernel
theorem dX14_loops_41 : decode cX14_loops 41 = .ok (.getfield 200, 3) := by decide +kernel
theorem dX14_loops_44 : decode cX14_loops 44 = .ok (.iload_n 1, 1) := by decide +kernel
theorem dX14_loops_45 : decode cX14_loops 45 = .ok (.baload, 1) := by decide +kernel
theorem dX14_loops_46 : decode cX14_loops 46 = .ok (.ifCond .eq 8, 3) := by decide +kernel
theorem dX14_loops_49 : decode cX14_loops 49 = .ok (.aload_n 0, 1) := by decide +kernel
theorem dX14_loops_50 : decode cX14_loops 50 = .ok (.iload_n 1, 1) := by decide +kernel
theorem dX14_loops_51 : decode cX14_loops 51 = .ok (.invokevirtual 1112, 3) := by decide +kernel
theorem dX14_loops_54 : decode cX14_loops 54 = .ok (.iinc 1 1, 3) := by decide +kernel
theorem dX14_loops_57 : decode cX14_loops 57 = .ok (.goto (-25), 3) := by decide +kernel
theorem dX14_loops_60 : decode cX14_loops 60 = .ok (.return_, 1) := by decide +kernel
theorem dX14_lower_0 : decode cX14_lower 0 = .ok (.iload_n 0, 1) := by decide +kernel
theorem dX14_lower_1 : decode cX14_lower 1 = .ok (.sipush 148, 3) := by decide +kernel
theorem dX14_lower_4 : decode cX14_lower 4 = .ok (.if_icmp .eq 10, 3) := by decide +kernel
theorem dX14_lower_7 : decode cX14_lower 7 = .ok (.iload_n 0, 1) := by decide +kernel
theorem dX14_lower_8 : decode cX14_lower 8 = .ok (.iconst 2, 1) := by decide +kernel
theorem dX14_lower_9 : decode cX14_lower 9 = .ok (.irem, 1) := by decide +kernel
theorem dX14_lower_10 : decode cX14_lower 10 = .ok (.iconst 1, 1) := by decide +kernel
theorem dX14_lower_11 : decode cX14_lower 11 = .ok (.if_icmp .ne 8, 3) := by decide +kernel
theorem dX14_lower_14 : decode cX14_lower 14 = .ok (.bipush 20, 2) := by decide +kernel
theorem dX14_lower_16 : decode cX14_lower 16 = .ok (.goto 5, 3) := by decide +kernel
theorem dX14_lower_19 : decode cX14_lower 19 = .ok (.bipush 18, 2) := by decide +kernel
theorem dX14_lower_21 : decode cX14_lower 21 = .ok (.ireturn, 1) := by decide +kernel
theorem dX14_made_0 : decode cX14_made 0 = .ok (.iload_n 1, 1) := by decide +kernel
theorem dX14_made_1 : decode cX14_made 1 = .ok (.ifCond .ge 10, 3) := by decide +kernel
theorem dX14_made_4 : decode cX14_made 4 = .ok (.aload_n 0, 1) := by decide +kernel
theorem dX14_made_5 : decode cX14_made 5 = .ok (.iconst 3, 1) := by decide +kernel
theorem dX14_made_6 : decode cX14_made 6 = .ok (.invokevirtual 1059, 3) := by decide +kernel
theorem dX14_made_9 : decode cX14_made 9 = .ok (.iconst 0, 1) := by decide +kernel
theorem dX14_made_10 : decode cX14_made 10 = .ok (.ireturn, 1) := by decide +kernel
theorem dX14_made_11 : decode cX14_made 11 = .ok (.aload_n 0, 1) := by decide +kernel
theorem dX14_made_12 : decode cX14_made 12 = .ok (.getfield 967, 3) := by decide +kernel
theorem dX14_made_15 : decode cX14_made 15 = .ok (.i2l, 1) := by decide +kernel
theorem dX14_made_16 : decode cX14_made 16 = .ok (.iload_n 1, 1) := by decide +kernel
theorem dX14_made_17 : decode cX14_made 17 = .ok (.i2l, 1) := by decide +kernel
theorem dX14_made_18 : decode cX14_made 18 = .ok (.ladd, 1) := by decide +kernel
theorem dX14_made_19 : decode cX14_made 19 = .ok (.ldc2_w 1086, 3) := by decide +kernel
theorem dX14_made_22 : decode cX14_made 22 = .ok (.lcmp, 1) := by decide +kernel
theorem dX14_made_23 : decode cX14_made 23 = .ok (.ifCond .gt 13, 3) := by decide +kernel
theorem dX14_made_26 : decode cX14_made 26 = .ok (.aload_n 0, 1) := by decide +kernel
theorem dX14_made_27 : decode cX14_made 27 = .ok (.getfield 964, 3) := by decide +kernel
theorem dX14_made_30 : decode cX14_made 30 = .ok (.sipush 400, 3) := by decide +kernel
theorem dX14_made_33 : decode cX14_made 33 = .ok (.if_icmp .ne 10, 3) := by decide +kernel
theorem dX14_made_36 : decode cX14_made 36 = .ok (.aload_n 0, 1) := by decide +kernel
theorem dX14_made_37 : decode cX14_made 37 = .ok (.iconst 4, 1) := by decide +kernel
theorem dX14_made_38 : decode cX14_made 38 = .ok (.putfield 977, 3) := by decide +kernel
theorem dX14_made_41 : decode cX14_made 41 = .ok (.iconst 0, 1) := by decide +kernel
theorem dX14_made_42 : decode cX14_made 42 = .ok (.ireturn, 1) := by decide +kernel
theorem dX14_made_43 : decode cX14_made 43 = .ok (.aload_n 0, 1) := by decide +kernel
theorem dX14_made_44 : decode cX14_made 44 = .ok (.dup, 1) := by decide +kernel
theorem dX14_made_45 : decode cX14_made 45 = .ok (.getfield 964, 3) := by decide +kernel
theorem dX14_made_48 : decode cX14_made 48 = .ok (.iconst 1, 1) := by decide +kernel
theorem dX14_made_49 : decode cX14_made 49 = .ok (.iadd, 1) := by decide +kernel
theorem dX14_made_50 : decode cX14_made 50 = .ok (.putfield 964, 3) := by decide +kernel
theorem dX14_made_53 : decode cX14_made 53 = .ok (.aload_n 0, 1) := by decide +kernel
theorem dX14_made_54 : decode cX14_made 54 = .ok (.getfield 152, 3) := by decide +kernel
theorem dX14_made_57 : decode cX14_made 57 = .ok (.aload_n 0, 1) := by decide +kernel
theorem dX14_made_58 : decode cX14_made 58 = .ok (.getfield 964, 3) := by decide +kernel
theorem dX14_made_61 : decode cX14_made 61 = .ok (.aload_n 0, 1) := by decide +kernel
theorem dX14_made_62 : decode cX14_made 62 = .ok (.getfield 967, 3) := by decide +kernel
theorem dX14_made_65 : decode cX14_made 65 = .ok (.iastore, 1) := by decide +kernel
theorem dX14_made_66 : decode cX14_made 66 = .ok (.aload_n 0, 1) := by decide +kernel
theorem dX14_made_67 : decode cX14_made 67 = .ok (.getfield 155, 3) := by decide +kernel
theorem dX14_made_70 : decode cX14_made 70 = .ok (.aload_n 0, 1) := by decide +kernel
theorem dX14_made_71 : decode cX14_made 71 = .ok (.getfield 964, 3) := by decide +kernel
theorem dX14_made_74 : decode cX14_made 74 = .ok (.iload_n 1, 1) := by decide +kernel
theorem dX14_made_75 : decode cX14_made 75 = .ok (.iastore, 1) := by decide +kernel
theorem dX14_made_76 : decode cX14_made 76 = .ok (.aload_n 0, 1) := by decide +kernel
theorem dX14_made_77 : decode cX14_made 77 = .ok (.dup, 1) := by decide +kernel
theorem dX14_made_78 : decode cX14_made 78 = .ok (.getfield 967, 3) := by decide +kernel
theorem dX14_made_81 : decode cX14_made 81 = .ok (.iload_n 1, 1) := by decide +kernel
theorem dX14_made_82 : decode cX14_made 82 = .ok (.iadd, 1) := by decide +kernel
theorem dX14_made_83 : decode cX14_made 83 = .ok (.putfield 967, 3) := by decide +kernel
theorem dX14_made_86 : decode cX14_made 86 = .ok (.aload_n 0, 1) := by decide +kernel
theorem dX14_made_87 : decode cX14_made 87 = .ok (.aload_n 0, 1) := by decide +kernel
theorem dX14_made_88 : decode cX14_made 88 = .ok (.getfield 964, 3) := by decide +kernel
theorem dX14_made_91 : decode cX14_made 91 = .ok (.i2l, 1) := by decide +kernel
theorem dX14_made_92 : decode cX14_made 92 = .ok (.iconst 1, 1) := by decide +kernel
theorem dX14_made_93 : decode cX14_made 93 = .ok (.invokevirtual 1003, 3) := by decide +kernel
theorem dX14_made_96 : decode cX14_made 96 = .ok (.iconst 1, 1) := by decide +kernel
theorem dX14_made_97 : decode cX14_made 97 = .ok (.ireturn, 1) := by decide +kernel
theorem dX14_mark_0 : decode cX14_mark 0 = .ok (.iconst 0, 1) := by decide +kernel
theorem dX14_mark_1 : decode cX14_mark 1 = .ok (.istore_n 1, 1) := by decide +kernel
theorem dX14_mark_2 : decode cX14_mark 2 = .ok (.iload_n 1, 1) := by decide +kernel
theorem dX14_mark_3 : decode cX14_mark 3 = .ok (.aload_n 0, 1) := by decide +kernel
theorem dX14_mark_4 : decode cX14_mark 4 = .ok (.getfield 1136, 3) := by decide +kernel
theorem dX14_mark_7 : decode cX14_mark 7 = .ok (.if_icmp .ge 39, 3) := by decide +kernel
theorem dX14_mark_10 : decode cX14_mark 10 = .ok (.aload_n 0, 1) := by decide +kernel
theorem dX14_mark_11 : decode cX14_mark 11 = .ok (.aload_n 0, 1) := by decide +kernel
theorem dX14_mark_12 : decode cX14_mark 12 = .ok (.getfield 252, 3) := by decide +kernel
theorem dX14_mark_15 : decode cX14_mark 15 = .ok (.iload_n 1, 1) := by decide +kernel
theorem dX14_mark_16 : decode cX14_mark 16 = .ok (.iaload, 1) := by decide +kernel
theorem dX14_mark_17 : decode cX14_mark 17 = .ok (.invokevirtual 1133, 3) := by decide +kernel
theorem dX14_mark_20 : decode cX14_mark 20 = .ok (.aload_n 0, 1) := by decide +kernel
theorem dX14_mark_21 : decode cX14_mark 21 = .ok (.aload_n 0, 1) := by decide +kernel
theorem dX14_mark_22 : decode cX14_mark 22 = .ok (.getfield 255, 3) := by decide +kernel
theorem dX14_mark_25 : decode cX14_mark 25 = .ok (.iload_n 1, 1) := by decide +kernel
theorem dX14_mark_26 : decode cX14_mark 26 = .ok (.iaload, 1) := by decide +kernel
theorem dX14_mark_27 : decode cX14_mark 27 = .ok (.invokevirtual 1133, 3) := by decide +kernel
theorem dX14_mark_30 : decode cX14_mark 30 = .ok (.if_icmp .lt 10, 3) := by decide +kernel
theorem dX14_mark_33 : decode cX14_mark 33 = .ok (.aload_n 0, 1) := by decide +kernel
theorem dX14_mark_34 : decode cX14_mark 34 = .ok (.getfield 264, 3) := by decide +kernel
theorem dX14_mark_37 : decode cX14_mark 37 = .ok (.iload_n 1, 1) := by decide +kernel
theorem dX14_mark_38 : decode cX14_mark 38 = .ok (.iconst 1, 1) := by decide +kernel
theorem dX14_mark_39 : decode cX14_mark 39 = .ok (.bastore, 1) := by decide +kernel
theorem dX14_mark_40 : decode cX14_mark 40 = .ok (.iinc 1 1, 3) := by decide +kernel
theorem dX14_mark_43 : decode cX14_mark 43 = .ok (.goto (-41), 3) := by decide +kernel
theorem dX14_mark_46 : decode cX14_mark 46 = .ok (.iconst 0, 1) := by decide +kernel
theorem dX14_mark_47 : decode cX14_mark 47 = .ok (.istore_n 1, 1) := by decide +kernel
theorem dX14_mark_48 : decode cX14_mark 48 = .ok (.iload_n 1, 1) := by decide +kernel
theorem dX14_mark_49 : decode cX14_mark 49 = .ok (.aload_n 0, 1) := by decide +kernel
theorem dX14_mark_50 : decode cX14_mark 50 = .ok (.getfield 1130, 3) := by decide +kernel
theorem dX14_mark_53 : decode cX14_mark 53 = .ok (.if_icmp .gt 16, 3) := by decide +kernel
theorem dX14_mark_56 : decode cX14_mark 56 = .ok (.aload_n 0, 1) := by decide +kernel
theorem dX14_mark_57 : decode cX14_mark 57 = .ok (.getfield 267, 3) := by decide +kernel
theorem dX14_mark_60 : decode cX14_mark 60 = .ok (.iload_n 1, 1) := by decide +kernel
theorem dX14_mark_61 : decode cX14_mark 61 = .ok (.iconst 0, 1) := by decide +kernel
theorem dX14_mark_62 : decode cX14_mark 62 = .ok (.bastore, 1) := by decide +kernel
theorem dX14_mark_63 : decode cX14_mark 63 = .ok (.iinc 1 1, 3) := by decide +kernel
theorem dX14_mark_66 : decode cX14_mark 66 = .ok (.goto (-18), 3) := by decide +kernel
theorem dX14_mark_69 : decode cX14_mark 69 = .ok (.iconst 0, 1) := by decide +kernel
theorem dX14_mark_70 : decode cX14_mark 70 = .ok (.istore_n 1, 1) := by decide +kernel
theorem dX14_mark_71 : decode cX14_mark 71 = .ok (.iload_n 1, 1) := by decide +kernel
theorem dX14_mark_72 : decode cX14_mark 72 = .ok (.aload_n 0, 1) := by decide +kernel
theorem dX14_mark_73 : decode cX14_mark 73 = .ok (.getfield 1130, 3) := by decide +kernel
theorem dX14_mark_76 : decode cX14_mark 76 = .ok (.if_icmp .ge 50, 3) := by decide +kernel
theorem dX14_mark_79 : decode cX14_mark 79 = .ok (.aload_n 0, 1) := by decide +kernel
theorem dX14_mark_80 : decode cX14_mark 80 = .ok (.getfield 249, 3) := by decide +kernel
theorem dX14_mark_83 : decode cX14_mark 83 = .ok (.iload_n 1, 1) := by decide +kernel
theorem dX14_mark_84 : decode cX14_mark 84 = .ok (.baload, 1) := by decide +kernel
theorem dX14_mark_85 : decode cX14_mark 85 = .ok (.ifCond .eq 6, 3) := by decide +kernel
theorem dX14_mark_88 : decode cX14_mark 88 = .ok (.goto 32, 3) := by decide +kernel
theorem dX14_mark_91 : decode cX14_mark 91 = .ok (.iconst 0, 1) := by decide +kernel
theorem dX14_mark_92 : decode cX14_mark 92 = .ok (.istore_n 2, 1) := by decide +kernel
theorem dX14_mark_93 : decode cX14_mark 93 = .ok (.iload_n 2, 1) := by decide +kernel
theorem dX14_mark_94 : decode cX14_mark 94 = .ok (.aload_n 0, 1) := by decide +kernel
theorem dX14_mark_95 : decode cX14_mark 95 = .ok (.iload_n 1, 1) := by decide +kernel
theorem dX14_mark_96 : decode cX14_mark 96 = .ok (.invokevirtual 1139, 3) := by decide +kernel
theorem dX14_mark_99 : decode cX14_mark 99 = .ok (.if_icmp .ge 21, 3) := by decide +kernel
theorem dX14_mark_102 : decode cX14_mark 102 = .ok (.aload_n 0, 1) := by decide +kernel
theorem dX14_mark_103 : decode cX14_mark 103 = .ok (.getfield 267, 3) := by decide +kernel
theorem dX14_mark_106 : decode cX14_mark 106 = .ok (.aload_n 0, 1) := by decide +kernel
theorem dX14_mark_107 : decode cX14_mark 107 = .ok (.iload_n 1, 1) := by decide +kernel
theorem dX14_mark_108 : decode cX14_mark 108 = .ok (.iload_n 2, 1) := by decide +kernel
theorem dX14_mark_109 : decode cX14_mark 109 = .ok (.invokevirtual 1142, 3) := by decide +kernel
theorem dX14_mark_112 : decode cX14_mark 112 = .ok (.iconst 1, 1) := by decide +kernel
theorem dX14_mark_113 : decode cX14_mark 113 = .ok (.bastore, 1) := by decide +kernel
theorem dX14_mark_114 : decode cX14_mark 114 = .ok (.iinc 2 1, 3) := by decide +kernel
theorem dX14_mark_117 : decode cX14_mark 117 = .ok (.goto (-24), 3) := by decide +kernel
theorem dX14_mark_120 : decode cX14_mark 120 = .ok (.iinc 1 1, 3) := by decide +kernel
theorem dX14_mark_123 : decode cX14_mark 123 = .ok (.goto (-52), 3) := by decide +kernel
theorem dX14_mark_126 : decode cX14_mark 126 = .ok (.iconst 0, 1) := by decide +kernel
theorem dX14_mark_127 : decode cX14_mark 127 = .ok (.istore_n 1, 1) := by decide +kernel
theorem dX14_mark_128 : decode cX14_mark 128 = .ok (.iload_n 1, 1) := by decide +kernel
theorem dX14_mark_129 : decode cX14_mark 129 = .ok (.aload_n 0, 1) := by decide +kernel
theorem dX14_mark_130 : decode cX14_mark 130 = .ok (.getfield 1136, 3) := by decide +kernel
theorem dX14_mark_133 : decode cX14_mark 133 = .ok (.if_icmp .ge 69, 3) := by decide +kernel
theorem dX14_mark_136 : decode cX14_mark 136 = .ok (.aload_n 0, 1) := by decide +kernel
theorem dX14_mark_137 : decode cX14_mark 137 = .ok (.getfield 264, 3) := by decide +kernel
theorem dX14_mark_140 : decode cX14_mark 140 = .ok (.iload_n 1, 1) := by decide +kernel
theorem dX14_mark_141 : decode cX14_mark 141 = .ok (.baload, 1) := by decide +kernel
theorem dX14_mark_142 : decode cX14_mark 142 = .ok (.ifCond .eq 6, 3) := by decide +kernel
theorem dX14_mark_145 : decode cX14_mark 145 = .ok (.goto 51, 3) := by decide +kernel
theorem dX14_mark_148 : decode cX14_mark 148 = .ok (.aload_n 0, 1) := by decide +kernel
theorem dX14_mark_149 : decode cX14_mark 149 = .ok (.getfield 267, 3) := by decide +kernel
theorem dX14_mark_152 : decode cX14_mark 152 = .ok (.aload_n 0, 1) := by decide +kernel
theorem dX14_mark_153 : decode cX14_mark 153 = .ok (.aload_n 0, 1) := by decide +kernel
theorem dX14_mark_154 : decode cX14_mark 154 = .ok (.getfield 252, 3) := by decide +kernel
theorem dX14_mark_157 : decode cX14_mark 157 = .ok (.iload_n 1, 1) := by decide +kernel
theorem dX14_mark_158 : decode cX14_mark 158 = .ok (.iaload, 1) := by decide +kernel
theorem dX14_mark_159 : decode cX14_mark 159 = .ok (.invokevirtual 1133, 3) := by decide +kernel
theorem dX14_mark_162 : decode cX14_mark 162 = .ok (.iconst 1, 1) := by decide +kernel
theorem dX14_mark_163 : decode cX14_mark 163 = .ok (.bastore, 1) := by decide +kernel
theorem dX14_mark_164 : decode cX14_mark 164 = .ok (.aload_n 0, 1) := by decide +kernel
theorem dX14_mark_165 : decode cX14_mark 165 = .ok (.getfield 267, 3) := by decide +kernel
theorem dX14_mark_168 : decode cX14_mark 168 = .ok (.aload_n 0, 1) := by decide +kernel
theorem dX14_mark_169 : decode cX14_mark 169 = .ok (.aload_n 0, 1) := by decide +kernel
theorem dX14_mark_170 : decode cX14_mark 170 = .ok (.getfield 255, 3) := by decide +kernel
theorem dX14_mark_173 : decode cX14_mark 173 = .ok (.iload_n 1, 1) := by decide +kernel
theorem dX14_mark_174 : decode cX14_mark 174 = .ok (.iaload, 1) := by decide +kernel
theorem dX14_mark_175 : decode cX14_mark 175 = .ok (.invokevirtual 1133, 3) := by decide +kernel
theorem dX14_mark_178 : decode cX14_mark 178 = .ok (.iconst 1, 1) := by decide +kernel
theorem dX14_mark_179 : decode cX14_mark 179 = .ok (.bastore, 1) := by decide +kernel
theorem dX14_mark_180 : decode cX14_mark 180 = .ok (.aload_n 0, 1) := by decide +kernel
theorem dX14_mark_181 : decode cX14_mark 181 = .ok (.getfield 267, 3) := by decide +kernel
theorem dX14_mark_184 : decode cX14_mark 184 = .ok (.aload_n 0, 1) := by decide +kernel
theorem dX14_mark_185 : decode cX14_mark 185 = .ok (.aload_n 0, 1) := by decide +kernel
theorem dX14_mark_186 : decode cX14_mark 186 = .ok (.getfield 258, 3) := by decide +kernel
theorem dX14_mark_189 : decode cX14_mark 189 = .ok (.iload_n 1, 1) := by decide +kernel
theorem dX14_mark_190 : decode cX14_mark 190 = .ok (.iaload, 1) := by decide +kernel
theorem dX14_mark_191 : decode cX14_mark 191 = .ok (.invokevirtual 1133, 3) := by decide +kernel
theorem dX14_mark_194 : decode cX14_mark 194 = .ok (.iconst 1, 1) := by decide +kernel
theorem dX14_mark_195 : decode cX14_mark 195 = .ok (.bastore, 1) := by decide +kernel
theorem dX14_mark_196 : decode cX14_mark 196 = .ok (.iinc 1 1, 3) := by decide +kernel
theorem dX14_mark_199 : decode cX14_mark 199 = .ok (.goto (-71), 3) := by decide +kernel
theorem dX14_mark_202 : decode cX14_mark 202 = .ok (.return_, 1) := by decide +kernel
theorem dX14_meet_0 : decode cX14_meet 0 = .ok (.aload_n 0, 1) := by decide +kernel
theorem dX14_meet_1 : decode cX14_meet 1 = .ok (.getfield 270, 3) := by decide +kernel
theorem dX14_meet_4 : decode cX14_meet 4 = .ok (.iload_n 1, 1) := by decide +kernel
theorem dX14_meet_5 : decode cX14_meet 5 = .ok (.baload, 1) := by decide +kernel
theorem dX14_meet_6 : decode cX14_meet 6 = .ok (.ifCond .eq 5, 3) := by decide +kernel
theorem dX14_meet_9 : decode cX14_meet 9 = .ok (.iconst 0, 1) := by decide +kernel
theorem dX14_meet_10 : decode cX14_meet 10 = .ok (.ireturn, 1) := by decide +kernel
theorem dX14_meet_11 : decode cX14_meet 11 = .ok (.aload_n 0, 1) := by decide +kernel
theorem dX14_meet_12 : decode cX14_meet 12 = .ok (.getfield 270, 3) := by decide +kernel
theorem dX14_meet_15 : decode cX14_meet 15 = .ok (.iload_n 1, 1) := by decide +kernel
theorem dX14_meet_16 : decode cX14_meet 16 = .ok (.iconst 1, 1) := by decide +kernel
theorem dX14_meet_17 : decode cX14_meet 17 = .ok (.bastore, 1) := by decide +kernel
theorem dX14_meet_18 : decode cX14_meet 18 = .ok (.iconst 1, 1) := by decide +kernel
theorem dX14_meet_19 : decode cX14_meet 19 = .ok (.ireturn, 1) := by decide +kernel
theorem dX14_meetFrom_0 : decode cX14_meetFrom 0 = .ok (.aload_n 0, 1) := by decide +kernel
theorem dX14_meetFrom_1 : decode cX14_meetFrom 1 = .ok (.getfield 240, 3) := by decide +kernel
theorem dX14_meetFrom_4 : decode cX14_meetFrom 4 = .ok (.iload_n 1, 1) := by decide +kernel
theorem dX14_meetFrom_5 : decode cX14_meetFrom 5 = .ok (.iaload, 1) := by decide +kernel
theorem dX14_meetFrom_6 : decode cX14_meetFrom 6 = .ok (.invokestatic 756, 3) := by decide +kernel
theorem dX14_meetFrom_9 : decode cX14_meetFrom 9 = .ok (.ifCond .eq 31, 3) := by decide +kernel
theorem dX14_meetFrom_12 : decode cX14_meetFrom 12 = .ok (.aload_n 0, 1) := by decide +kernel
theorem dX14_meetFrom_13 : decode cX14_meetFrom 13 = .ok (.iload_n 1, 1) := by decide +kernel
theorem dX14_meetFrom_14 : decode cX14_meetFrom 14 = .ok (.invokevirtual 1161, 3) := by decide +kernel
theorem dX14_meetFrom_17 : decode cX14_meetFrom 17 = .ok (.aload_n 0, 1) := by decide +kernel
theorem dX14_meetFrom_18 : decode cX14_meetFrom 18 = .ok (.getfield 1130, 3) := by decide +kernel
theorem dX14_meetFrom_21 : decode cX14_meetFrom 21 = .ok (.if_icmp .ge 19, 3) := by decide +kernel
theorem dX14_meetFrom_24 : decode cX14_meetFrom 24 = .ok (.aload_n 0, 1) := by decide +kernel
theorem dX14_meetFrom_25 : decode cX14_meetFrom 25 = .ok (.aload_n 0, 1) := by decide +kernel
theorem dX14_meetFrom_26 : decode cX14_meetFrom 26 = .ok (.iload_n 1, 1) := by decide +kernel
theorem dX14_meetFrom_27 : decode cX14_meetFrom 27 = .ok (.invokevirtual 1161, 3) := by decide +kernel
theorem dX14_meetFrom_30 : decode cX14_meetFrom 30 = .ok (.invokevirtual 1193, 3) := by decide +kernel
theorem dX14_meetFrom_33 : decode cX14_meetFrom 33 = .ok (.ifCond .eq 7, 3) := by decide +kernel
theorem dX14_meetFrom_36 : decode cX14_meetFrom 36 = .ok (.iconst 1, 1) := by decide +kernel
theorem dX14_meetFrom_37 : decode cX14_meetFrom 37 = .ok (.goto 4, 3) := by decide +kernel
theorem dX14_meetFrom_40 : decode cX14_meetFrom 40 = .ok (.iconst 0, 1) := by decide +kernel
theorem dX14_meetFrom_41 : decode cX14_meetFrom 41 = .ok (.istore_n 2, 1) := by decide +kernel
theorem dX14_meetFrom_42 : decode cX14_meetFrom 42 = .ok (.iconst 0, 1) := by decide +kernel
theorem dX14_meetFrom_43 : decode cX14_meetFrom 43 = .ok (.istore_n 3, 1) := by decide +kernel
theorem dX14_meetFrom_44 : decode cX14_meetFrom 44 = .ok (.iload_n 3, 1) := by decide +kernel
theorem dX14_meetFrom_45 : decode cX14_meetFrom 45 = .ok (.aload_n 0, 1) := by decide +kernel
theorem dX14_meetFrom_46 : decode cX14_meetFrom 46 = .ok (.iload_n 1, 1) := by decide +kernel
theorem dX14_meetFrom_47 : decode cX14_meetFrom 47 = .ok (.invokevirtual 1139, 3) := by decide +kernel
theorem dX14_meetFrom_50 : decode cX14_meetFrom 50 = .ok (.if_icmp .ge 32, 3) := by decide +kernel
theorem dX14_meetFrom_53 : decode cX14_meetFrom 53 = .ok (.aload_n 0, 1) := by decide +kernel
theorem dX14_meetFrom_54 : decode cX14_meetFrom 54 = .ok (.aload_n 0, 1) := by decide +kernel
theorem dX14_meetFrom_55 : decode cX14_meetFrom 55 = .ok (.iload_n 1, 1) := by decide +kernel
theorem dX14_meetFrom_56 : decode cX14_meetFrom 56 = .ok (.iload_n 3, 1) := by decide +kernel
theorem dX14_meetFrom_57 : decode cX14_meetFrom 57 = .ok (.invokevirtual 1142, 3) := by decide +kernel
theorem dX14_meetFrom_60 : decode cX14_meetFrom 60 = .ok (.invokevirtual 1193, 3) := by decide +kernel
theorem dX14_meetFrom_63 : decode cX14_meetFrom 63 = .ok (.ifCond .ne 7, 3) := by decide +kernel
theorem dX14_meetFrom_66 : decode cX14_meetFrom 66 = .ok (.iload_n 2, 1) := by decide +kernel
theorem dX14_meetFrom_67 : decode cX14_meetFrom 67 = .ok (.ifCond .eq 7, 3) := by decide +kernel
theorem dX14_meetFrom_70 : decode cX14_meetFrom 70 = .ok (.iconst 1, 1) := by decide +kernel
theorem dX14_meetFrom_71 : decode cX14_meetFrom 71 = .ok (.goto 4, 3) := by decide +kernel
theorem dX14_meetFrom_74 : decode cX14_meetFrom 74 = .ok (.iconst 0, 1) := by decide +kernel
theorem dX14_meetFrom_75 : decode cX14_meetFrom 75 = .ok (.istore_n 2, 1) := by decide +kernel
theorem dX14_meetFrom_76 : decode cX14_meetFrom 76 = .ok (.iinc 3 1, 3) := by decide +kernel
theorem dX14_meetFrom_79 : decode cX14_meetFrom 79 = .ok (.goto (-35), 3) := by decide +kernel
theorem dX14_meetFrom_82 : decode cX14_meetFrom 82 = .ok (.iconst 0, 1) := by decide +kernel
theorem dX14_meetFrom_83 : decode cX14_meetFrom 83 = .ok (.istore_n 3, 1) := by decide +kernel
theorem dX14_meetFrom_84 : decode cX14_meetFrom 84 = .ok (.iload_n 3, 1) := by decide +kernel
theorem dX14_meetFrom_85 : decode cX14_meetFrom 85 = .ok (.aload_n 0, 1) := by decide +kernel
theorem dX14_meetFrom_86 : decode cX14_meetFrom 86 = .ok (.getfield 1136, 3) := by decide +kernel
theorem dX14_meetFrom_89 : decode cX14_meetFrom 89 = .ok (.if_icmp .ge 45, 3) := by decide +kernel
theorem dX14_meetFrom_92 : decode cX14_meetFrom 92 = .ok (.aload_n 0, 1) := by decide +kernel
theorem dX14_meetFrom_93 : decode cX14_meetFrom 93 = .ok (.iload_n 1, 1) := by decide +kernel
theorem dX14_meetFrom_94 : decode cX14_meetFrom 94 = .ok (.iload_n 3, 1) := by decide +kernel
theorem dX14_meetFrom_95 : decode cX14_meetFrom 95 = .ok (.invokevirtual 1196, 3) := by decide +kernel
theorem dX14_meetFrom_98 : decode cX14_meetFrom 98 = .ok (.ifCond .eq 30, 3) := by decide +kernel
theorem dX14_meetFrom_101 : decode cX14_meetFrom 101 = .ok (.aload_n 0, 1) := by decide +kernel
theorem dX14_meetFrom_102 : decode cX14_meetFrom 102 = .ok (.aload_n 0, 1) := by decide +kernel
theorem dX14_meetFrom_103 : decode cX14_meetFrom 103 = .ok (.aload_n 0, 1) := by decide +kernel
theorem dX14_meetFrom_104 : decode cX14_meetFrom 104 = .ok (.getfield 258, 3) := by decide +kernel
theorem dX14_meetFrom_107 : decode cX14_meetFrom 107 = .ok (.iload_n 3, 1) := by decide +kernel
theorem dX14_meetFrom_108 : decode cX14_meetFrom 108 = .ok (.iaload, 1) := by decide +kernel
theorem dX14_meetFrom_109 : decode cX14_meetFrom 109 = .ok (.invokevirtual 1133, 3) := by decide +kernel
theorem dX14_meetFrom_112 : decode cX14_meetFrom 112 = .ok (.invokevirtual 1193, 3) := by decide +kernel
theorem dX14_meetFrom_115 : decode cX14_meetFrom 115 = .ok (.ifCond .ne 7, 3) := by decide +kernel
theorem dX14_meetFrom_118 : decode cX14_meetFrom 118 = .ok (.iload_n 2, 1) := by decide +kernel
theorem dX14_meetFrom_119 : decode cX14_meetFrom 119 = .ok (.ifCond .eq 7, 3) := by decide +kernel
theorem dX14_meetFrom_122 : decode cX14_meetFrom 122 = .ok (.iconst 1, 1) := by decide +kernel
theorem dX14_meetFrom_123 : decode cX14_meetFrom 123 = .ok (.goto 4, 3) := by decide +kernel
theorem dX14_meetFrom_126 : decode cX14_meetFrom 126 = .ok (.iconst 0, 1) := by decide +kernel
theorem dX14_meetFrom_127 : decode cX14_meetFrom 127 = .ok (.istore_n 2, 1) := by decide +kernel
theorem dX14_meetFrom_128 : decode cX14_meetFrom 128 = .ok (.iinc 3 1, 3) := by decide +kernel
theorem dX14_meetFrom_131 : decode cX14_meetFrom 131 = .ok (.goto (-47), 3) := by decide +kernel
theorem dX14_meetFrom_134 : decode cX14_meetFrom 134 = .ok (.iload_n 2, 1) := by decide +kernel
theorem dX14_meetFrom_135 : decode cX14_meetFrom 135 = .ok (.ireturn, 1) := by decide +kernel
theorem dX14_member_0 : decode cX14_member 0 = .ok (.aload_n 0, 1) := by decide +kernel
theorem dX14_member_1 : decode cX14_member 1 = .ok (.iload_n 1, 1) := by decide +kernel
theorem dX14_member_2 : decode cX14_member 2 = .ok (.iconst 1, 1) := by decide +kernel
theorem dX14_member_3 : decode cX14_member 3 = .ok (.iadd, 1) := by decide +kernel
theorem dX14_member_4 : decode cX14_member 4 = .ok (.invokevirtual 476, 3) := by decide +kernel
theorem dX14_member_7 : decode cX14_member 7 = .ok (.ldc_w 479, 3) := by decide +kernel
theorem dX14_member_10 : decode cX14_member 10 = .ok (.iand, 1) := by decide +kernel
theorem dX14_member_11 : decode cX14_member 11 = .ok (.istore_n 3, 1) := by decide +kernel
theorem dX14_member_12 : decode cX14_member 12 = .ok (.aload_n 0, 1) := by decide +kernel
theorem dX14_member_13 : decode cX14_member 13 = .ok (.aload_n 0, 1) := by decide +kernel
theorem dX14_member_14 : decode cX14_member 14 = .ok (.iload_n 3, 1) := by decide +kernel
theorem dX14_member_15 : decode cX14_member 15 = .ok (.iload_n 2, 1) := by decide +kernel
theorem dX14_member_16 : decode cX14_member 16 = .ok (.invokevirtual 380, 3) := by decide +kernel
theorem dX14_member_19 : decode cX14_member 19 = .ok (.iload_n 1, 1) := by decide +kernel
theorem dX14_member_20 : decode cX14_member 20 = .ok (.invokevirtual 465, 3) := by decide +kernel
theorem dX14_member_23 : decode cX14_member 23 = .ok (.aload_n 0, 1) := by decide +kernel
theorem dX14_member_24 : decode cX14_member 24 = .ok (.getfield 40, 3) := by decide +kernel
theorem dX14_member_27 : decode cX14_member 27 = .ok (.iload_n 3, 1) := by decide +kernel
theorem dX14_member_28 : decode cX14_member 28 = .ok (.iaload, 1) := by decide +kernel
theorem dX14_member_29 : decode cX14_member 29 = .ok (.istore 4, 2) := by decide +kernel
theorem dX14_member_31 : decode cX14_member 31 = .ok (.aload_n 0, 1) := by decide +kernel
theorem dX14_member_32 : decode cX14_member 32 = .ok (.aload_n 0, 1) := by decide +kernel
theorem dX14_member_33 : decode cX14_member 33 = .ok (.aload_n 0, 1) := by decide +kernel
theorem dX14_member_34 : decode cX14_member 34 = .ok (.getfield 37, 3) := by decide +kernel
theorem dX14_member_37 : decode cX14_member 37 = .ok (.aload_n 0, 1) := by decide +kernel
theorem dX14_member_38 : decode cX14_member 38 = .ok (.getfield 37, 3) := by decide +kernel
theorem dX14_member_41 : decode cX14_member 41 = .ok (.iload_n 3, 1) := by decide +kernel
theorem dX14_member_42 : decode cX14_member 42 = .ok (.iaload, 1) := by decide +kernel
theorem dX14_member_43 : decode cX14_member 43 = .ok (.iaload, 1) := by decide +kernel
theorem dX14_member_44 : decode cX14_member 44 = .ok (.aload_n 0, 1) := by decide +kernel
theorem dX14_member_45 : decode cX14_member 45 = .ok (.getfield 37, 3) := by decide +kernel
theorem dX14_member_48 : decode cX14_member 48 = .ok (.aload_n 0, 1) := by decide +kernel
theorem dX14_member_49 : decode cX14_member 49 = .ok (.aload_n 0, 1) := by decide +kernel
theorem dX14_member_50 : decode cX14_member 50 = .ok (.getfield 344, 3) := by decide +kernel
theorem dX14_member_53 : decode cX14_member 53 = .ok (.iconst 2, 1) := by decide +kernel
theorem dX14_member_54 : decode cX14_member 54 = .ok (.iadd, 1) := by decide +kernel
theorem dX14_member_55 : decode cX14_member 55 = .ok (.invokevirtual 316, 3) := by decide +kernel
theorem dX14_member_58 : decode cX14_member 58 = .ok (.iaload, 1) := by decide +kernel
theorem dX14_member_59 : decode cX14_member 59 = .ok (.invokevirtual 401, 3) := by decide +kernel
theorem dX14_member_62 : decode cX14_member 62 = .ok (.iload_n 1, 1) := by decide +kernel
theorem dX14_member_63 : decode cX14_member 63 = .ok (.invokevirtual 465, 3) := by decide +kernel
theorem dX14_member_66 : decode cX14_member 66 = .ok (.iload_n 2, 1) := by decide +kernel
theorem dX14_member_67 : decode cX14_member 67 = .ok (.bipush 9, 2) := by decide +kernel
theorem dX14_member_69 : decode cX14_member 69 = .ok (.if_icmp .ne 7, 3) := by decide +kernel
theorem dX14_member_72 : decode cX14_member 72 = .ok (.iconst 0, 1) := by decide +kernel
theorem dX14_member_73 : decode cX14_member 73 = .ok (.goto 7, 3) := by decide +kernel
theorem dX14_member_76 : decode cX14_member 76 = .ok (.aload_n 0, 1) := by decide +kernel
theorem dX14_member_77 : decode cX14_member 77 = .ok (.getfield 358, 3) := by decide +kernel
theorem dX14_member_80 : decode cX14_member 80 = .ok (.istore 5, 2) := by decide +kernel
theorem dX14_member_82 : decode cX14_member 82 = .ok (.iload_n 2, 1) := by decide +kernel
theorem dX14_member_83 : decode cX14_member 83 = .ok (.bipush 9, 2) := by decide +kernel
theorem dX14_member_85 : decode cX14_member 85 = .ok (.if_icmp .ne 10, 3) := by decide +kernel
theorem dX14_member_88 : decode cX14_member 88 = .ok (.aload_n 0, 1) := by decide +kernel
theorem dX14_member_89 : decode cX14_member 89 = .ok (.getfield 358, 3) := by decide +kernel
theorem dX14_member_92 : decode cX14_member 92 = .ok (.goto 7, 3) := by decide +kernel
theorem dX14_member_95 : decode cX14_member 95 = .ok (.aload_n 0, 1) := by decide +kernel
theorem dX14_member_96 : decode cX14_member 96 = .ok (.getfield 349, 3) := by decide +kernel
theorem dX14_member_99 : decode cX14_member 99 = .ok (.istore 6, 2) := by decide +kernel
theorem dX14_member_101 : decode cX14_member 101 = .ok (.iconst (-1), 1) := by decide +kernel
theorem dX14_member_102 : decode cX14_member 102 = .ok (.istore 7, 2) := by decide +kernel
theorem dX14_member_104 : decode cX14_member 104 = .ok (.iload 5, 2) := by decide +kernel
theorem dX14_member_106 : decode cX14_member 106 = .ok (.istore 8, 2) := by decide +kernel
theorem dX14_member_108 : decode cX14_member 108 = .ok (.iload 8, 2) := by decide +kernel
theorem dX14_member_110 : decode cX14_member 110 = .ok (.iload 6, 2) := by decide +kernel
theorem dX14_member_112 : decode cX14_member 112 = .ok (.if_icmp .ge 70, 3) := by decide +kernel
theorem dX14_member_115 : decode cX14_member 115 = .ok (.aload_n 0, 1) := by decide +kernel
theorem dX14_member_116 : decode cX14_member 116 = .ok (.aload_n 0, 1) := by decide +kernel
theorem dX14_member_117 : decode cX14_member 117 = .ok (.aload_n 0, 1) := by decide +kernel
theorem dX14_member_118 : decode cX14_member 118 = .ok (.getfield 47, 3) := by decide +kernel
theorem dX14_member_121 : decode cX14_member 121 = .ok (.iload 8, 2) := by decide +kernel
theorem dX14_member_123 : decode cX14_member 123 = .ok (.iaload, 1) := by decide +kernel
theorem dX14_member_124 : decode cX14_member 124 = .ok (.iconst 2, 1) := by decide +kernel
theorem dX14_member_125 : decode cX14_member 125 = .ok (.iadd, 1) := by decide +kernel
theorem dX14_member_126 : decode cX14_member 126 = .ok (.invokevirtual 316, 3) := by decide +kernel
theorem dX14_member_129 : decode cX14_member 129 = .ok (.aload_n 0, 1) := by decide +kernel
theorem dX14_member_130 : decode cX14_member 130 = .ok (.getfield 37, 3) := by decide +kernel
theorem dX14_member_133 : decode cX14_member 133 = .ok (.iload 4, 2) := by decide +kernel
theorem dX14_member_135 : decode cX14_member 135 = .ok (.iaload, 1) := by decide +kernel
theorem dX14_member_136 : decode cX14_member 136 = .ok (.invokevirtual 401, 3) := by decide +kernel
theorem dX14_member_139 : decode cX14_member 139 = .ok (.ifCond .eq 37, 3) := by decide +kernel
theorem dX14_member_142 : decode cX14_member 142 = .ok (.aload_n 0, 1) := by decide +kernel
theorem dX14_member_143 : decode cX14_member 143 = .ok (.aload_n 0, 1) := by decide +kernel
theorem dX14_member_144 : decode cX14_member 144 = .ok (.aload_n 0, 1) := by decide +kernel
theorem dX14_member_145 : decode cX14_member 145 = .ok (.getfield 47, 3) := by decide +kernel
theorem dX14_member_148 : decode cX14_member 148 = .ok (.iload 8, 2) := by decide +kernel
theorem dX14_member_150 : decode cX14_member 150 = .ok (.iaload, 1) := by decide +kernel
theorem dX14_member_151 : decode cX14_member 151 = .ok (.iconst 4, 1) := by decide +kernel
theorem dX14_member_152 : decode cX14_member 152 = .ok (.iadd, 1) := by decide +kernel
theorem dX14_member_153 : decode cX14_member 153 = .ok (.invokevirtual 316, 3) := by decide +kernel
theorem dX14_member_156 : decode cX14_member 156 = .ok (.aload_n 0, 1) := by decide +kernel
theorem dX14_member_157 : decode cX14_member 157 = .ok (.getfield 40, 3) := by decide +kernel
theorem dX14_member_160 : decode cX14_member 160 = .ok (.iload 4, 2) := by decide +kernel
theorem dX14_member_162 : decode cX14_member 162 = .ok (.iaload, 1) := by decide +kernel
theorem dX14_member_163 : decode cX14_member 163 = .ok (.invokevirtual 401, 3) := by decide +kernel
theorem dX14_member_166 : decode cX14_member 166 = .ok (.ifCond .eq 10, 3) := by decide +kernel
theorem dX14_member_169 : decode cX14_member 169 = .ok (.iload 8, 2) := by decide +kernel
theorem dX14_member_171 : decode cX14_member 171 = .ok (.iload 5, 2) := by decide +kernel
theorem dX14_member_173 : decode cX14_member 173 = .ok (.isub, 1) := by decide +kernel
theorem dX14_member_174 : decode cX14_member 174 = .ok (.istore 7, 2) := by decide +kernel
theorem dX14_member_176 : decode cX14_member 176 = .ok (.iinc 8 1, 3) := by decide +kernel
theorem dX14_member_179 : decode cX14_member 179 = .ok (.goto (-71), 3) := by decide +kernel
theorem dX14_member_182 : decode cX14_member 182 = .ok (.aload_n 0, 1) := by decide +kernel
theorem dX14_member_183 : decode cX14_member 183 = .ok (.iload 7, 2) := by decide +kernel
theorem dX14_member_185 : decode cX14_member 185 = .ok (.ifCond .lt 7, 3) := by decide +kernel
theorem dX14_member_188 : decode cX14_member 188 = .ok (.iconst 1, 1) := by decide +kernel
theorem dX14_member_189 : decode cX14_member 189 = .ok (.goto 4, 3) := by decide +kernel
theorem dX14_member_192 : decode cX14_member 192 = .ok (.iconst 0, 1) := by decide +kernel
theorem dX14_member_193 : decode cX14_member 193 = .ok (.iload_n 1, 1) := by decide +kernel
theorem dX14_member_194 : decode cX14_member 194 = .ok (.invokevirtual 465, 3) := by decide +kernel
theorem dX14_member_197 : decode cX14_member 197 = .ok (.iload 7, 2) := by decide +kernel
theorem dX14_member_199 : decode cX14_member 199 = .ok (.ireturn, 1) := by decide +kernel
theorem dX14_memberNumber_0 : decode cX14_memberNumber 0 = .ok (.aload_n 0, 1) := by decide +kernel
theorem dX14_memberNumber_1 : decode cX14_memberNumber 1 = .ok (.aload_n 0, 1) := by decide +kernel
theorem dX14_memberNumber_2 : decode cX14_memberNumber 2 = .ok (.getfield 665, 3) := by decide +kernel
theorem dX14_memberNumber_5 : decode cX14_memberNumber 5 = .ok (.getfield 585, 3) := by decide +kernel
theorem dX14_memberNumber_8 : decode cX14_memberNumber 8 = .ok (.invokevirtual 880, 3) := by decide +kernel
theorem dX14_memberNumber_11 : decode cX14_memberNumber 11 = .ok (.istore 4, 2) := by decide +kernel
theorem dX14_memberNumber_13 : decode cX14_memberNumber 13 = .ok (.aload_n 0, 1) := by decide +kernel
theorem dX14_memberNumber_14 : decode cX14_memberNumber 14 = .ok (.aload_n 2, 1) := by decide +kernel
theorem dX14_memberNumber_15 : decode cX14_memberNumber 15 = .ok (.invokevirtual 877, 3) := by decide +kernel
theorem dX14_memberNumber_18 : decode cX14_memberNumber 18 = .ok (.istore 5, 2) := by decide +kernel
theorem dX14_memberNumber_20 : decode cX14_memberNumber 20 = .ok (.aload_n 0, 1) := by decide +kernel
theorem dX14_memberNumber_21 : decode cX14_memberNumber 21 = .ok (.aload_n 3, 1) := by decide +kernel
theorem dX14_memberNumber_22 : decode cX14_memberNumber 22 = .ok (.invokevirtual 877, 3) := by decide +kernel
theorem dX14_memberNumber_25 : decode cX14_memberNumber 25 = .ok (.istore 6, 2) := by decide +kernel
theorem dX14_memberNumber_27 : decode cX14_memberNumber 27 = .ok (.aload_n 0, 1) := by decide +kernel
theorem dX14_memberNumber_28 : decode cX14_memberNumber 28 = .ok (.iload_n 1, 1) := by decide +kernel
theorem dX14_memberNumber_29 : decode cX14_memberNumber 29 = .ok (.iload 4, 2) := by decide +kernel
theorem dX14_memberNumber_31 : decode cX14_memberNumber 31 = .ok (.aload_n 0, 1) := by decide +kernel
theorem dX14_memberNumber_32 : decode cX14_memberNumber 32 = .ok (.bipush 12, 2) := by decide +kernel
theorem dX14_memberNumber_34 : decode cX14_memberNumber 34 = .ok (.iload 5, 2) := by decide +kernel
theorem dX14_memberNumber_36 : decode cX14_memberNumber 36 = .ok (.iload 6, 2) := by decide +kernel
theorem dX14_memberNumber_38 : decode cX14_memberNumber 38 = .ok (.lconst 0, 1) := by decide +kernel
theorem dX14_memberNumber_39 : decode cX14_memberNumber 39 = .ok (.ldc_w 721, 3) := by decide +kernel
theorem dX14_memberNumber_42 : decode cX14_memberNumber 42 = .ok (.invokevirtual 873, 3) := by decide +kernel
theorem dX14_memberNumber_45 : decode cX14_memberNumber 45 = .ok (.lconst 0, 1) := by decide +kernel
theorem dX14_memberNumber_46 : decode cX14_memberNumber 46 = .ok (.ldc_w 721, 3) := by decide +kernel
theorem dX14_memberNumber_49 : decode cX14_memberNumber 49 = .ok (.invokevirtual 873, 3) := by decide +kernel
theorem dX14_memberNumber_52 : decode cX14_memberNumber 52 = .ok (.ireturn, 1) := by decide +kernel
theorem dX14_members_0 : decode cX14_members 0 = .ok (.aload_n 0, 1) := by decide +kernel
theorem dX14_members_1 : decode cX14_members 1 = .ok (.ldc2_w 332, 3) := by decide +kernel
theorem dX14_members_4 : decode cX14_members 4 = .ok (.invokevirtual 334, 3) := by decide +kernel
theorem dX14_members_7 : decode cX14_members 7 = .ok (.istore_n 1, 1) := by decide +kernel
theorem dX14_members_8 : decode cX14_members 8 = .ok (.aload_n 0, 1) := by decide +kernel
theorem dX14_members_9 : decode cX14_members 9 = .ok (.iload_n 1, 1) := by decide +kernel
theorem dX14_members_10 : decode cX14_members 10 = .ok (.invokevirtual 316, 3) := by decide +kernel
theorem dX14_members_13 : decode cX14_members 13 = .ok (.istore_n 2, 1) := by decide +kernel
theorem dX14_members_14 : decode cX14_members 14 = .ok (.aload_n 0, 1) := by decide +kernel
theorem dX14_members_15 : decode cX14_members 15 = .ok (.iload_n 2, 1) := by decide +kernel
theorem dX14_members_16 : decode cX14_members 16 = .ok (.bipush 24, 2) := by decide +kernel
theorem dX14_members_18 : decode cX14_members 18 = .ok (.if_icmp .gt 7, 3) := by decide +kernel
theorem dX14_members_21 : decode cX14_members 21 = .ok (.iconst 1, 1) := by decide +kernel
theorem dX14_members_22 : decode cX14_members 22 = .ok (.goto 4, 3) := by decide +kernel
theorem dX14_members_25 : decode cX14_members 25 = .ok (.iconst 0, 1) := by decide +kernel
theorem dX14_members_26 : decode cX14_members 26 = .ok (.iconst 5, 1) := by decide +kernel
theorem dX14_members_27 : decode cX14_members 27 = .ok (.iload_n 1, 1) := by decide +kernel
theorem dX14_members_28 : decode cX14_members 28 = .ok (.invokevirtual 325, 3) := by decide +kernel
theorem dX14_members_31 : decode cX14_members 31 = .ok (.iconst 0, 1) := by decide +kernel
theorem dX14_members_32 : decode cX14_members 32 = .ok (.istore_n 3, 1) := by decide +kernel
theorem dX14_members_33 : decode cX14_members 33 = .ok (.iload_n 3, 1) := by decide +kernel
theorem dX14_members_34 : decode cX14_members 34 = .ok (.iload_n 2, 1) := by decide +kernel
theorem dX14_members_35 : decode cX14_members 35 = .ok (.if_icmp .ge 51, 3) := by decide +kernel
theorem dX14_members_38 : decode cX14_members 38 = .ok (.aload_n 0, 1) := by decide +kernel
theorem dX14_members_39 : decode cX14_members 39 = .ok (.getfield 47, 3) := by decide +kernel
theorem dX14_members_42 : decode cX14_members 42 = .ok (.aload_n 0, 1) := by decide +kernel
theorem dX14_members_43 : decode cX14_members 43 = .ok (.getfield 349, 3) := by decide +kernel
theorem dX14_members_46 : decode cX14_members 46 = .ok (.aload_n 0, 1) := by decide +kernel
theorem dX14_members_47 : decode cX14_members 47 = .ok (.ldc2_w 332, 3) := by decide +kernel
theorem dX14_members_50 : decode cX14_members 50 = .ok (.invokevirtual 334, 3) := by decide +kernel
theorem dX14_members_53 : decode cX14_members 53 = .ok (.iastore, 1) := by decide +kernel
theorem dX14_members_54 : decode cX14_members 54 = .ok (.aload_n 0, 1) := by decide +kernel
theorem dX14_members_55 : decode cX14_members 55 = .ok (.ldc2_w 371, 3) := by decide +kernel
theorem dX14_members_58 : decode cX14_members 58 = .ok (.invokevirtual 334, 3) := by decide +kernel
theorem dX14_members_61 : decode cX14_members 61 = .ok (.pop, 1) := by decide +kernel
theorem dX14_members_62 : decode cX14_members 62 = .ok (.aload_n 0, 1) := by decide +kernel
theorem dX14_members_63 : decode cX14_members 63 = .ok (.aload_n 0, 1) := by decide +kernel
theorem dX14_members_64 : decode cX14_members 64 = .ok (.getfield 349, 3) := by decide +kernel
theorem dX14_members_67 : decode cX14_members 67 = .ok (.invokevirtual 361, 3) := by decide +kernel
theorem dX14_members_70 : decode cX14_members 70 = .ok (.aload_n 0, 1) := by decide +kernel
theorem dX14_members_71 : decode cX14_members 71 = .ok (.dup, 1) := by decide +kernel
theorem dX14_members_72 : decode cX14_members 72 = .ok (.getfield 349, 3) := by decide +kernel
theorem dX14_members_75 : decode cX14_members 75 = .ok (.iconst 1, 1) := by decide +kernel
theorem dX14_members_76 : decode cX14_members 76 = .ok (.iadd, 1) := by decide +kernel
theorem dX14_members_77 : decode cX14_members 77 = .ok (.putfield 349, 3) := by decide +kernel
theorem dX14_members_80 : decode cX14_members 80 = .ok (.iinc 3 1, 3) := by decide +kernel
theorem dX14_members_83 : decode cX14_members 83 = .ok (.goto (-50), 3) := by decide +kernel
theorem dX14_members_86 : decode cX14_members 86 = .ok (.return_, 1) := by decide +kernel
theorem dX14_method_0 : decode cX14_method 0 = .ok (.aload_n 0, 1) := by decide +kernel
theorem dX14_method_1 : decode cX14_method 1 = .ok (.getfield 105, 3) := by decide +kernel
theorem dX14_method_4 : decode cX14_method 4 = .ok (.ireturn, 1) := by decide +kernel
theorem dX14_move_0 : decode cX14_move 0 = .ok (.aload_n 0, 1) := by decide +kernel
theorem dX14_move_1 : decode cX14_move 1 = .ok (.invokevirtual 786, 3) := by decide +kernel
theorem dX14_move_4 : decode cX14_move 4 = .ok (.istore_n 2, 1) := by decide +kernel
theorem dX14_move_5 : decode cX14_move 5 = .ok (.iload_n 1, 1) := by decide +kernel
theorem dX14_move_6 : decode cX14_move 6 = .ok (.invokestatic 725, 3) := by decide +kernel
theorem dX14_move_9 : decode cX14_move 9 = .ok (.iconst 2, 1) := by decide +kernel
theorem dX14_move_10 : decode cX14_move 10 = .ok (.if_icmp .ne 10, 3) := by decide +kernel
theorem dX14_move_13 : decode cX14_move 13 = .ok (.aload_n 0, 1) := by decide +kernel
theorem dX14_move_14 : decode cX14_move 14 = .ok (.invokevirtual 786, 3) := by decide +kernel
theorem dX14_move_17 : decode cX14_move 17 = .ok (.goto 4, 3) := by decide +kernel
theorem dX14_move_20 : decode cX14_move 20 = .ok (.iconst 1, 1) := by decide +kernel
theorem dX14_move_21 : decode cX14_move 21 = .ok (.istore_n 3, 1) := by decide +kernel
theorem dX14_move_22 : decode cX14_move 22 = .ok (.iload_n 1, 1) := by decide +kernel
theorem dX14_move_23 : decode cX14_move 23 = .ok (.bipush 88, 2) := by decide +kernel
theorem dX14_move_25 : decode cX14_move 25 = .ok (.if_icmp .eq 9, 3) := by decide +kernel
theorem dX14_move_28 : decode cX14_move 28 = .ok (.iload_n 1, 1) := by decide +kernel
theorem dX14_move_29 : decode cX14_move 29 = .ok (.bipush 92, 2) := by decide +kernel
theorem dX14_move_31 : decode cX14_move 31 = .ok (.if_icmp .ne 17, 3) := by decide +kernel
theorem dX14_move_34 : decode cX14_move 34 = .ok (.iload_n 3, 1) := by decide +kernel
theorem dX14_move_35 : decode cX14_move 35 = .ok (.iconst 2, 1) := by decide +kernel
theorem dX14_move_36 : decode cX14_move 36 = .ok (.if_icmp .ne 12, 3) := by decide +kernel
theorem dX14_move_39 : decode cX14_move 39 = .ok (.iload_n 2, 1) := by decide +kernel
theorem dX14_move_40 : decode cX14_move 40 = .ok (.iconst 3, 1) := by decide +kernel
theorem dX14_move_41 : decode cX14_move 41 = .ok (.if_icmp .ne 7, 3) := by decide +kernel
theorem dX14_move_44 : decode cX14_move 44 = .ok (.iconst 1, 1) := by decide +kernel
theorem dX14_move_45 : decode cX14_move 45 = .ok (.goto 4, 3) := by decide +kernel
theorem dX14_move_48 : decode cX14_move 48 = .ok (.iconst 0, 1) := by decide +kernel
theorem dX14_move_49 : decode cX14_move 49 = .ok (.istore 4, 2) := by decide +kernel
theorem dX14_move_51 : decode cX14_move 51 = .ok (.aload_n 0, 1) := by decide +kernel
theorem dX14_move_52 : decode cX14_move 52 = .ok (.iload 4, 2) := by decide +kernel
theorem dX14_move_54 : decode cX14_move 54 = .ok (.ifCond .ne 17, 3) := by decide +kernel
theorem dX14_move_57 : decode cX14_move 57 = .ok (.iload_n 3, 1) := by decide +kernel
theorem dX14_move_58 : decode cX14_move 58 = .ok (.invokestatic 817, 3) := by decide +kernel
theorem dX14_move_61 : decode cX14_move 61 = .ok (.ifCond .eq 14, 3) := by decide +kernel
theorem dX14_move_64 : decode cX14_move 64 = .ok (.iload_n 2, 1) := by decide +kernel
theorem dX14_move_65 : decode cX14_move 65 = .ok (.invokestatic 817, 3) := by decide +kernel
theorem dX14_move_68 : decode cX14_move 68 = .ok (.ifCond .eq 7, 3) := by decide +kernel
theorem dX14_move_71 : decode cX14_move 71 = .ok (.iconst 1, 1) := by decide +kernel
theorem dX14_move_72 : decode cX14_move 72 = .ok (.goto 4, 3) := by decide +kernel
theorem dX14_move_75 : decode cX14_move 75 = .ok (.iconst 0, 1) := by decide +kernel
theorem dX14_move_76 : decode cX14_move 76 = .ok (.invokevirtual 789, 3) := by decide +kernel
theorem dX14_move_79 : decode cX14_move 79 = .ok (.iload 4, 2) := by decide +kernel
theorem dX14_move_81 : decode cX14_move 81 = .ok (.ifCond .ne 12, 3) := by decide +kernel
theorem dX14_move_84 : decode cX14_move 84 = .ok (.iload_n 3, 1) := by decide +kernel
theorem dX14_move_85 : decode cX14_move 85 = .ok (.invokestatic 817, 3) := by decide +kernel
theorem dX14_move_88 : decode cX14_move 88 = .ok (.ifCond .ne 5, 3) := by decide +kernel
theorem dX14_move_91 : decode cX14_move 91 = .ok (.iconst 0, 1) := by decide +kernel
theorem dX14_move_92 : decode cX14_move 92 = .ok (.istore_n 3, 1) := by decide +kernel
theorem dX14_move_93 : decode cX14_move 93 = .ok (.iload 4, 2) := by decide +kernel
theorem dX14_move_95 : decode cX14_move 95 = .ok (.ifCond .ne 12, 3) := by decide +kernel
theorem dX14_move_98 : decode cX14_move 98 = .ok (.iload_n 2, 1) := by decide +kernel
theorem dX14_move_99 : decode cX14_move 99 = .ok (.invokestatic 817, 3) := by decide +kernel
theorem dX14_move_102 : decode cX14_move 102 = .ok (.ifCond .ne 5, 3) := by decide +kernel
theorem dX14_move_105 : decode cX14_move 105 = .ok (.iconst 0, 1) := by decide +kernel
theorem dX14_move_106 : decode cX14_move 106 = .ok (.istore_n 2, 1) := by decide +kernel
theorem dX14_move_107 : decode cX14_move 107 = .ok (.iload_n 1, 1) := by decide +kernel
theorem dX14_move_108 : decode cX14_move 108 = .ok (.bipush 87, 2) := by decide +kernel
theorem dX14_move_110 : decode cX14_move 110 = .ok (.if_icmp .eq 9, 3) := by decide +kernel
theorem dX14_move_113 : decode cX14_move 113 = .ok (.iload_n 1, 1) := by decide +kernel
theorem dX14_move_114 : decode cX14_move 114 = .ok (.bipush 88, 2) := by decide +kernel
theorem dX14_move_116 : decode cX14_move 116 = .ok (.if_icmp .ne 4, 3) := by decide +kernel
theorem dX14_move_119 : decode cX14_move 119 = .ok (.return_, 1) := by decide +kernel
theorem dX14_move_120 : decode cX14_move 120 = .ok (.iload_n 1, 1) := by decide +kernel
theorem dX14_move_121 : decode cX14_move 121 = .ok (.bipush 90, 2) := by decide +kernel
theorem dX14_move_123 : decode cX14_move 123 = .ok (.if_icmp .eq 9, 3) := by decide +kernel
theorem dX14_move_126 : decode cX14_move 126 = .ok (.iload_n 1, 1) := by decide +kernel
theorem dX14_move_127 : decode cX14_move 127 = .ok (.bipush 95, 2) := by decide +kernel
theorem dX14_move_129 : decode cX14_move 129 = .ok (.if_icmp .ne 8, 3) := by decide +kernel
theorem dX14_move_132 : decode cX14_move 132 = .ok (.aload_n 0, 1) := by decide +kernel
theorem dX14_move_133 : decode cX14_move 133 = .ok (.iload_n 2, 1) := by decide +kernel
theorem dX14_move_134 : decode cX14_move 134 = .ok (.invokevirtual 793, 3) := by decide +kernel
theorem dX14_move_137 : decode cX14_move 137 = .ok (.iload_n 1, 1) := by decide +kernel
theorem dX14_move_138 : decode cX14_move 138 = .ok (.bipush 92, 2) := by decide +kernel
theorem dX14_move_140 : decode cX14_move 140 = .ok (.if_icmp .eq 15, 3) := by decide +kernel
theorem dX14_move_143 : decode cX14_move 143 = .ok (.iload_n 1, 1) := by decide +kernel
theorem dX14_move_144 : decode cX14_move 144 = .ok (.bipush 90, 2) := by decide +kernel
theorem dX14_move_146 : decode cX14_move 146 = .ok (.if_icmp .eq 9, 3) := by decide +kernel
theorem dX14_move_149 : decode cX14_move 149 = .ok (.iload_n 1, 1) := by decide +kernel
theorem dX14_move_150 : decode cX14_move 150 = .ok (.bipush 95, 2) := by decide +kernel
theorem dX14_move_152 : decode cX14_move 152 = .ok (.if_icmp .ne 8, 3) := by decide +kernel
theorem dX14_move_155 : decode cX14_move 155 = .ok (.aload_n 0, 1) := by decide +kernel
theorem dX14_move_156 : decode cX14_move 156 = .ok (.iload_n 3, 1) := by decide +kernel
theorem dX14_move_157 : decode cX14_move 157 = .ok (.invokevirtual 793, 3) := by decide +kernel
theorem dX14_move_160 : decode cX14_move 160 = .ok (.iload_n 1, 1) := by decide +kernel
theorem dX14_move_161 : decode cX14_move 161 = .ok (.bipush 95, 2) := by decide +kernel
theorem dX14_move_163 : decode cX14_move 163 = .ok (.if_icmp .eq 8, 3) := by decide +kernel
theorem dX14_move_166 : decode cX14_move 166 = .ok (.aload_n 0, 1) := by decide +kernel
theorem dX14_move_167 : decode cX14_move 167 = .ok (.iload_n 2, 1) := by decide +kernel
theorem dX14_move_168 : decode cX14_move 168 = .ok (.invokevirtual 793, 3) := by decide +kernel
theorem dX14_move_171 : decode cX14_move 171 = .ok (.iload_n 1, 1) := by decide +kernel
theorem dX14_move_172 : decode cX14_move 172 = .ok (.bipush 92, 2) := by decide +kernel
theorem dX14_move_174 : decode cX14_move 174 = .ok (.if_icmp .ne 8, 3) := by decide +kernel
theorem dX14_move_177 : decode cX14_move 177 = .ok (.aload_n 0, 1) := by decide +kernel
theorem dX14_move_178 : decode cX14_move 178 = .ok (.iload_n 3, 1) := by decide +kernel
theorem dX14_move_179 : decode cX14_move 179 = .ok (.invokevirtual 793, 3) := by decide +kernel
theorem dX14_move_182 : decode cX14_move 182 = .ok (.iload_n 1, 1) := by decide +kernel
theorem dX14_move_183 : decode cX14_move 183 = .ok (.bipush 92, 2) := by decide +kernel
theorem dX14_move_185 : decode cX14_move 185 = .ok (.if_icmp .eq 9, 3) := by decide +kernel
theorem dX14_move_188 : decode cX14_move 188 = .ok (.iload_n 1, 1) := by decide +kernel
theorem dX14_move_189 : decode cX14_move 189 = .ok (.bipush 89, 2) := by decide +kernel
theorem dX14_move_191 : decode cX14_move 191 = .ok (.if_icmp .ne 8, 3) := by decide +kernel
theorem dX14_move_194 : decode cX14_move 194 = .ok (.aload_n 0, 1) := by decide +kernel
theorem dX14_move_195 : decode cX14_move 195 = .ok (.iload_n 2, 1) := by decide +kernel
theorem dX14_move_196 : decode cX14_move 196 = .ok (.invokevirtual 793, 3) := by decide +kernel
theorem dX14_move_199 : decode cX14_move 199 = .ok (.return_, 1) := by decide +kernel
theorem dX14_moved_0 : decode cX14_moved 0 = .ok (.iload_n 0, 1) := by decide +kernel
theorem dX14_moved_1 : decode cX14_moved 1 = .ok (.bipush 87, 2) := by decide +kernel
theorem dX14_moved_3 : decode cX14_moved 3 = .ok (.if_icmp .eq 9, 3) := by decide +kernel
theorem dX14_moved_6 : decode cX14_moved 6 = .ok (.iload_n 0, 1) := by decide +kernel
theorem dX14_moved_7 : decode cX14_moved 7 = .ok (.bipush 89, 2) := by decide +kernel
theorem dX14_moved_9 : decode cX14_moved 9 = .ok (.if_icmp .ne 7, 3) := by decide +kernel
theorem dX14_moved_12 : decode cX14_moved 12 = .ok (.iconst 1, 1) := by decide +kernel
theorem dX14_moved_13 : decode cX14_moved 13 = .ok (.goto 32, 3) := by decide +kernel
theorem dX14_moved_16 : decode cX14_moved 16 = .ok (.iload_n 0, 1) := by decide +kernel
theorem dX14_moved_17 : decode cX14_moved 17 = .ok (.bipush 88, 2) := by decide +kernel
theorem dX14_moved_19 : decode cX14_moved 19 = .ok (.if_icmp .eq 21, 3) := by decide +kernel
theorem dX14_moved_22 : decode cX14_moved 22 = .ok (.iload_n 0, 1) := by decide +kernel
theorem dX14_moved_23 : decode cX14_moved 23 = .ok (.bipush 90, 2) := by decide +kernel
theorem dX14_moved_25 : decode cX14_moved 25 = .ok (.if_icmp .eq 15, 3) := by decide +kernel
theorem dX14_moved_28 : decode cX14_moved 28 = .ok (.iload_n 0, 1) := by decide +kernel
theorem dX14_moved_29 : decode cX14_moved 29 = .ok (.bipush 92, 2) := by decide +kernel
theorem dX14_moved_31 : decode cX14_moved 31 = .ok (.if_icmp .eq 9, 3) := by decide +kernel
theorem dX14_moved_34 : decode cX14_moved 34 = .ok (.iload_n 0, 1) := by decide +kernel
theorem dX14_moved_35 : decode cX14_moved 35 = .ok (.bipush 95, 2) := by decide +kernel
theorem dX14_moved_37 : decode cX14_moved 37 = .ok (.if_icmp .ne 7, 3) := by decide +kernel
theorem dX14_moved_40 : decode cX14_moved 40 = .ok (.iconst 2, 1) := by decide +kernel
theorem dX14_moved_41 : decode cX14_moved 41 = .ok (.goto 4, 3) := by decide +kernel
theorem dX14_moved_44 : decode cX14_moved 44 = .ok (.iconst 0, 1) := by decide +kernel
theorem dX14_moved_45 : decode cX14_moved 45 = .ok (.ireturn, 1) := by decide +kernel
theorem dX14_must_0 : decode cX14_must 0 = .ok (.iload_n 1, 1) := by decide +kernel
theorem dX14_must_1 : decode cX14_must 1 = .ok (.ifCond .ne 10, 3) := by decide +kernel
theorem dX14_must_4 : decode cX14_must 4 = .ok (.aload_n 0, 1) := by decide +kernel
theorem dX14_must_5 : decode cX14_must 5 = .ok (.iload_n 2, 1) := by decide +kernel
theorem dX14_must_6 : decode cX14_must 6 = .ok (.iload_n 3, 1) := by decide +kernel
theorem dX14_must_7 : decode cX14_must 7 = .ok (.invokevirtual 302, 3) := by decide +kernel
theorem dX14_must_10 : decode cX14_must 10 = .ok (.athrow, 1) := by decide +kernel
theorem dX14_must_11 : decode cX14_must 11 = .ok (.return_, 1) := by decide +kernel
theorem dX14_mustName_0 : decode cX14_mustName 0 = .ok (.aload_n 0, 1) := by decide +kernel
theorem dX14_mustName_1 : decode cX14_mustName 1 = .ok (.aload_n 0, 1) := by decide +kernel
theorem dX14_mustName_2 : decode cX14_mustName 2 = .ok (.aload_n 0, 1) := by decide +kernel
theorem dX14_mustName_3 : decode cX14_mustName 3 = .ok (.iload_n 1, 1) := by decide +kernel
theorem dX14_mustName_4 : decode cX14_mustName 4 = .ok (.invokevirtual 316, 3) := by decide +kernel
theorem dX14_mustName_7 : decode cX14_mustName 7 = .ok (.iconst 1, 1) := by decide +kernel
theorem dX14_mustName_8 : decode cX14_mustName 8 = .ok (.invokevirtual 380, 3) := by decide +kernel
theorem dX14_mustName_11 : decode cX14_mustName 11 = .ok (.bipush 9, 2) := by decide +kernel
theorem dX14_mustName_13 : decode cX14_mustName 13 = .ok (.iload_n 1, 1) := by decide +kernel
theorem dX14_mustName_14 : decode cX14_mustName 14 = .ok (.invokevirtual 325, 3) := by decide +kernel
theorem dX14_mustName_17 : decode cX14_mustName 17 = .ok (.return_, 1) := by decide +kernel
theorem dX14_nameEntry_0 : decode cX14_nameEntry 0 = .ok (.aload_n 0, 1) := by decide +kernel
theorem dX14_nameEntry_1 : decode cX14_nameEntry 1 = .ok (.aload_n 0, 1) := by decide +kernel
theorem dX14_nameEntry_2 : decode cX14_nameEntry 2 = .ok (.ldc2_w 332, 3) := by decide +kernel
theorem dX14_nameEntry_5 : decode cX14_nameEntry 5 = .ok (.invokevirtual 334, 3) := by decide +kernel
theorem dX14_nameEntry_8 : decode cX14_nameEntry 8 = .ok (.invokevirtual 316, 3) := by decide +kernel
theorem dX14_nameEntry_11 : decode cX14_nameEntry 11 = .ok (.istore_n 3, 1) := by decide +kernel
theorem dX14_nameEntry_12 : decode cX14_nameEntry 12 = .ok (.aload_n 0, 1) := by decide +kernel
theorem dX14_nameEntry_13 : decode cX14_nameEntry 13 = .ok (.iload_n 3, 1) := by decide +kernel
theorem dX14_nameEntry_14 : decode cX14_nameEntry 14 = .ok (.iconst 1, 1) := by decide +kernel
theorem dX14_nameEntry_15 : decode cX14_nameEntry 15 = .ok (.if_icmp .lt 13, 3) := by decide +kernel
theorem dX14_nameEntry_18 : decode cX14_nameEntry 18 = .ok (.iload_n 3, 1) := by decide +kernel
theorem dX14_nameEntry_19 : decode cX14_nameEntry 19 = .ok (.bipush 100, 2) := by decide +kernel
theorem dX14_nameEntry_21 : decode cX14_nameEntry 21 = .ok (.if_icmp .gt 7, 3) := by decide +kernel
theorem dX14_nameEntry_24 : decode cX14_nameEntry 24 = .ok (.iconst 1, 1) := by decide +kernel
theorem dX14_nameEntry_25 : decode cX14_nameEntry 25 = .ok (.goto 4, 3) := by decide +kernel
theorem dX14_nameEntry_28 : decode cX14_nameEntry 28 = .ok (.iconst 0, 1) := by decide +kernel
theorem dX14_nameEntry_29 : decode cX14_nameEntry 29 = .ok (.iconst 4, 1) := by decide +kernel
theorem dX14_nameEntry_30 : decode cX14_nameEntry 30 = .ok (.iload_n 2, 1) := by decide +kernel
theorem dX14_nameEntry_31 : decode cX14_nameEntry 31 = .ok (.invokevirtual 325, 3) := by decide +kernel
theorem dX14_nameEntry_34 : decode cX14_nameEntry 34 = .ok (.aload_n 0, 1) := by decide +kernel
theorem dX14_nameEntry_35 : decode cX14_nameEntry 35 = .ok (.getfield 37, 3) := by decide +kernel
theorem dX14_nameEntry_38 : decode cX14_nameEntry 38 = .ok (.iload_n 1, 1) := by decide +kernel
theorem dX14_nameEntry_39 : decode cX14_nameEntry 39 = .ok (.aload_n 0, 1) := by decide +kernel
theorem dX14_nameEntry_40 : decode cX14_nameEntry 40 = .ok (.getfield 319, 3) := by decide +kernel
theorem dX14_nameEntry_43 : decode cX14_nameEntry 43 = .ok (.iastore, 1) := by decide +kernel
theorem dX14_nameEntry_44 : decode cX14_nameEntry 44 = .ok (.aload_n 0, 1) := by decide +kernel
theorem dX14_nameEntry_45 : decode cX14_nameEntry 45 = .ok (.getfield 40, 3) := by decide +kernel
theorem dX14_nameEntry_48 : decode cX14_nameEntry 48 = .ok (.iload_n 1, 1) := by decide +kernel
theorem dX14_nameEntry_49 : decode cX14_nameEntry 49 = .ok (.iload_n 3, 1) := by decide +kernel
theorem dX14_nameEntry_50 : decode cX14_nameEntry 50 = .ok (.iastore, 1) := by decide +kernel
theorem dX14_nameEntry_51 : decode cX14_nameEntry 51 = .ok (.iconst 0, 1) := by decide +kernel
theorem dX14_nameEntry_52 : decode cX14_nameEntry 52 = .ok (.istore 4, 2) := by decide +kernel
theorem dX14_nameEntry_54 : decode cX14_nameEntry 54 = .ok (.iload 4, 2) := by decide +kernel
theorem dX14_nameEntry_56 : decode cX14_nameEntry 56 = .ok (.iload_n 3, 1) := by decide +kernel
theorem dX14_nameEntry_57 : decode cX14_nameEntry 57 = .ok (.if_icmp .ge 51, 3) := by decide +kernel
theorem dX14_nameEntry_60 : decode cX14_nameEntry 60 = .ok (.aload_n 0, 1) := by decide +kernel
theorem dX14_nameEntry_61 : decode cX14_nameEntry 61 = .ok (.lconst 1, 1) := by decide +kernel
theorem dX14_nameEntry_62 : decode cX14_nameEntry 62 = .ok (.invokevirtual 334, 3) := by decide +kernel
theorem dX14_nameEntry_65 : decode cX14_nameEntry 65 = .ok (.istore 5, 2) := by decide +kernel
theorem dX14_nameEntry_67 : decode cX14_nameEntry 67 = .ok (.aload_n 0, 1) := by decide +kernel
theorem dX14_nameEntry_68 : decode cX14_nameEntry 68 = .ok (.aload_n 0, 1) := by decide +kernel
theorem dX14_nameEntry_69 : decode cX14_nameEntry 69 = .ok (.getfield 309, 3) := by decide +kernel
theorem dX14_nameEntry_72 : decode cX14_nameEntry 72 = .ok (.iload 5, 2) := by decide +kernel
theorem dX14_nameEntry_74 : decode cX14_nameEntry 74 = .ok (.baload, 1) := by decide +kernel
theorem dX14_nameEntry_75 : decode cX14_nameEntry 75 = .ok (.bipush 33, 2) := by decide +kernel
theorem dX14_nameEntry_77 : decode cX14_nameEntry 77 = .ok (.if_icmp .lt 19, 3) := by decide +kernel
theorem dX14_nameEntry_80 : decode cX14_nameEntry 80 = .ok (.aload_n 0, 1) := by decide +kernel
theorem dX14_nameEntry_81 : decode cX14_nameEntry 81 = .ok (.getfield 309, 3) := by decide +kernel
theorem dX14_nameEntry_84 : decode cX14_nameEntry 84 = .ok (.iload 5, 2) := by decide +kernel
theorem dX14_nameEntry_86 : decode cX14_nameEntry 86 = .ok (.baload, 1) := by decide +kernel
theorem dX14_nameEntry_87 : decode cX14_nameEntry 87 = .ok (.bipush 126, 2) := by decide +kernel
theorem dX14_nameEntry_89 : decode cX14_nameEntry 89 = .ok (.if_icmp .gt 7, 3) := by decide +kernel
theorem dX14_nameEntry_92 : decode cX14_nameEntry 92 = .ok (.iconst 1, 1) := by decide +kernel
theorem dX14_nameEntry_93 : decode cX14_nameEntry 93 = .ok (.goto 4, 3) := by decide +kernel
theorem dX14_nameEntry_96 : decode cX14_nameEntry 96 = .ok (.iconst 0, 1) := by decide +kernel
theorem dX14_nameEntry_97 : decode cX14_nameEntry 97 = .ok (.iconst 4, 1) := by decide +kernel
theorem dX14_nameEntry_98 : decode cX14_nameEntry 98 = .ok (.iload_n 2, 1) := by decide +kernel
theorem dX14_nameEntry_99 : decode cX14_nameEntry 99 = .ok (.invokevirtual 325, 3) := by decide +kernel
theorem dX14_nameEntry_102 : decode cX14_nameEntry 102 = .ok (.iinc 4 1, 3) := by decide +kernel
theorem dX14_nameEntry_105 : decode cX14_nameEntry 105 = .ok (.goto (-51), 3) := by decide +kernel
theorem dX14_nameEntry_108 : decode cX14_nameEntry 108 = .ok (.return_, 1) := by decide +kernel
theorem dX14_nameNumber_0 : decode cX14_nameNumber 0 = .ok (.aload_n 0, 1) := by decide +kernel
theorem dX14_nameNumber_1 : decode cX14_nameNumber 1 = .ok (.iconst 1, 1) := by decide +kernel
theorem dX14_nameNumber_2 : decode cX14_nameNumber 2 = .ok (.iconst 0, 1) := by decide +kernel
theorem dX14_nameNumber_3 : decode cX14_nameNumber 3 = .ok (.iconst 0, 1) := by decide +kernel
theorem dX14_nameNumber_4 : decode cX14_nameNumber 4 = .ok (.lconst 0, 1) := by decide +kernel
theorem dX14_nameNumber_5 : decode cX14_nameNumber 5 = .ok (.aload_n 1, 1) := by decide +kernel
theorem dX14_nameNumber_6 : decode cX14_nameNumber 6 = .ok (.invokevirtual 873, 3) := by decide +kernel
theorem dX14_nameNumber_9 : decode cX14_nameNumber 9 = .ok (.ireturn, 1) := by decide +kernel
theorem dX14_names_0 : decode cX14_names 0 = .ok (.iconst 0, 1) := by decide +kernel
theorem dX14_names_1 : decode cX14_names 1 = .ok (.istore_n 1, 1) := by decide +kernel
theorem dX14_names_2 : decode cX14_names 2 = .ok (.iconst 0, 1) := by decide +kernel
theorem dX14_names_3 : decode cX14_names 3 = .ok (.istore_n 2, 1) := by decide +kernel
theorem dX14_names_4 : decode cX14_names 4 = .ok (.iload_n 2, 1) := by decide +kernel
theorem dX14_names_5 : decode cX14_names 5 = .ok (.aload_n 0, 1) := by decide +kernel
theorem dX14_names_6 : decode cX14_names 6 = .ok (.getfield 349, 3) := by decide +kernel
theorem dX14_names_9 : decode cX14_names 9 = .ok (.if_icmp .ge 67, 3) := by decide +kernel
theorem dX14_names_12 : decode cX14_names 12 = .ok (.aload_n 0, 1) := by decide +kernel
theorem dX14_names_13 : decode cX14_names 13 = .ok (.aload_n 0, 1) := by decide +kernel
theorem dX14_names_14 : decode cX14_names 14 = .ok (.getfield 47, 3) := by decide +kernel
theorem dX14_names_17 : decode cX14_names 17 = .ok (.iload_n 2, 1) := by decide +kernel
theorem dX14_names_18 : decode cX14_names 18 = .ok (.iaload, 1) := by decide +kernel
theorem dX14_names_19 : decode cX14_names 19 = .ok (.iconst 2, 1) := by decide +kernel
theorem dX14_names_20 : decode cX14_names 20 = .ok (.iadd, 1) := by decide +kernel
theorem dX14_names_21 : decode cX14_names 21 = .ok (.invokevirtual 384, 3) := by decide +kernel
theorem dX14_names_24 : decode cX14_names 24 = .ok (.aload_n 0, 1) := by decide +kernel
theorem dX14_names_25 : decode cX14_names 25 = .ok (.aload_n 0, 1) := by decide +kernel
theorem dX14_names_26 : decode cX14_names 26 = .ok (.getfield 47, 3) := by decide +kernel
theorem dX14_names_29 : decode cX14_names 29 = .ok (.iload_n 2, 1) := by decide +kernel
theorem dX14_names_30 : decode cX14_names 30 = .ok (.iaload, 1) := by decide +kernel
theorem dX14_names_31 : decode cX14_names 31 = .ok (.iconst 4, 1) := by decide +kernel
theorem dX14_names_32 : decode cX14_names 32 = .ok (.iadd, 1) := by decide +kernel
theorem dX14_names_33 : decode cX14_names 33 = .ok (.invokevirtual 384, 3) := by decide +kernel
theorem dX14_names_36 : decode cX14_names 36 = .ok (.iload_n 1, 1) := by decide +kernel
theorem dX14_names_37 : decode cX14_names 37 = .ok (.aload_n 0, 1) := by decide +kernel
theorem dX14_names_38 : decode cX14_names 38 = .ok (.getfield 352, 3) := by decide +kernel
theorem dX14_names_41 : decode cX14_names 41 = .ok (.if_icmp .ge 29, 3) := by decide +kernel
theorem dX14_names_44 : decode cX14_names 44 = .ok (.aload_n 0, 1) := by decide +kernel
theorem dX14_names_45 : decode cX14_names 45 = .ok (.getfield 53, 3) := by decide +kernel
theorem dX14_names_48 : decode cX14_names 48 = .ok (.iload_n 1, 1) := by decide +kernel
theorem dX14_names_49 : decode cX14_names 49 = .ok (.iaload, 1) := by decide +kernel
theorem dX14_names_50 : decode cX14_names 50 = .ok (.iload_n 2, 1) := by decide +kernel
theorem dX14_names_51 : decode cX14_names 51 = .ok (.if_icmp .ne 19, 3) := by decide +kernel
theorem dX14_names_54 : decode cX14_names 54 = .ok (.aload_n 0, 1) := by decide +kernel
theorem dX14_names_55 : decode cX14_names 55 = .ok (.aload_n 0, 1) := by decide +kernel
theorem dX14_names_56 : decode cX14_names 56 = .ok (.getfield 50, 3) := by decide +kernel
theorem dX14_names_59 : decode cX14_names 59 = .ok (.iload_n 1, 1) := by decide +kernel
theorem dX14_names_60 : decode cX14_names 60 = .ok (.iaload, 1) := by decide +kernel
theorem dX14_names_61 : decode cX14_names 61 = .ok (.invokevirtual 384, 3) := by decide +kernel
theorem dX14_names_64 : decode cX14_names 64 = .ok (.iinc 1 1, 3) := by decide +kernel
theorem dX14_names_67 : decode cX14_names 67 = .ok (.goto (-31), 3) := by decide +kernel
theorem dX14_names_70 : decode cX14_names 70 = .ok (.iinc 2 1, 3) := by decide +kernel
theorem dX14_names_73 : decode cX14_names 73 = .ok (.goto (-69), 3) := by decide +kernel
theorem dX14_names_76 : decode cX14_names 76 = .ok (.iload_n 1, 1) := by decide +kernel
theorem dX14_names_77 : decode cX14_names 77 = .ok (.aload_n 0, 1) := by decide +kernel
theorem dX14_names_78 : decode cX14_names 78 = .ok (.getfield 352, 3) := by decide +kernel
theorem dX14_names_81 : decode cX14_names 81 = .ok (.if_icmp .ge 19, 3) := by decide +kernel
theorem dX14_names_84 : decode cX14_names 84 = .ok (.aload_n 0, 1) := by decide +kernel
theorem dX14_names_85 : decode cX14_names 85 = .ok (.aload_n 0, 1) := by decide +kernel
theorem dX14_names_86 : decode cX14_names 86 = .ok (.getfield 50, 3) := by decide +kernel
theorem dX14_names_89 : decode cX14_names 89 = .ok (.iload_n 1, 1) := by decide +kernel
theorem dX14_names_90 : decode cX14_names 90 = .ok (.iaload, 1) := by decide +kernel
theorem dX14_names_91 : decode cX14_names 91 = .ok (.invokevirtual 384, 3) := by decide +kernel
theorem dX14_names_94 : decode cX14_names 94 = .ok (.iinc 1 1, 3) := by decide +kernel
theorem dX14_names_97 : decode cX14_names 97 = .ok (.goto (-21), 3) := by decide +kernel
theorem dX14_names_100 : decode cX14_names 100 = .ok (.return_, 1) := by decide +kernel
theorem dX14_narrowed_0 : decode cX14_narrowed 0 = .ok (.iconst 0, 1) := by decide +kernel
theorem dX14_narrowed_1 : decode cX14_narrowed 1 = .ok (.istore_n 3, 1) := by decide +kernel
theorem dX14_narrowed_2 : decode cX14_narrowed 2 = .ok (.iconst 0, 1) := by decide +kernel
theorem dX14_narrowed_3 : decode cX14_narrowed 3 = .ok (.istore 4, 2) := by decide +kernel
theorem dX14_narrowed_5 : decode cX14_narrowed 5 = .ok (.iload 4, 2) := by decide +kernel
theorem dX14_narrowed_7 : decode cX14_narrowed 7 = .ok (.bipush 38, 2) := by decide +kernel
theorem dX14_narrowed_9 : decode cX14_narrowed 9 = .ok (.if_icmp .ge 101, 3) := by decide +kernel
theorem dX14_narrowed_12 : decode cX14_narrowed 12 = .ok (.iload_n 2, 1) := by decide +kernel
theorem dX14_narrowed_13 : decode cX14_narrowed 13 = .ok (.bipush 32, 2) := by decide +kernel
theorem dX14_narrowed_15 : decode cX14_narrowed 15 = .ok (.idiv, 1) := by decide +kernel
theorem dX14_narrowed_16 : decode cX14_narrowed 16 = .ok (.iload 4, 2) := by decide +kernel
theorem dX14_narrowed_18 : decode cX14_narrowed 18 = .ok (.if_icmp .ne 12, 3) := by decide +kernel
theorem dX14_narrowed_21 : decode cX14_narrowed 21 = .ok (.iconst 1, 1) := by decide +kernel
theorem dX14_narrowed_22 : decode cX14_narrowed 22 = .ok (.iload_n 2, 1) := by decide +kernel
theorem dX14_narrowed_23 : decode cX14_narrowed 23 = .ok (.bipush 32, 2) := by decide +kernel
theorem dX14_narrowed_25 : decode cX14_narrowed 25 = .ok (.irem, 1) := by decide +kernel
theorem dX14_narrowed_26 : decode cX14_narrowed 26 = .ok (.ishl, 1) := by decide +kernel
theorem dX14_narrowed_27 : decode cX14_narrowed 27 = .ok (.goto 4, 3) := by decide +kernel
theorem dX14_narrowed_30 : decode cX14_narrowed 30 = .ok (.iconst 0, 1) := by decide +kernel
theorem dX14_narrowed_31 : decode cX14_narrowed 31 = .ok (.istore 5, 2) := by decide +kernel
theorem dX14_narrowed_33 : decode cX14_narrowed 33 = .ok (.aload_n 0, 1) := by decide +kernel
theorem dX14_narrowed_34 : decode cX14_narrowed 34 = .ok (.getfield 204, 3) := by decide +kernel
theorem dX14_narrowed_37 : decode cX14_narrowed 37 = .ok (.bipush 38, 2) := by decide +kernel
theorem dX14_narrowed_39 : decode cX14_narrowed 39 = .ok (.iload_n 2, 1) := by decide +kernel
theorem dX14_narrowed_40 : decode cX14_narrowed 40 = .ok (.imul, 1) := by decide +kernel
theorem dX14_narrowed_41 : decode cX14_narrowed 41 = .ok (.iload 4, 2) := by decide +kernel
theorem dX14_narrowed_43 : decode cX14_narrowed 43 = .ok (.iadd, 1) := by decide +kernel
theorem dX14_narrowed_44 : decode cX14_narrowed 44 = .ok (.iaload, 1) := by decide +kernel
theorem dX14_narrowed_45 : decode cX14_narrowed 45 = .ok (.aload_n 0, 1) := by decide +kernel
theorem dX14_narrowed_46 : decode cX14_narrowed 46 = .ok (.getfield 204, 3) := by decide +kernel
theorem dX14_narrowed_49 : decode cX14_narrowed 49 = .ok (.bipush 38, 2) := by decide +kernel
theorem dX14_narrowed_51 : decode cX14_narrowed 51 = .ok (.iload_n 1, 1) := by decide +kernel
theorem dX14_narrowed_52 : decode cX14_narrowed 52 = .ok (.imul, 1) := by decide +kernel
theorem dX14_narrowed_53 : decode cX14_narrowed 53 = .ok (.iload 4, 2) := by decide +kernel
theorem dX14_narrowed_55 : decode cX14_narrowed 55 = .ok (.iadd, 1) := by decide +kernel
theorem dX14_narrowed_56 : decode cX14_narrowed 56 = .ok (.iaload, 1) := by decide +kernel
theorem dX14_narrowed_57 : decode cX14_narrowed 57 = .ok (.iload 5, 2) := by decide +kernel
theorem dX14_narrowed_59 : decode cX14_narrowed 59 = .ok (.ior, 1) := by decide +kernel
theorem dX14_narrowed_60 : decode cX14_narrowed 60 = .ok (.iand, 1) := by decide +kernel
theorem dX14_narrowed_61 : decode cX14_narrowed 61 = .ok (.istore 6, 2) := by decide +kernel

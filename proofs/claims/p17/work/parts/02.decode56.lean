theorem dX5_makeArray_191 : decode cX5_makeArray 191 = .ok (.iconst 1, 1) := by decide +kernel
theorem dX5_makeArray_192 : decode cX5_makeArray 192 = .ok (.iadd, 1) := by decide +kernel
theorem dX5_makeArray_193 : decode cX5_makeArray 193 = .ok (.putfield 123, 3) := by decide +kernel
theorem dX5_makeArray_196 : decode cX5_makeArray 196 = .ok (.return_, 1) := by decide +kernel
theorem dX5_move_0 : decode cX5_move 0 = .ok (.aload_n 0, 1) := by decide +kernel
theorem dX5_move_1 : decode cX5_move 1 = .ok (.getfield 119, 3) := by decide +kernel
theorem dX5_move_4 : decode cX5_move 4 = .ok (.aload_n 0, 1) := by decide +kernel
theorem dX5_move_5 : decode cX5_move 5 = .ok (.getfield 123, 3) := by decide +kernel
theorem dX5_move_8 : decode cX5_move 8 = .ok (.invokevirtual 228, 3) := by decide +kernel
theorem dX5_move_11 : decode cX5_move 11 = .ok (.istore_n 2, 1) := by decide +kernel
theorem dX5_move_12 : decode cX5_move 12 = .ok (.iload_n 1, 1) := by decide +kernel
theorem dX5_move_13 : decode cX5_move 13 = .ok (.bipush 17, 2) := by decide +kernel
theorem dX5_move_15 : decode cX5_move 15 = .ok (.if_icmp .eq 14, 3) := by decide +kernel
theorem dX5_move_18 : decode cX5_move 18 = .ok (.iload_n 1, 1) := by decide +kernel
theorem dX5_move_19 : decode cX5_move 19 = .ok (.bipush 20, 2) := by decide +kernel
theorem dX5_move_21 : decode cX5_move 21 = .ok (.if_icmp .eq 8, 3) := by decide +kernel
theorem dX5_move_24 : decode cX5_move 24 = .ok (.iload_n 1, 1) := by decide +kernel
theorem dX5_move_25 : decode cX5_move 25 = .ok (.iconst 1, 1) := by decide +kernel
theorem dX5_move_26 : decode cX5_move 26 = .ok (.if_icmp .ne 25, 3) := by decide +kernel
theorem dX5_move_29 : decode cX5_move 29 = .ok (.aload_n 0, 1) := by decide +kernel
theorem dX5_move_30 : decode cX5_move 30 = .ok (.iload_n 1, 1) := by decide +kernel
theorem dX5_move_31 : decode cX5_move 31 = .ok (.invokestatic 163, 3) := by decide +kernel
theorem dX5_move_34 : decode cX5_move 34 = .ok (.aload_n 0, 1) := by decide +kernel
theorem dX5_move_35 : decode cX5_move 35 = .ok (.getfield 119, 3) := by decide +kernel
theorem dX5_move_38 : decode cX5_move 38 = .ok (.aload_n 0, 1) := by decide +kernel
theorem dX5_move_39 : decode cX5_move 39 = .ok (.getfield 123, 3) := by decide +kernel
theorem dX5_move_42 : decode cX5_move 42 = .ok (.invokevirtual 184, 3) := by decide +kernel
theorem dX5_move_45 : decode cX5_move 45 = .ok (.invokevirtual 176, 3) := by decide +kernel
theorem dX5_move_48 : decode cX5_move 48 = .ok (.goto 97, 3) := by decide +kernel
theorem dX5_move_51 : decode cX5_move 51 = .ok (.iload_n 1, 1) := by decide +kernel
theorem dX5_move_52 : decode cX5_move 52 = .ok (.invokestatic 231, 3) := by decide +kernel
theorem dX5_move_55 : decode cX5_move 55 = .ok (.ifCond .eq 19, 3) := by decide +kernel
theorem dX5_move_58 : decode cX5_move 58 = .ok (.aload_n 0, 1) := by decide +kernel
theorem dX5_move_59 : decode cX5_move 59 = .ok (.iload_n 1, 1) := by decide +kernel
theorem dX5_move_60 : decode cX5_move 60 = .ok (.invokestatic 163, 3) := by decide +kernel
theorem dX5_move_63 : decode cX5_move 63 = .ok (.aload_n 0, 1) := by decide +kernel
theorem dX5_move_64 : decode cX5_move 64 = .ok (.iload_n 2, 1) := by decide +kernel
theorem dX5_move_65 : decode cX5_move 65 = .ok (.invokevirtual 234, 3) := by decide +kernel
theorem dX5_move_68 : decode cX5_move 68 = .ok (.invokevirtual 176, 3) := by decide +kernel
theorem dX5_move_71 : decode cX5_move 71 = .ok (.goto 74, 3) := by decide +kernel
theorem dX5_move_74 : decode cX5_move 74 = .ok (.iload_n 1, 1) := by decide +kernel
theorem dX5_move_75 : decode cX5_move 75 = .ok (.invokestatic 237, 3) := by decide +kernel
theorem dX5_move_78 : decode cX5_move 78 = .ok (.ifCond .eq 19, 3) := by decide +kernel
theorem dX5_move_81 : decode cX5_move 81 = .ok (.aload_n 0, 1) := by decide +kernel
theorem dX5_move_82 : decode cX5_move 82 = .ok (.iload_n 2, 1) := by decide +kernel
theorem dX5_move_83 : decode cX5_move 83 = .ok (.aload_n 0, 1) := by decide +kernel
theorem dX5_move_84 : decode cX5_move 84 = .ok (.iload_n 1, 1) := by decide +kernel
theorem dX5_move_85 : decode cX5_move 85 = .ok (.invokestatic 166, 3) := by decide +kernel
theorem dX5_move_88 : decode cX5_move 88 = .ok (.invokevirtual 169, 3) := by decide +kernel
theorem dX5_move_91 : decode cX5_move 91 = .ok (.invokevirtual 133, 3) := by decide +kernel
theorem dX5_move_94 : decode cX5_move 94 = .ok (.goto 51, 3) := by decide +kernel
theorem dX5_move_97 : decode cX5_move 97 = .ok (.iload_n 1, 1) := by decide +kernel
theorem dX5_move_98 : decode cX5_move 98 = .ok (.sipush 132, 3) := by decide +kernel
theorem dX5_move_101 : decode cX5_move 101 = .ok (.if_icmp .ne 30, 3) := by decide +kernel
theorem dX5_move_104 : decode cX5_move 104 = .ok (.aload_n 0, 1) := by decide +kernel
theorem dX5_move_105 : decode cX5_move 105 = .ok (.iload_n 2, 1) := by decide +kernel
theorem dX5_move_106 : decode cX5_move 106 = .ok (.aload_n 0, 1) := by decide +kernel
theorem dX5_move_107 : decode cX5_move 107 = .ok (.iload_n 2, 1) := by decide +kernel
theorem dX5_move_108 : decode cX5_move 108 = .ok (.invokevirtual 234, 3) := by decide +kernel
theorem dX5_move_111 : decode cX5_move 111 = .ok (.l2i, 1) := by decide +kernel
theorem dX5_move_112 : decode cX5_move 112 = .ok (.aload_n 0, 1) := by decide +kernel
theorem dX5_move_113 : decode cX5_move 113 = .ok (.getfield 119, 3) := by decide +kernel
theorem dX5_move_116 : decode cX5_move 116 = .ok (.aload_n 0, 1) := by decide +kernel
theorem dX5_move_117 : decode cX5_move 117 = .ok (.getfield 123, 3) := by decide +kernel
theorem dX5_move_120 : decode cX5_move 120 = .ok (.invokevirtual 240, 3) := by decide +kernel
theorem dX5_move_123 : decode cX5_move 123 = .ok (.iadd, 1) := by decide +kernel
theorem dX5_move_124 : decode cX5_move 124 = .ok (.i2l, 1) := by decide +kernel
theorem dX5_move_125 : decode cX5_move 125 = .ok (.invokevirtual 133, 3) := by decide +kernel
theorem dX5_move_128 : decode cX5_move 128 = .ok (.goto 17, 3) := by decide +kernel
theorem dX5_move_131 : decode cX5_move 131 = .ok (.iload_n 1, 1) := by decide +kernel
theorem dX5_move_132 : decode cX5_move 132 = .ok (.ifCond .eq 13, 3) := by decide +kernel
theorem dX5_move_135 : decode cX5_move 135 = .ok (.aload_n 0, 1) := by decide +kernel
theorem dX5_move_136 : decode cX5_move 136 = .ok (.dup, 1) := by decide +kernel
theorem dX5_move_137 : decode cX5_move 137 = .ok (.getfield 76, 3) := by decide +kernel
theorem dX5_move_140 : decode cX5_move 140 = .ok (.iconst 1, 1) := by decide +kernel
theorem dX5_move_141 : decode cX5_move 141 = .ok (.iadd, 1) := by decide +kernel
theorem dX5_move_142 : decode cX5_move 142 = .ok (.putfield 76, 3) := by decide +kernel
theorem dX5_move_145 : decode cX5_move 145 = .ok (.return_, 1) := by decide +kernel
theorem dX5_openFrame_0 : decode cX5_openFrame 0 = .ok (.aload_n 0, 1) := by decide +kernel
theorem dX5_openFrame_1 : decode cX5_openFrame 1 = .ok (.aload_n 0, 1) := by decide +kernel
theorem dX5_openFrame_2 : decode cX5_openFrame 2 = .ok (.getfield 38, 3) := by decide +kernel
theorem dX5_openFrame_5 : decode cX5_openFrame 5 = .ok (.iload_n 1, 1) := by decide +kernel
theorem dX5_openFrame_6 : decode cX5_openFrame 6 = .ok (.invokevirtual 79, 3) := by decide +kernel
theorem dX5_openFrame_9 : decode cX5_openFrame 9 = .ok (.putfield 119, 3) := by decide +kernel
theorem dX5_openFrame_12 : decode cX5_openFrame 12 = .ok (.aload_n 0, 1) := by decide +kernel
theorem dX5_openFrame_13 : decode cX5_openFrame 13 = .ok (.iconst 0, 1) := by decide +kernel
theorem dX5_openFrame_14 : decode cX5_openFrame 14 = .ok (.putfield 123, 3) := by decide +kernel
theorem dX5_openFrame_17 : decode cX5_openFrame 17 = .ok (.aload_n 0, 1) := by decide +kernel
theorem dX5_openFrame_18 : decode cX5_openFrame 18 = .ok (.iconst 0, 1) := by decide +kernel
theorem dX5_openFrame_19 : decode cX5_openFrame 19 = .ok (.putfield 126, 3) := by decide +kernel
theorem dX5_openFrame_22 : decode cX5_openFrame 22 = .ok (.aload_n 0, 1) := by decide +kernel
theorem dX5_openFrame_23 : decode cX5_openFrame 23 = .ok (.iconst 0, 1) := by decide +kernel
theorem dX5_openFrame_24 : decode cX5_openFrame 24 = .ok (.iload_n 1, 1) := by decide +kernel
theorem dX5_openFrame_25 : decode cX5_openFrame 25 = .ok (.invokevirtual 129, 3) := by decide +kernel
theorem dX5_openFrame_28 : decode cX5_openFrame 28 = .ok (.return_, 1) := by decide +kernel
theorem dX5_passArguments_0 : decode cX5_passArguments 0 = .ok (.iconst 0, 1) := by decide +kernel
theorem dX5_passArguments_1 : decode cX5_passArguments 1 = .ok (.istore_n 2, 1) := by decide +kernel
theorem dX5_passArguments_2 : decode cX5_passArguments 2 = .ok (.iconst 0, 1) := by decide +kernel
theorem dX5_passArguments_3 : decode cX5_passArguments 3 = .ok (.istore_n 3, 1) := by decide +kernel
theorem dX5_passArguments_4 : decode cX5_passArguments 4 = .ok (.iload_n 3, 1) := by decide +kernel
theorem dX5_passArguments_5 : decode cX5_passArguments 5 = .ok (.aload_n 0, 1) := by decide +kernel
theorem dX5_passArguments_6 : decode cX5_passArguments 6 = .ok (.getfield 54, 3) := by decide +kernel
theorem dX5_passArguments_9 : decode cX5_passArguments 9 = .ok (.if_icmp .ge 58, 3) := by decide +kernel
theorem dX5_passArguments_12 : decode cX5_passArguments 12 = .ok (.iload_n 1, 1) := by decide +kernel
theorem dX5_passArguments_13 : decode cX5_passArguments 13 = .ok (.iload_n 3, 1) := by decide +kernel
theorem dX5_passArguments_14 : decode cX5_passArguments 14 = .ok (.invokestatic 91, 3) := by decide +kernel
theorem dX5_passArguments_17 : decode cX5_passArguments 17 = .ok (.istore 4, 2) := by decide +kernel
theorem dX5_passArguments_19 : decode cX5_passArguments 19 = .ok (.aload_n 0, 1) := by decide +kernel
theorem dX5_passArguments_20 : decode cX5_passArguments 20 = .ok (.iload_n 2, 1) := by decide +kernel
theorem dX5_passArguments_21 : decode cX5_passArguments 21 = .ok (.iload 4, 2) := by decide +kernel
theorem dX5_passArguments_23 : decode cX5_passArguments 23 = .ok (.iconst 1, 1) := by decide +kernel
theorem dX5_passArguments_24 : decode cX5_passArguments 24 = .ok (.if_icmp .ne 14, 3) := by decide +kernel
theorem dX5_passArguments_27 : decode cX5_passArguments 27 = .ok (.aload_n 0, 1) := by decide +kernel
theorem dX5_passArguments_28 : decode cX5_passArguments 28 = .ok (.getfield 22, 3) := by decide +kernel
theorem dX5_passArguments_31 : decode cX5_passArguments 31 = .ok (.iload_n 3, 1) := by decide +kernel
theorem dX5_passArguments_32 : decode cX5_passArguments 32 = .ok (.laload, 1) := by decide +kernel
theorem dX5_passArguments_33 : decode cX5_passArguments 33 = .ok (.l2i, 1) := by decide +kernel
theorem dX5_passArguments_34 : decode cX5_passArguments 34 = .ok (.i2l, 1) := by decide +kernel
theorem dX5_passArguments_35 : decode cX5_passArguments 35 = .ok (.goto 9, 3) := by decide +kernel
theorem dX5_passArguments_38 : decode cX5_passArguments 38 = .ok (.aload_n 0, 1) := by decide +kernel
theorem dX5_passArguments_39 : decode cX5_passArguments 39 = .ok (.getfield 22, 3) := by decide +kernel
theorem dX5_passArguments_42 : decode cX5_passArguments 42 = .ok (.iload_n 3, 1) := by decide +kernel
theorem dX5_passArguments_43 : decode cX5_passArguments 43 = .ok (.laload, 1) := by decide +kernel
theorem dX5_passArguments_44 : decode cX5_passArguments 44 = .ok (.invokevirtual 133, 3) := by decide +kernel
theorem dX5_passArguments_47 : decode cX5_passArguments 47 = .ok (.iload_n 2, 1) := by decide +kernel
theorem dX5_passArguments_48 : decode cX5_passArguments 48 = .ok (.iload 4, 2) := by decide +kernel
theorem dX5_passArguments_50 : decode cX5_passArguments 50 = .ok (.iconst 2, 1) := by decide +kernel
theorem dX5_passArguments_51 : decode cX5_passArguments 51 = .ok (.if_icmp .ne 7, 3) := by decide +kernel
theorem dX5_passArguments_54 : decode cX5_passArguments 54 = .ok (.iconst 2, 1) := by decide +kernel
theorem dX5_passArguments_55 : decode cX5_passArguments 55 = .ok (.goto 4, 3) := by decide +kernel
theorem dX5_passArguments_58 : decode cX5_passArguments 58 = .ok (.iconst 1, 1) := by decide +kernel
theorem dX5_passArguments_59 : decode cX5_passArguments 59 = .ok (.iadd, 1) := by decide +kernel
theorem dX5_passArguments_60 : decode cX5_passArguments 60 = .ok (.istore_n 2, 1) := by decide +kernel
theorem dX5_passArguments_61 : decode cX5_passArguments 61 = .ok (.iinc 3 1, 3) := by decide +kernel
theorem dX5_passArguments_64 : decode cX5_passArguments 64 = .ok (.goto (-60), 3) := by decide +kernel
theorem dX5_passArguments_67 : decode cX5_passArguments 67 = .ok (.return_, 1) := by decide +kernel
theorem dX5_play_0 : decode cX5_play 0 = .ok (.aload_n 0, 1) := by decide +kernel
theorem dX5_play_1 : decode cX5_play 1 = .ok (.getfield 28, 3) := by decide +kernel
theorem dX5_play_4 : decode cX5_play 4 = .ok (.arraylength, 1) := by decide +kernel
theorem dX5_play_5 : decode cX5_play 5 = .ok (.ifCond .ne 21, 3) := by decide +kernel
theorem dX5_play_8 : decode cX5_play 8 = .ok (.aload_n 0, 1) := by decide +kernel
theorem dX5_play_9 : decode cX5_play 9 = .ok (.sipush 1440, 3) := by decide +kernel
theorem dX5_play_12 : decode cX5_play 12 = .ok (.newarray .long, 2) := by decide +kernel
theorem dX5_play_14 : decode cX5_play 14 = .ok (.putfield 28, 3) := by decide +kernel
theorem dX5_play_17 : decode cX5_play 17 = .ok (.aload_n 0, 1) := by decide +kernel
theorem dX5_play_18 : decode cX5_play 18 = .ok (.sipush 1440, 3) := by decide +kernel
theorem dX5_play_21 : decode cX5_play 21 = .ok (.newarray .long, 2) := by decide +kernel
theorem dX5_play_23 : decode cX5_play 23 = .ok (.putfield 25, 3) := by decide +kernel
theorem dX5_play_26 : decode cX5_play 26 = .ok (.aload_n 0, 1) := by decide +kernel
theorem dX5_play_27 : decode cX5_play 27 = .ok (.lconst 0, 1) := by decide +kernel

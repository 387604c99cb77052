theorem dX5_openFrame_13 : decode cX5_openFrame 13 = .ok (.iconst 0, 1) := by decide +kernel
theorem dX5_openFrame_14 : decode cX5_openFrame 14 = .ok (.putfield 123, 3) := by decide +kernel
theorem dX5_openFrame_17 : decode cX5_openFrame 17 = .ok (.aload_n 0, 1) := by decide +kernel
theorem dX5_openFrame_18 : decode cX5_openFrame 18 = .ok (.iconst 0, 1) := by decide +kernel
theorem dX5_openFrame_19 : decode cX5_openFrame 19 = .ok (.putfield 126, 3) := by decide +kernel
theorem dX5_openFrame_22 : decode cX5_openFrame 22 = .ok (.aload_n 0, 1) := by decide +kernel
theorem dX5_openFrame_23 : decode cX5_openFrame 23 = .ok (.iconst 0, 1) := by decide +kernel
theorem dX5_openFrame_24 : decode cX5_openFrame 24 = .ok (.iload_n 1, 1) := by decide +kernel
theorem dX5_openFrame_25 : decode cX5_openFrame 25 = .ok (.invokevirtual 129, 3) := by decide +kernel
theorem dX5_openFrame_28 : decode cX5_openFrame 28 = .ok (.return_, 1) := by decide +kernel
theorem dX5_passArguments_0 : decode cX5_passArguments 0 = .ok (.iconst 0, 1) := by decide +kernel
theorem dX5_passArguments_1 : decode cX5_passArguments 1 = .ok (.istore_n 2, 1) := by decide +kernel
theorem dX5_passArguments_2 : decode cX5_passArguments 2 = .ok (.iconst 0, 1) := by decide +kernel
theorem dX5_passArguments_3 : decode cX5_passArguments 3 = .ok (.istore_n 3, 1) := by decide +kernel
theorem dX5_passArguments_4 : decode cX5_passArguments 4 = .ok (.iload_n 3, 1) := by decide +kernel
theorem dX5_passArguments_5 : decode cX5_passArguments 5 = .ok (.aload_n 0, 1) := by decide +kernel
theorem dX5_passArguments_6 : decode cX5_passArguments 6 = .ok (.getfield 54, 3) := by decide +kernel
theorem dX5_passArguments_9 : decode cX5_passArguments 9 = .ok (.if_icmp .ge 58, 3) := by decide +kernel
theorem dX5_passArguments_12 : decode cX5_passArguments 12 = .ok (.iload_n 1, 1) := by decide +kernel
theorem dX5_passArguments_13 : decode cX5_passArguments 13 = .ok (.iload_n 3, 1) := by decide +kernel
theorem dX5_passArguments_14 : decode cX5_passArguments 14 = .ok (.invokestatic 91, 3) := by decide +kernel
theorem dX5_passArguments_17 : decode cX5_passArguments 17 = .ok (.istore 4, 2) := by decide +kernel
theorem dX5_passArguments_19 : decode cX5_passArguments 19 = .ok (.aload_n 0, 1) := by decide +kernel
theorem dX5_passArguments_20 : decode cX5_passArguments 20 = .ok (.iload_n 2, 1) := by decide +kernel
theorem dX5_passArguments_21 : decode cX5_passArguments 21 = .ok (.iload 4, 2) := by decide +kernel
theorem dX5_passArguments_23 : decode cX5_passArguments 23 = .ok (.iconst 1, 1) := by decide +kernel
theorem dX5_passArguments_24 : decode cX5_passArguments 24 = .ok (.if_icmp .ne 14, 3) := by decide +kernel
theorem dX5_passArguments_27 : decode cX5_passArguments 27 = .ok (.aload_n 0, 1) := by decide +kernel
theorem dX5_passArguments_28 : decode cX5_passArguments 28 = .ok (.getfield 22, 3) := by decide +kernel
theorem dX5_passArguments_31 : decode cX5_passArguments 31 = .ok (.iload_n 3, 1) := by decide +kernel
theorem dX5_passArguments_32 : decode cX5_passArguments 32 = .ok (.laload, 1) := by decide +kernel
theorem dX5_passArguments_33 : decode cX5_passArguments 33 = .ok (.l2i, 1) := by decide +kernel
theorem dX5_passArguments_34 : decode cX5_passArguments 34 = .ok (.i2l, 1) := by decide +kernel
theorem dX5_passArguments_35 : decode cX5_passArguments 35 = .ok (.goto 9, 3) := by decide +kernel
theorem dX5_passArguments_38 : decode cX5_passArguments 38 = .ok (.aload_n 0, 1) := by decide +kernel
theorem dX5_passArguments_39 : decode cX5_passArguments 39 = .ok (.getfield 22, 3) := by decide +kernel
theorem dX5_passArguments_42 : decode cX5_passArguments 42 = .ok (.iload_n 3, 1) := by decide +kernel
theorem dX5_passArguments_43 : decode cX5_passArguments 43 = .ok (.laload, 1) := by decide +kernel
theorem dX5_passArguments_44 : decode cX5_passArguments 44 = .ok (.invokevirtual 133, 3) := by decide +kernel
theorem dX5_passArguments_47 : decode cX5_passArguments 47 = .ok (.iload_n 2, 1) := by decide +kernel
theorem dX5_passArguments_48 : decode cX5_passArguments 48 = .ok (.iload 4, 2) := by decide +kernel
theorem dX5_passArguments_50 : decode cX5_passArguments 50 = .ok (.iconst 2, 1) := by decide +kernel
theorem dX5_passArguments_51 : decode cX5_passArguments 51 = .ok (.if_icmp .ne 7, 3) := by decide +kernel
theorem dX5_passArguments_54 : decode cX5_passArguments 54 = .ok (.iconst 2, 1) := by decide +kernel
theorem dX5_passArguments_55 : decode cX5_passArguments 55 = .ok (.goto 4, 3) := by decide +kernel
theorem dX5_passArguments_58 : decode cX5_passArguments 58 = .ok (.iconst 1, 1) := by decide +kernel
theorem dX5_passArguments_59 : decode cX5_passArguments 59 = .ok (.iadd, 1) := by decide +kernel
theorem dX5_passArguments_60 : decode cX5_passArguments 60 = .ok (.istore_n 2, 1) := by decide +kernel
theorem dX5_passArguments_61 : decode cX5_passArguments 61 = .ok (.iinc 3 1, 3) := by decide +kernel
theorem dX5_passArguments_64 : decode cX5_passArguments 64 = .ok (.goto (-60), 3) := by decide +kernel
theorem dX5_passArguments_67 : decode cX5_passArguments 67 = .ok (.return_, 1) := by decide +kernel
theorem dX5_play_0 : decode cX5_play 0 = .ok (.aload_n 0, 1) := by decide +kernel
theorem dX5_play_1 : decode cX5_play 1 = .ok (.getfield 28, 3) := by decide +kernel
theorem dX5_play_4 : decode cX5_play 4 = .ok (.arraylength, 1) := by decide +kernel
theorem dX5_play_5 : decode cX5_play 5 = .ok (.ifCond .ne 21, 3) := by decide +kernel
theorem dX5_play_8 : decode cX5_play 8 = .ok (.aload_n 0, 1) := by decide +kernel
theorem dX5_play_9 : decode cX5_play 9 = .ok (.sipush 1440, 3) := by decide +kernel
theorem dX5_play_12 : decode cX5_play 12 = .ok (.newarray .long, 2) := by decide +kernel
theorem dX5_play_14 : decode cX5_play 14 = .ok (.putfield 28, 3) := by decide +kernel
theorem dX5_play_17 : decode cX5_play 17 = .ok (.aload_n 0, 1) := by decide +kernel
theorem dX5_play_18 : decode cX5_play 18 = .ok (.sipush 1440, 3) := by decide +kernel
theorem dX5_play_21 : decode cX5_play 21 = .ok (.newarray .long, 2) := by decide +kernel
theorem dX5_play_23 : decode cX5_play 23 = .ok (.putfield 25, 3) := by decide +kernel
theorem dX5_play_26 : decode cX5_play 26 = .ok (.aload_n 0, 1) := by decide +kernel
theorem dX5_play_27 : decode cX5_play 27 = .ok (.lconst 0, 1) := by decide +kernel
theorem dX5_play_28 : decode cX5_play 28 = .ok (.putfield 96, 3) := by decide +kernel
theorem dX5_play_31 : decode cX5_play 31 = .ok (.aload_n 0, 1) := by decide +kernel
theorem dX5_play_32 : decode cX5_play 32 = .ok (.iconst (-1), 1) := by decide +kernel
theorem dX5_play_33 : decode cX5_play 33 = .ok (.putfield 34, 3) := by decide +kernel
theorem dX5_play_36 : decode cX5_play 36 = .ok (.aload_n 0, 1) := by decide +kernel
theorem dX5_play_37 : decode cX5_play 37 = .ok (.iconst 0, 1) := by decide +kernel
theorem dX5_play_38 : decode cX5_play 38 = .ok (.putfield 100, 3) := by decide +kernel
theorem dX5_play_41 : decode cX5_play 41 = .ok (.aload_n 0, 1) := by decide +kernel
theorem dX5_play_42 : decode cX5_play 42 = .ok (.iconst (-1), 1) := by decide +kernel
theorem dX5_play_43 : decode cX5_play 43 = .ok (.putfield 103, 3) := by decide +kernel
theorem dX5_play_46 : decode cX5_play 46 = .ok (.aload_n 0, 1) := by decide +kernel
theorem dX5_play_47 : decode cX5_play 47 = .ok (.iconst 0, 1) := by decide +kernel
theorem dX5_play_48 : decode cX5_play 48 = .ok (.putfield 106, 3) := by decide +kernel
theorem dX5_play_51 : decode cX5_play 51 = .ok (.aload_n 0, 1) := by decide +kernel
theorem dX5_play_52 : decode cX5_play 52 = .ok (.iload_n 1, 1) := by decide +kernel
theorem dX5_play_53 : decode cX5_play 53 = .ok (.invokevirtual 109, 3) := by decide +kernel
theorem dX5_play_56 : decode cX5_play 56 = .ok (.aload_n 0, 1) := by decide +kernel
theorem dX5_play_57 : decode cX5_play 57 = .ok (.aload_n 0, 1) := by decide +kernel
theorem dX5_play_58 : decode cX5_play 58 = .ok (.getfield 38, 3) := by decide +kernel
theorem dX5_play_61 : decode cX5_play 61 = .ok (.iload_n 1, 1) := by decide +kernel
theorem dX5_play_62 : decode cX5_play 62 = .ok (.invokevirtual 83, 3) := by decide +kernel
theorem dX5_play_65 : decode cX5_play 65 = .ok (.invokevirtual 113, 3) := by decide +kernel
theorem dX5_play_68 : decode cX5_play 68 = .ok (.aload_n 0, 1) := by decide +kernel
theorem dX5_play_69 : decode cX5_play 69 = .ok (.getfield 103, 3) := by decide +kernel
theorem dX5_play_72 : decode cX5_play 72 = .ok (.ifCond .ge 28, 3) := by decide +kernel
theorem dX5_play_75 : decode cX5_play 75 = .ok (.aload_n 0, 1) := by decide +kernel
theorem dX5_play_76 : decode cX5_play 76 = .ok (.getfield 100, 3) := by decide +kernel
theorem dX5_play_79 : decode cX5_play 79 = .ok (.iload_n 2, 1) := by decide +kernel
theorem dX5_play_80 : decode cX5_play 80 = .ok (.if_icmp .ge 20, 3) := by decide +kernel
theorem dX5_play_83 : decode cX5_play 83 = .ok (.aload_n 0, 1) := by decide +kernel
theorem dX5_play_84 : decode cX5_play 84 = .ok (.dup, 1) := by decide +kernel
theorem dX5_play_85 : decode cX5_play 85 = .ok (.getfield 100, 3) := by decide +kernel
theorem dX5_play_88 : decode cX5_play 88 = .ok (.iconst 1, 1) := by decide +kernel
theorem dX5_play_89 : decode cX5_play 89 = .ok (.iadd, 1) := by decide +kernel
theorem dX5_play_90 : decode cX5_play 90 = .ok (.putfield 100, 3) := by decide +kernel
theorem dX5_play_93 : decode cX5_play 93 = .ok (.aload_n 0, 1) := by decide +kernel
theorem dX5_play_94 : decode cX5_play 94 = .ok (.invokevirtual 116, 3) := by decide +kernel
theorem dX5_play_97 : decode cX5_play 97 = .ok (.goto (-29), 3) := by decide +kernel
theorem dX5_play_100 : decode cX5_play 100 = .ok (.aload_n 0, 1) := by decide +kernel
theorem dX5_play_101 : decode cX5_play 101 = .ok (.getfield 103, 3) := by decide +kernel
theorem dX5_play_104 : decode cX5_play 104 = .ok (.ifCond .ge 7, 3) := by decide +kernel
theorem dX5_play_107 : decode cX5_play 107 = .ok (.iconst 2, 1) := by decide +kernel
theorem dX5_play_108 : decode cX5_play 108 = .ok (.goto 7, 3) := by decide +kernel
theorem dX5_play_111 : decode cX5_play 111 = .ok (.aload_n 0, 1) := by decide +kernel
theorem dX5_play_112 : decode cX5_play 112 = .ok (.getfield 103, 3) := by decide +kernel
theorem dX5_play_115 : decode cX5_play 115 = .ok (.ireturn, 1) := by decide +kernel
theorem dX5_pop_0 : decode cX5_pop 0 = .ok (.aload_n 0, 1) := by decide +kernel
theorem dX5_pop_1 : decode cX5_pop 1 = .ok (.getfield 106, 3) := by decide +kernel
theorem dX5_pop_4 : decode cX5_pop 4 = .ok (.bipush 24, 2) := by decide +kernel
theorem dX5_pop_6 : decode cX5_pop 6 = .ok (.imul, 1) := by decide +kernel
theorem dX5_pop_7 : decode cX5_pop 7 = .ok (.aload_n 0, 1) := by decide +kernel
theorem dX5_pop_8 : decode cX5_pop 8 = .ok (.getfield 126, 3) := by decide +kernel
theorem dX5_pop_11 : decode cX5_pop 11 = .ok (.iadd, 1) := by decide +kernel
theorem dX5_pop_12 : decode cX5_pop 12 = .ok (.iconst 1, 1) := by decide +kernel
theorem dX5_pop_13 : decode cX5_pop 13 = .ok (.isub, 1) := by decide +kernel
theorem dX5_pop_14 : decode cX5_pop 14 = .ok (.istore_n 1, 1) := by decide +kernel
theorem dX5_pop_15 : decode cX5_pop 15 = .ok (.aload_n 0, 1) := by decide +kernel
theorem dX5_pop_16 : decode cX5_pop 16 = .ok (.getfield 126, 3) := by decide +kernel
theorem dX5_pop_19 : decode cX5_pop 19 = .ok (.iconst 1, 1) := by decide +kernel
theorem dX5_pop_20 : decode cX5_pop 20 = .ok (.if_icmp .lt 25, 3) := by decide +kernel
theorem dX5_pop_23 : decode cX5_pop 23 = .ok (.aload_n 0, 1) := by decide +kernel
theorem dX5_pop_24 : decode cX5_pop 24 = .ok (.getfield 126, 3) := by decide +kernel
theorem dX5_pop_27 : decode cX5_pop 27 = .ok (.bipush 24, 2) := by decide +kernel
theorem dX5_pop_29 : decode cX5_pop 29 = .ok (.if_icmp .gt 16, 3) := by decide +kernel
theorem dX5_pop_32 : decode cX5_pop 32 = .ok (.iload_n 1, 1) := by decide +kernel
theorem dX5_pop_33 : decode cX5_pop 33 = .ok (.ifCond .lt 12, 3) := by decide +kernel
theorem dX5_pop_36 : decode cX5_pop 36 = .ok (.iload_n 1, 1) := by decide +kernel
theorem dX5_pop_37 : decode cX5_pop 37 = .ok (.aload_n 0, 1) := by decide +kernel
theorem dX5_pop_38 : decode cX5_pop 38 = .ok (.getfield 28, 3) := by decide +kernel
theorem dX5_pop_41 : decode cX5_pop 41 = .ok (.arraylength, 1) := by decide +kernel
theorem dX5_pop_42 : decode cX5_pop 42 = .ok (.if_icmp .lt 15, 3) := by decide +kernel
theorem dX5_pop_45 : decode cX5_pop 45 = .ok (.aload_n 0, 1) := by decide +kernel
theorem dX5_pop_46 : decode cX5_pop 46 = .ok (.dup, 1) := by decide +kernel
theorem dX5_pop_47 : decode cX5_pop 47 = .ok (.getfield 76, 3) := by decide +kernel
theorem dX5_pop_50 : decode cX5_pop 50 = .ok (.iconst 1, 1) := by decide +kernel
theorem dX5_pop_51 : decode cX5_pop 51 = .ok (.iadd, 1) := by decide +kernel
theorem dX5_pop_52 : decode cX5_pop 52 = .ok (.putfield 76, 3) := by decide +kernel
theorem dX5_pop_55 : decode cX5_pop 55 = .ok (.lconst 0, 1) := by decide +kernel
theorem dX5_pop_56 : decode cX5_pop 56 = .ok (.lreturn, 1) := by decide +kernel
theorem dX5_pop_57 : decode cX5_pop 57 = .ok (.aload_n 0, 1) := by decide +kernel
theorem dX5_pop_58 : decode cX5_pop 58 = .ok (.dup, 1) := by decide +kernel
theorem dX5_pop_59 : decode cX5_pop 59 = .ok (.getfield 126, 3) := by decide +kernel
theorem dX5_pop_62 : decode cX5_pop 62 = .ok (.iconst 1, 1) := by decide +kernel
theorem dX5_pop_63 : decode cX5_pop 63 = .ok (.isub, 1) := by decide +kernel
theorem dX5_pop_64 : decode cX5_pop 64 = .ok (.putfield 126, 3) := by decide +kernel

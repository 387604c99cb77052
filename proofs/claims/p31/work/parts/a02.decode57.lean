theorem dX5_openFrame_13 : decode cX5_openFrame 13 = .ok (.iconst 0, 1) := by decide +kernel
theorem dX5_openFrame_14 : decode cX5_openFrame 14 = .ok (.putfield 123, 3) := by decide +kernel
theorem dX5_openFrame_17 : decode cX5_openFrame 17 = .ok (.aload_n 0, 1) := by decide +kernel
theorem dX5_openFrame_18 : decode cX5_openFrame 18 = .ok (.iconst 0, 1) := by decide +kernel
theorem dX5_openFrame_19 : decode cX5_openFrame 19 = .ok (.putfield 126, 3) := by decide +kernel
theorem dX5_openFrame_22 : decode cX5_openFrame 22 = .ok (.aload_n 0, 1) := by decide +kernel
theorem dX5_openFrame_23 : decode cX5_openFrame 23 = .ok (.iconst 0, 1) := by decide +kernel
theorem dX5_openFrame_24 : decode cX5_openFrame 24 = .ok (.iload_n 1, 1) := by decide +kernel
theorem dX5_openFrame_25 : decode cX5_openFrame 25 = .ok (.invokevirtual 129, 3) := by decide +kernel
theorem dX5_openFrame_28 : decode cX5_openFrame 28 = .ok (.return_, 1) := by decide +kernel
theorem dX5_passArguments_0 : decode cX5_passArguments 0 = .ok (.iconst 0, 1) := by decide +kernel
theorem dX5_passArguments_1 : decode cX5_passArguments 1 = .ok (.istore_n 2, 1) := by decide +kernel
theorem dX5_passArguments_2 : decode cX5_passArguments 2 = .ok (.iconst 0, 1) := by decide +kernel
theorem dX5_passArguments_3 : decode cX5_passArguments 3 = .ok (.istore_n 3, 1) := by decide +kernel
theorem dX5_passArguments_4 : decode cX5_passArguments 4 = .ok (.iload_n 3, 1) := by decide +kernel
theorem dX5_passArguments_5 : decode cX5_passArguments 5 = .ok (.aload_n 0, 1) := by decide +kernel
theorem dX5_passArguments_6 : decode cX5_passArguments 6 = .ok (.getfield 54, 3) := by decide +kernel
theorem dX5_passArguments_9 : decode cX5_passArguments 9 = .ok (.if_icmp .ge 58, 3) := by decide +kernel
theorem dX5_passArguments_12 : decode cX5_passArguments 12 = .ok (.iload_n 1, 1) := by decide +kernel
theorem dX5_passArguments_13 : decode cX5_passArguments 13 = .ok (.iload_n 3, 1) := by decide +kernel
theorem dX5_passArguments_14 : decode cX5_passArguments 14 = .ok (.invokestatic 91, 3) := by decide +kernel
theorem dX5_passArguments_17 : decode cX5_passArguments 17 = .ok (.istore 4, 2) := by decide +kernel
theorem dX5_passArguments_19 : decode cX5_passArguments 19 = .ok (.aload_n 0, 1) := by decide +kernel
theorem dX5_passArguments_20 : decode cX5_passArguments 20 = .ok (.iload_n 2, 1) := by decide +kernel
theorem dX5_passArguments_21 : decode cX5_passArguments 21 = .ok (.iload 4, 2) := by decide +kernel
theorem dX5_passArguments_23 : decode cX5_passArguments 23 = .ok (.iconst 1, 1) := by decide +kernel
theorem dX5_passArguments_24 : decode cX5_passArguments 24 = .ok (.if_icmp .ne 14, 3) := by decide +kernel
theorem dX5_passArguments_27 : decode cX5_passArguments 27 = .ok (.aload_n 0, 1) := by decide +kernel
theorem dX5_passArguments_28 : decode cX5_passArguments 28 = .ok (.getfield 22, 3) := by decide +kernel
theorem dX5_passArguments_31 : decode cX5_passArguments 31 = .ok (.iload_n 3, 1) := by decide +kernel
theorem dX5_passArguments_32 : decode cX5_passArguments 32 = .ok (.laload, 1) := by decide +kernel
theorem dX5_passArguments_33 : decode cX5_passArguments 33 = .ok (.l2i, 1) := by decide +kernel
theorem dX5_passArguments_34 : decode cX5_passArguments 34 = .ok (.i2l, 1) := by decide +kernel
theorem dX5_passArguments_35 : decode cX5_passArguments 35 = .ok (.goto 9, 3) := by decide +kernel
theorem dX5_passArguments_38 : decode cX5_passArguments 38 = .ok (.aload_n 0, 1) := by decide +kernel
theorem dX5_passArguments_39 : decode cX5_passArguments 39 = .ok (.getfield 22, 3) := by decide +kernel
theorem dX5_passArguments_42 : decode cX5_passArguments 42 = .ok (.iload_n 3, 1) := by decide +kernel
theorem dX5_passArguments_43 : decode cX5_passArguments 43 = .ok (.laload, 1) := by decide +kernel
theorem dX5_passArguments_44 : decode cX5_passArguments 44 = .ok (.invokevirtual 133, 3) := by decide +kernel
theorem dX5_passArguments_47 : decode cX5_passArguments 47 = .ok (.iload_n 2, 1) := by decide +kernel
theorem dX5_passArguments_48 : decode cX5_passArguments 48 = .ok (.iload 4, 2) := by decide +kernel
theorem dX5_passArguments_50 : decode cX5_passArguments 50 = .ok (.iconst 2, 1) := by decide +kernel
theorem dX5_passArguments_51 : decode cX5_passArguments 51 = .ok (.if_icmp .ne 7, 3) := by decide +kernel
theorem dX5_passArguments_54 : decode cX5_passArguments 54 = .ok (.iconst 2, 1) := by decide +kernel
theorem dX5_passArguments_55 : decode cX5_passArguments 55 = .ok (.goto 4, 3) := by decide +kernel
theorem dX5_passArguments_58 : decode cX5_passArguments 58 = .ok (.iconst 1, 1) := by decide +kernel
theorem dX5_passArguments_59 : decode cX5_passArguments 59 = .ok (.iadd, 1) := by decide +kernel
theorem dX5_passArguments_60 : decode cX5_passArguments 60 = .ok (.istore_n 2, 1) := by decide +kernel
theorem dX5_passArguments_61 : decode cX5_passArguments 61 = .ok (.iinc 3 1, 3) := by decide +kernel
theorem dX5_passArguments_64 : decode cX5_passArguments 64 = .ok (.goto (-60), 3) := by decide +kernel
theorem dX5_passArguments_67 : decode cX5_passArguments 67 = .ok (.return_, 1) := by decide +kernel
theorem dX5_play_0 : decode cX5_play 0 = .ok (.aload_n 0, 1) := by decide +kernel
theorem dX5_play_1 : decode cX5_play 1 = .ok (.getfield 28, 3) := by decide +kernel
theorem dX5_play_4 : decode cX5_play 4 = .ok (.arraylength, 1) := by decide +kernel
theorem dX5_play_5 : decode cX5_play 5 = .ok (.ifCond .ne 21, 3) := by decide +kernel
theorem dX5_play_8 : decode cX5_play 8 = .ok (.aload_n 0, 1) := by decide +kernel
theorem dX5_play_9 : decode cX5_play 9 = .ok (.sipush 1440, 3) := by decide +kernel
theorem dX5_play_12 : decode cX5_play 12 = .ok (.newarray .long, 2) := by decide +kernel
theorem dX5_play_14 : decode cX5_play 14 = .ok (.putfield 28, 3) := by decide +kernel
theorem dX5_play_17 : decode cX5_play 17 = .ok (.aload_n 0, 1) := by decide +kernel
theorem dX5_play_18 : decode cX5_play 18 = .ok (.sipush 1440, 3) := by decide +kernel
theorem dX5_play_21 : decode cX5_play 21 = .ok (.newarray .long, 2) := by decide +kernel
theorem dX5_play_23 : decode cX5_play 23 = .ok (.putfield 25, 3) := by decide +kernel
theorem dX5_play_26 : decode cX5_play 26 = .ok (.aload_n 0, 1) := by decide +kernel
theorem dX5_play_27 : decode cX5_play 27 = .ok (.lconst 0, 1) := by decide +kernel
theorem dX5_play_28 : decode cX5_play 28 = .ok (.putfield 96, 3) := by decide +kernel
theorem dX5_play_31 : decode cX5_play 31 = .ok (.aload_n 0, 1) := by decide +kernel
theorem dX5_play_32 : decode cX5_play 32 = .ok (.iconst (-1), 1) := by decide +kernel
theorem dX5_play_33 : decode cX5_play 33 = .ok (.putfield 34, 3) := by decide +kernel
theorem dX5_play_36 : decode cX5_play 36 = .ok (.aload_n 0, 1) := by decide +kernel
theorem dX5_play_37 : decode cX5_play 37 = .ok (.iconst 0, 1) := by decide +kernel
theorem dX5_play_38 : decode cX5_play 38 = .ok (.putfield 100, 3) := by decide +kernel
theorem dX5_play_41 : decode cX5_play 41 = .ok (.aload_n 0, 1) := by decide +kernel
theorem dX5_play_42 : decode cX5_play 42 = .ok (.iconst (-1), 1) := by decide +kernel
theorem dX5_play_43 : decode cX5_play 43 = .ok (.putfield 103, 3) := by decide +kernel
theorem dX5_play_46 : decode cX5_play 46 = .ok (.aload_n 0, 1) := by decide +kernel
theorem dX5_play_47 : decode cX5_play 47 = .ok (.iconst 0, 1) := by decide +kernel
theorem dX5_play_48 : decode cX5_play 48 = .ok (.putfield 106, 3) := by decide +kernel
theorem dX5_play_51 : decode cX5_play 51 = .ok (.aload_n 0, 1) := by decide +kernel
theorem dX5_play_52 : decode cX5_play 52 = .ok (.iload_n 1, 1) := by decide +kernel
theorem dX5_play_53 : decode cX5_play 53 = .ok (.invokevirtual 109, 3) := by decide +kernel
theorem dX5_play_56 : decode cX5_play 56 = .ok (.aload_n 0, 1) := by decide +kernel
theorem dX5_play_57 : decode cX5_play 57 = .ok (.aload_n 0, 1) := by decide +kernel
theorem dX5_play_58 : decode cX5_play 58 = .ok (.getfield 38, 3) := by decide +kernel
theorem dX5_play_61 : decode cX5_play 61 = .ok (.iload_n 1, 1) := by decide +kernel
theorem dX5_play_62 : decode cX5_play 62 = .ok (.invokevirtual 83, 3) := by decide +kernel
theorem dX5_play_65 : decode cX5_play 65 = .ok (.invokevirtual 113, 3) := by decide +kernel
theorem dX5_play_68 : decode cX5_play 68 = .ok (.aload_n 0, 1) := by decide +kernel
theorem dX5_play_69 : decode cX5_play 69 = .ok (.getfield 103, 3) := by decide +kernel
theorem dX5_play_72 : decode cX5_play 72 = .ok (.ifCond .ge 28, 3) := by decide +kernel
theorem dX5_play_75 : decode cX5_play 75 = .ok (.aload_n 0, 1) := by decide +kernel
theorem dX5_play_76 : decode cX5_play 76 = .ok (.getfield 100, 3) := by decide +kernel
theorem dX5_play_79 : decode cX5_play 79 = .ok (.iload_n 2, 1) := by decide +kernel
theorem dX5_play_80 : decode cX5_play 80 = .ok (.if_icmp .ge 20, 3) := by decide +kernel
theorem dX5_play_83 : decode cX5_play 83 = .ok (.aload_n 0, 1) := by decide +kernel
theorem dX5_play_84 : decode cX5_play 84 = .ok (.dup, 1) := by decide +kernel
theorem dX5_play_85 : decode cX5_play 85 = .ok (.getfield 100, 3) := by decide +kernel
theorem dX5_play_88 : decode cX5_play 88 = .ok (.iconst 1, 1) := by decide +kernel
theorem dX5_play_89 : decode cX5_play 89 = .ok (.iadd, 1) := by decide +kernel
theorem dX5_play_90 : decode cX5_play 90 = .ok (.putfield 100, 3) := by decide +kernel
theorem dX5_play_93 : decode cX5_play 93 = .ok (.aload_n 0, 1) := by decide +kernel
theorem dX5_play_94 : decode cX5_play 94 = .ok (.invokevirtual 116, 3) := by decide +kernel
theorem dX5_play_97 : decode cX5_play 97 = .ok (.goto (-29), 3) := by decide +kernel
theorem dX5_play_100 : decode cX5_play 100 = .ok (.aload_n 0, 1) := by decide +kernel
theorem dX5_play_101 : decode cX5_play 101 = .ok (.getfield 103, 3) := by decide +kernel
theorem dX5_play_104 : decode cX5_play 104 = .ok (.ifCond .ge 7, 3) := by decide +kernel
theorem dX5_play_107 : decode cX5_play 107 = .ok (.iconst 2, 1) := by decide +kernel
theorem dX5_play_108 : decode cX5_play 108 = .ok (.goto 7, 3) := by decide +kernel
theorem dX5_play_111 : decode cX5_play 111 = .ok (.aload_n 0, 1) := by decide +kernel
theorem dX5_play_112 : decode cX5_play 112 = .ok (.getfield 103, 3) := by decide +kernel
theorem dX5_play_115 : decode cX5_play 115 = .ok (.ireturn, 1) := by decide +kernel
theorem dX5_pop_0 : decode cX5_pop 0 = .ok (.aload_n 0, 1) := by decide +kernel
theorem dX5_pop_1 : decode cX5_pop 1 = .ok (.getfield 106, 3) := by decide +kernel
theorem dX5_pop_4 : decode cX5_pop 4 = .ok (.bipush 24, 2) := by decide +kernel
theorem dX5_pop_6 : decode cX5_pop 6 = .ok (.imul, 1) := by decide +kernel
theorem dX5_pop_7 : decode cX5_pop 7 = .ok (.aload_n 0, 1) := by decide +kernel
theorem dX5_pop_8 : decode cX5_pop 8 = .ok (.getfield 126, 3) := by decide +kernel
theorem dX5_pop_11 : decode cX5_pop 11 = .ok (.iadd, 1) := by decide +kernel
theorem dX5_pop_12 : decode cX5_pop 12 = .ok (.iconst 1, 1) := by decide +kernel
theorem dX5_pop_13 : decode cX5_pop 13 = .ok (.isub, 1) := by decide +kernel
theorem dX5_pop_14 : decode cX5_pop 14 = .ok (.istore_n 1, 1) := by decide +kernel
theorem dX5_pop_15 : decode cX5_pop 15 = .ok (.aload_n 0, 1) := by decide +kernel
theorem dX5_pop_16 : decode cX5_pop 16 = .ok (.getfield 126, 3) := by decide +kernel
theorem dX5_pop_19 : decode cX5_pop 19 = .ok (.iconst 1, 1) := by decide +kernel
theorem dX5_pop_20 : decode cX5_pop 20 = .ok (.if_icmp .lt 25, 3) := by decide +kernel
theorem dX5_pop_23 : decode cX5_pop 23 = .ok (.aload_n 0, 1) := by decide +kernel
theorem dX5_pop_24 : decode cX5_pop 24 = .ok (.getfield 126, 3) := by decide +kernel
theorem dX5_pop_27 : decode cX5_pop 27 = .ok (.bipush 24, 2) := by decide +kernel
theorem dX5_pop_29 : decode cX5_pop 29 = .ok (.if_icmp .gt 16, 3) := by decide +kernel
theorem dX5_pop_32 : decode cX5_pop 32 = .ok (.iload_n 1, 1) := by decide +kernel
theorem dX5_pop_33 : decode cX5_pop 33 = .ok (.ifCond .lt 12, 3) := by decide +kernel
theorem dX5_pop_36 : decode cX5_pop 36 = .ok (.iload_n 1, 1) := by decide +kernel
theorem dX5_pop_37 : decode cX5_pop 37 = .ok (.aload_n 0, 1) := by decide +kernel
theorem dX5_pop_38 : decode cX5_pop 38 = .ok (.getfield 28, 3) := by decide +kernel
theorem dX5_pop_41 : decode cX5_pop 41 = .ok (.arraylength, 1) := by decide +kernel
theorem dX5_pop_42 : decode cX5_pop 42 = .ok (.if_icmp .lt 15, 3) := by decide +kernel
theorem dX5_pop_45 : decode cX5_pop 45 = .ok (.aload_n 0, 1) := by decide +kernel
theorem dX5_pop_46 : decode cX5_pop 46 = .ok (.dup, 1) := by decide +kernel
theorem dX5_pop_47 : decode cX5_pop 47 = .ok (.getfield 76, 3) := by decide +kernel
theorem dX5_pop_50 : decode cX5_pop 50 = .ok (.iconst 1, 1) := by decide +kernel
theorem dX5_pop_51 : decode cX5_pop 51 = .ok (.iadd, 1) := by decide +kernel
theorem dX5_pop_52 : decode cX5_pop 52 = .ok (.putfield 76, 3) := by decide +kernel
theorem dX5_pop_55 : decode cX5_pop 55 = .ok (.lconst 0, 1) := by decide +kernel
theorem dX5_pop_56 : decode cX5_pop 56 = .ok (.lreturn, 1) := by decide +kernel
theorem dX5_pop_57 : decode cX5_pop 57 = .ok (.aload_n 0, 1) := by decide +kernel
theorem dX5_pop_58 : decode cX5_pop 58 = .ok (.dup, 1) := by decide +kernel
theorem dX5_pop_59 : decode cX5_pop 59 = .ok (.getfield 126, 3) := by decide +kernel
theorem dX5_pop_62 : decode cX5_pop 62 = .ok (.iconst 1, 1) := by decide +kernel
theorem dX5_pop_63 : decode cX5_pop 63 = .ok (.isub, 1) := by decide +kernel
theorem dX5_pop_64 : decode cX5_pop 64 = .ok (.putfield 126, 3) := by decide +kernel
theorem dX5_pop_67 : decode cX5_pop 67 = .ok (.aload_n 0, 1) := by decide +kernel
theorem dX5_pop_68 : decode cX5_pop 68 = .ok (.getfield 28, 3) := by decide +kernel
theorem dX5_pop_71 : decode cX5_pop 71 = .ok (.iload_n 1, 1) := by decide +kernel
theorem dX5_pop_72 : decode cX5_pop 72 = .ok (.laload, 1) := by decide +kernel
theorem dX5_pop_73 : decode cX5_pop 73 = .ok (.lreturn, 1) := by decide +kernel
theorem dX5_pop__0 : decode cX5_pop_ 0 = .ok (.iload_n 1, 1) := by decide +kernel
theorem dX5_pop__1 : decode cX5_pop_ 1 = .ok (.iconst 2, 1) := by decide +kernel
theorem dX5_pop__2 : decode cX5_pop_ 2 = .ok (.if_icmp .ne 8, 3) := by decide +kernel
theorem dX5_pop__5 : decode cX5_pop_ 5 = .ok (.aload_n 0, 1) := by decide +kernel
theorem dX5_pop__6 : decode cX5_pop_ 6 = .ok (.invokevirtual 141, 3) := by decide +kernel
theorem dX5_pop__9 : decode cX5_pop_ 9 = .ok (.pop2, 1) := by decide +kernel
theorem dX5_pop__10 : decode cX5_pop_ 10 = .ok (.iload_n 1, 1) := by decide +kernel
theorem dX5_pop__11 : decode cX5_pop_ 11 = .ok (.ifCond .ne 7, 3) := by decide +kernel
theorem dX5_pop__14 : decode cX5_pop_ 14 = .ok (.lconst 0, 1) := by decide +kernel
theorem dX5_pop__15 : decode cX5_pop_ 15 = .ok (.goto 7, 3) := by decide +kernel
theorem dX5_pop__18 : decode cX5_pop_ 18 = .ok (.aload_n 0, 1) := by decide +kernel
theorem dX5_pop__19 : decode cX5_pop_ 19 = .ok (.invokevirtual 141, 3) := by decide +kernel
theorem dX5_pop__22 : decode cX5_pop_ 22 = .ok (.lreturn, 1) := by decide +kernel
theorem dX5_push_0 : decode cX5_push 0 = .ok (.aload_n 0, 1) := by decide +kernel
theorem dX5_push_1 : decode cX5_push 1 = .ok (.getfield 106, 3) := by decide +kernel
theorem dX5_push_4 : decode cX5_push 4 = .ok (.bipush 24, 2) := by decide +kernel
theorem dX5_push_6 : decode cX5_push 6 = .ok (.imul, 1) := by decide +kernel
theorem dX5_push_7 : decode cX5_push 7 = .ok (.aload_n 0, 1) := by decide +kernel
theorem dX5_push_8 : decode cX5_push 8 = .ok (.getfield 126, 3) := by decide +kernel
theorem dX5_push_11 : decode cX5_push 11 = .ok (.iadd, 1) := by decide +kernel
theorem dX5_push_12 : decode cX5_push 12 = .ok (.istore_n 3, 1) := by decide +kernel
theorem dX5_push_13 : decode cX5_push 13 = .ok (.aload_n 0, 1) := by decide +kernel
theorem dX5_push_14 : decode cX5_push 14 = .ok (.getfield 126, 3) := by decide +kernel
theorem dX5_push_17 : decode cX5_push 17 = .ok (.ifCond .lt 25, 3) := by decide +kernel
theorem dX5_push_20 : decode cX5_push 20 = .ok (.aload_n 0, 1) := by decide +kernel
theorem dX5_push_21 : decode cX5_push 21 = .ok (.getfield 126, 3) := by decide +kernel
theorem dX5_push_24 : decode cX5_push 24 = .ok (.bipush 24, 2) := by decide +kernel
theorem dX5_push_26 : decode cX5_push 26 = .ok (.if_icmp .ge 16, 3) := by decide +kernel
theorem dX5_push_29 : decode cX5_push 29 = .ok (.iload_n 3, 1) := by decide +kernel
theorem dX5_push_30 : decode cX5_push 30 = .ok (.ifCond .lt 12, 3) := by decide +kernel
theorem dX5_push_33 : decode cX5_push 33 = .ok (.iload_n 3, 1) := by decide +kernel
theorem dX5_push_34 : decode cX5_push 34 = .ok (.aload_n 0, 1) := by decide +kernel
theorem dX5_push_35 : decode cX5_push 35 = .ok (.getfield 28, 3) := by decide +kernel
theorem dX5_push_38 : decode cX5_push 38 = .ok (.arraylength, 1) := by decide +kernel
theorem dX5_push_39 : decode cX5_push 39 = .ok (.if_icmp .lt 14, 3) := by decide +kernel
theorem dX5_push_42 : decode cX5_push 42 = .ok (.aload_n 0, 1) := by decide +kernel
theorem dX5_push_43 : decode cX5_push 43 = .ok (.dup, 1) := by decide +kernel
theorem dX5_push_44 : decode cX5_push 44 = .ok (.getfield 76, 3) := by decide +kernel
theorem dX5_push_47 : decode cX5_push 47 = .ok (.iconst 1, 1) := by decide +kernel
theorem dX5_push_48 : decode cX5_push 48 = .ok (.iadd, 1) := by decide +kernel
theorem dX5_push_49 : decode cX5_push 49 = .ok (.putfield 76, 3) := by decide +kernel
theorem dX5_push_52 : decode cX5_push 52 = .ok (.return_, 1) := by decide +kernel
theorem dX5_push_53 : decode cX5_push 53 = .ok (.aload_n 0, 1) := by decide +kernel
theorem dX5_push_54 : decode cX5_push 54 = .ok (.getfield 28, 3) := by decide +kernel
theorem dX5_push_57 : decode cX5_push 57 = .ok (.iload_n 3, 1) := by decide +kernel
theorem dX5_push_58 : decode cX5_push 58 = .ok (.lload_n 1, 1) := by decide +kernel
theorem dX5_push_59 : decode cX5_push 59 = .ok (.lastore, 1) := by decide +kernel
theorem dX5_push_60 : decode cX5_push 60 = .ok (.aload_n 0, 1) := by decide +kernel
theorem dX5_push_61 : decode cX5_push 61 = .ok (.dup, 1) := by decide +kernel
theorem dX5_push_62 : decode cX5_push 62 = .ok (.getfield 126, 3) := by decide +kernel
theorem dX5_push_65 : decode cX5_push 65 = .ok (.iconst 1, 1) := by decide +kernel
theorem dX5_push_66 : decode cX5_push 66 = .ok (.iadd, 1) := by decide +kernel
theorem dX5_push_67 : decode cX5_push 67 = .ok (.putfield 126, 3) := by decide +kernel
theorem dX5_push_70 : decode cX5_push 70 = .ok (.return_, 1) := by decide +kernel
theorem dX5_push__0 : decode cX5_push_ 0 = .ok (.iload_n 1, 1) := by decide +kernel
theorem dX5_push__1 : decode cX5_push_ 1 = .ok (.ifCond .eq 8, 3) := by decide +kernel
theorem dX5_push__4 : decode cX5_push_ 4 = .ok (.aload_n 0, 1) := by decide +kernel
theorem dX5_push__5 : decode cX5_push_ 5 = .ok (.lload_n 2, 1) := by decide +kernel
theorem dX5_push__6 : decode cX5_push_ 6 = .ok (.invokevirtual 137, 3) := by decide +kernel
theorem dX5_push__9 : decode cX5_push_ 9 = .ok (.iload_n 1, 1) := by decide +kernel
theorem dX5_push__10 : decode cX5_push_ 10 = .ok (.iconst 2, 1) := by decide +kernel
theorem dX5_push__11 : decode cX5_push_ 11 = .ok (.if_icmp .ne 8, 3) := by decide +kernel
theorem dX5_push__14 : decode cX5_push_ 14 = .ok (.aload_n 0, 1) := by decide +kernel
theorem dX5_push__15 : decode cX5_push_ 15 = .ok (.lconst 0, 1) := by decide +kernel
theorem dX5_push__16 : decode cX5_push_ 16 = .ok (.invokevirtual 137, 3) := by decide +kernel
theorem dX5_push__19 : decode cX5_push_ 19 = .ok (.return_, 1) := by decide +kernel
theorem dX5_raise_0 : decode cX5_raise 0 = .ok (.aload_n 0, 1) := by decide +kernel
theorem dX5_raise_1 : decode cX5_raise 1 = .ok (.getfield 106, 3) := by decide +kernel
theorem dX5_raise_4 : decode cX5_raise 4 = .ok (.istore_n 2, 1) := by decide +kernel
theorem dX5_raise_5 : decode cX5_raise 5 = .ok (.iload_n 2, 1) := by decide +kernel
theorem dX5_raise_6 : decode cX5_raise 6 = .ok (.ifCond .lt 46, 3) := by decide +kernel
theorem dX5_raise_9 : decode cX5_raise 9 = .ok (.aload_n 0, 1) := by decide +kernel
theorem dX5_raise_10 : decode cX5_raise 10 = .ok (.iload_n 1, 1) := by decide +kernel
theorem dX5_raise_11 : decode cX5_raise 11 = .ok (.invokevirtual 291, 3) := by decide +kernel
theorem dX5_raise_14 : decode cX5_raise 14 = .ok (.istore_n 3, 1) := by decide +kernel
theorem dX5_raise_15 : decode cX5_raise 15 = .ok (.iload_n 3, 1) := by decide +kernel
theorem dX5_raise_16 : decode cX5_raise 16 = .ok (.ifCond .lt 22, 3) := by decide +kernel
theorem dX5_raise_19 : decode cX5_raise 19 = .ok (.aload_n 0, 1) := by decide +kernel
theorem dX5_raise_20 : decode cX5_raise 20 = .ok (.iload_n 3, 1) := by decide +kernel
theorem dX5_raise_21 : decode cX5_raise 21 = .ok (.putfield 123, 3) := by decide +kernel
theorem dX5_raise_24 : decode cX5_raise 24 = .ok (.aload_n 0, 1) := by decide +kernel
theorem dX5_raise_25 : decode cX5_raise 25 = .ok (.iconst 0, 1) := by decide +kernel
theorem dX5_raise_26 : decode cX5_raise 26 = .ok (.putfield 126, 3) := by decide +kernel
theorem dX5_raise_29 : decode cX5_raise 29 = .ok (.aload_n 0, 1) := by decide +kernel
theorem dX5_raise_30 : decode cX5_raise 30 = .ok (.iconst (-1), 1) := by decide +kernel
theorem dX5_raise_31 : decode cX5_raise 31 = .ok (.iload_n 1, 1) := by decide +kernel
theorem dX5_raise_32 : decode cX5_raise 32 = .ok (.isub, 1) := by decide +kernel
theorem dX5_raise_33 : decode cX5_raise 33 = .ok (.i2l, 1) := by decide +kernel
theorem dX5_raise_34 : decode cX5_raise 34 = .ok (.invokevirtual 137, 3) := by decide +kernel
theorem dX5_raise_37 : decode cX5_raise 37 = .ok (.return_, 1) := by decide +kernel
theorem dX5_raise_38 : decode cX5_raise 38 = .ok (.iload_n 2, 1) := by decide +kernel
theorem dX5_raise_39 : decode cX5_raise 39 = .ok (.ifCond .le 7, 3) := by decide +kernel
theorem dX5_raise_42 : decode cX5_raise 42 = .ok (.aload_n 0, 1) := by decide +kernel
theorem dX5_raise_43 : decode cX5_raise 43 = .ok (.invokevirtual 276, 3) := by decide +kernel
theorem dX5_raise_46 : decode cX5_raise 46 = .ok (.iinc 2 (-1), 3) := by decide +kernel
theorem dX5_raise_49 : decode cX5_raise 49 = .ok (.goto (-44), 3) := by decide +kernel
theorem dX5_raise_52 : decode cX5_raise 52 = .ok (.aload_n 0, 1) := by decide +kernel
theorem dX5_raise_53 : decode cX5_raise 53 = .ok (.iconst 1, 1) := by decide +kernel
theorem dX5_raise_54 : decode cX5_raise 54 = .ok (.putfield 103, 3) := by decide +kernel
theorem dX5_raise_57 : decode cX5_raise 57 = .ok (.aload_n 0, 1) := by decide +kernel
theorem dX5_raise_58 : decode cX5_raise 58 = .ok (.iload_n 1, 1) := by decide +kernel
theorem dX5_raise_59 : decode cX5_raise 59 = .ok (.putfield 34, 3) := by decide +kernel
theorem dX5_raise_62 : decode cX5_raise 62 = .ok (.return_, 1) := by decide +kernel
theorem dX5_refusal_0 : decode cX5_refusal 0 = .ok (.aload_n 0, 1) := by decide +kernel
theorem dX5_refusal_1 : decode cX5_refusal 1 = .ok (.getfield 38, 3) := by decide +kernel
theorem dX5_refusal_4 : decode cX5_refusal 4 = .ok (.ifnull 14, 3) := by decide +kernel
theorem dX5_refusal_7 : decode cX5_refusal 7 = .ok (.aload_n 0, 1) := by decide +kernel
theorem dX5_refusal_8 : decode cX5_refusal 8 = .ok (.getfield 38, 3) := by decide +kernel
theorem dX5_refusal_11 : decode cX5_refusal 11 = .ok (.iload_n 1, 1) := by decide +kernel
theorem dX5_refusal_12 : decode cX5_refusal 12 = .ok (.invokevirtual 79, 3) := by decide +kernel
theorem dX5_refusal_15 : decode cX5_refusal 15 = .ok (.ifnonnull 5, 3) := by decide +kernel
theorem dX5_refusal_18 : decode cX5_refusal 18 = .ok (.iconst (-1), 1) := by decide +kernel
theorem dX5_refusal_19 : decode cX5_refusal 19 = .ok (.ireturn, 1) := by decide +kernel
theorem dX5_refusal_20 : decode cX5_refusal 20 = .ok (.aload_n 0, 1) := by decide +kernel
theorem dX5_refusal_21 : decode cX5_refusal 21 = .ok (.getfield 38, 3) := by decide +kernel
theorem dX5_refusal_24 : decode cX5_refusal 24 = .ok (.iload_n 1, 1) := by decide +kernel
theorem dX5_refusal_25 : decode cX5_refusal 25 = .ok (.invokevirtual 83, 3) := by decide +kernel
theorem dX5_refusal_28 : decode cX5_refusal 28 = .ok (.istore_n 3, 1) := by decide +kernel
theorem dX5_refusal_29 : decode cX5_refusal 29 = .ok (.iload_n 3, 1) := by decide +kernel
theorem dX5_refusal_30 : decode cX5_refusal 30 = .ok (.invokestatic 86, 3) := by decide +kernel
theorem dX5_refusal_33 : decode cX5_refusal 33 = .ok (.aload_n 0, 1) := by decide +kernel
theorem dX5_refusal_34 : decode cX5_refusal 34 = .ok (.getfield 54, 3) := by decide +kernel
theorem dX5_refusal_37 : decode cX5_refusal 37 = .ok (.if_icmp .eq 6, 3) := by decide +kernel
theorem dX5_refusal_40 : decode cX5_refusal 40 = .ok (.bipush (-2), 2) := by decide +kernel
theorem dX5_refusal_42 : decode cX5_refusal 42 = .ok (.ireturn, 1) := by decide +kernel
theorem dX5_refusal_43 : decode cX5_refusal 43 = .ok (.iconst 0, 1) := by decide +kernel
theorem dX5_refusal_44 : decode cX5_refusal 44 = .ok (.istore 4, 2) := by decide +kernel
theorem dX5_refusal_46 : decode cX5_refusal 46 = .ok (.iload 4, 2) := by decide +kernel
theorem dX5_refusal_48 : decode cX5_refusal 48 = .ok (.aload_n 0, 1) := by decide +kernel
theorem dX5_refusal_49 : decode cX5_refusal 49 = .ok (.getfield 54, 3) := by decide +kernel
theorem dX5_refusal_52 : decode cX5_refusal 52 = .ok (.if_icmp .ge 48, 3) := by decide +kernel
theorem dX5_refusal_55 : decode cX5_refusal 55 = .ok (.iload_n 3, 1) := by decide +kernel
theorem dX5_refusal_56 : decode cX5_refusal 56 = .ok (.iload 4, 2) := by decide +kernel
theorem dX5_refusal_58 : decode cX5_refusal 58 = .ok (.invokestatic 91, 3) := by decide +kernel
theorem dX5_refusal_61 : decode cX5_refusal 61 = .ok (.iconst 3, 1) := by decide +kernel
theorem dX5_refusal_62 : decode cX5_refusal 62 = .ok (.if_icmp .ne 32, 3) := by decide +kernel
theorem dX5_refusal_65 : decode cX5_refusal 65 = .ok (.aload_n 0, 1) := by decide +kernel
theorem dX5_refusal_66 : decode cX5_refusal 66 = .ok (.getfield 22, 3) := by decide +kernel
theorem dX5_refusal_69 : decode cX5_refusal 69 = .ok (.iload 4, 2) := by decide +kernel
theorem dX5_refusal_71 : decode cX5_refusal 71 = .ok (.laload, 1) := by decide +kernel
theorem dX5_refusal_72 : decode cX5_refusal 72 = .ok (.lconst 0, 1) := by decide +kernel
theorem dX5_refusal_73 : decode cX5_refusal 73 = .ok (.lcmp, 1) := by decide +kernel
theorem dX5_refusal_74 : decode cX5_refusal 74 = .ok (.ifCond .eq 20, 3) := by decide +kernel
theorem dX5_refusal_77 : decode cX5_refusal 77 = .ok (.aload_n 0, 1) := by decide +kernel
theorem dX5_refusal_78 : decode cX5_refusal 78 = .ok (.aload_n 0, 1) := by decide +kernel
theorem dX5_refusal_79 : decode cX5_refusal 79 = .ok (.getfield 22, 3) := by decide +kernel
theorem dX5_refusal_82 : decode cX5_refusal 82 = .ok (.iload 4, 2) := by decide +kernel
theorem dX5_refusal_84 : decode cX5_refusal 84 = .ok (.laload, 1) := by decide +kernel
theorem dX5_refusal_85 : decode cX5_refusal 85 = .ok (.invokevirtual 62, 3) := by decide +kernel
theorem dX5_refusal_88 : decode cX5_refusal 88 = .ok (.ifCond .ne 6, 3) := by decide +kernel
theorem dX5_refusal_91 : decode cX5_refusal 91 = .ok (.bipush (-2), 2) := by decide +kernel
theorem dX5_refusal_93 : decode cX5_refusal 93 = .ok (.ireturn, 1) := by decide +kernel
theorem dX5_refusal_94 : decode cX5_refusal 94 = .ok (.iinc 4 1, 3) := by decide +kernel
theorem dX5_refusal_97 : decode cX5_refusal 97 = .ok (.goto (-51), 3) := by decide +kernel
theorem dX5_refusal_100 : decode cX5_refusal 100 = .ok (.iload_n 2, 1) := by decide +kernel
theorem dX5_refusal_101 : decode cX5_refusal 101 = .ok (.ifCond .lt 9, 3) := by decide +kernel
theorem dX5_refusal_104 : decode cX5_refusal 104 = .ok (.iload_n 2, 1) := by decide +kernel
theorem dX5_refusal_105 : decode cX5_refusal 105 = .ok (.ldc 95, 2) := by decide +kernel
theorem dX5_refusal_107 : decode cX5_refusal 107 = .ok (.if_icmp .le 8, 3) := by decide +kernel
theorem dX5_refusal_110 : decode cX5_refusal 110 = .ok (.bipush (-3), 2) := by decide +kernel
theorem dX5_refusal_112 : decode cX5_refusal 112 = .ok (.goto 4, 3) := by decide +kernel
theorem dX5_refusal_115 : decode cX5_refusal 115 = .ok (.iconst 0, 1) := by decide +kernel
theorem dX5_refusal_116 : decode cX5_refusal 116 = .ok (.ireturn, 1) := by decide +kernel
theorem dX5_setField_0 : decode cX5_setField 0 = .ok (.iload_n 1, 1) := by decide +kernel
theorem dX5_setField_1 : decode cX5_setField 1 = .ok (.ifCond .lt 9, 3) := by decide +kernel
theorem dX5_setField_4 : decode cX5_setField 4 = .ok (.iload_n 1, 1) := by decide +kernel
theorem dX5_setField_5 : decode cX5_setField 5 = .ok (.bipush 24, 2) := by decide +kernel
theorem dX5_setField_7 : decode cX5_setField 7 = .ok (.if_icmp .lt 14, 3) := by decide +kernel
theorem dX5_setField_10 : decode cX5_setField 10 = .ok (.aload_n 0, 1) := by decide +kernel
theorem dX5_setField_11 : decode cX5_setField 11 = .ok (.dup, 1) := by decide +kernel
theorem dX5_setField_12 : decode cX5_setField 12 = .ok (.getfield 76, 3) := by decide +kernel
theorem dX5_setField_15 : decode cX5_setField 15 = .ok (.iconst 1, 1) := by decide +kernel
theorem dX5_setField_16 : decode cX5_setField 16 = .ok (.iadd, 1) := by decide +kernel
theorem dX5_setField_17 : decode cX5_setField 17 = .ok (.putfield 76, 3) := by decide +kernel
theorem dX5_setField_20 : decode cX5_setField 20 = .ok (.return_, 1) := by decide +kernel
theorem dX5_setField_21 : decode cX5_setField 21 = .ok (.aload_n 0, 1) := by decide +kernel
theorem dX5_setField_22 : decode cX5_setField 22 = .ok (.getfield 9, 3) := by decide +kernel
theorem dX5_setField_25 : decode cX5_setField 25 = .ok (.iload_n 1, 1) := by decide +kernel
theorem dX5_setField_26 : decode cX5_setField 26 = .ok (.lload_n 2, 1) := by decide +kernel
theorem dX5_setField_27 : decode cX5_setField 27 = .ok (.lastore, 1) := by decide +kernel
theorem dX5_setField_28 : decode cX5_setField 28 = .ok (.return_, 1) := by decide +kernel
theorem dX5_setFrame_0 : decode cX5_setFrame 0 = .ok (.aload_n 0, 1) := by decide +kernel
theorem dX5_setFrame_1 : decode cX5_setFrame 1 = .ok (.getfield 106, 3) := by decide +kernel
theorem dX5_setFrame_4 : decode cX5_setFrame 4 = .ok (.ifCond .lt 26, 3) := by decide +kernel
theorem dX5_setFrame_7 : decode cX5_setFrame 7 = .ok (.aload_n 0, 1) := by decide +kernel
theorem dX5_setFrame_8 : decode cX5_setFrame 8 = .ok (.getfield 106, 3) := by decide +kernel
theorem dX5_setFrame_11 : decode cX5_setFrame 11 = .ok (.bipush 60, 2) := by decide +kernel
theorem dX5_setFrame_13 : decode cX5_setFrame 13 = .ok (.if_icmp .ge 17, 3) := by decide +kernel
theorem dX5_setFrame_16 : decode cX5_setFrame 16 = .ok (.aload_n 0, 1) := by decide +kernel
theorem dX5_setFrame_17 : decode cX5_setFrame 17 = .ok (.getfield 31, 3) := by decide +kernel
theorem dX5_setFrame_20 : decode cX5_setFrame 20 = .ok (.iconst 3, 1) := by decide +kernel
theorem dX5_setFrame_21 : decode cX5_setFrame 21 = .ok (.aload_n 0, 1) := by decide +kernel
theorem dX5_setFrame_22 : decode cX5_setFrame 22 = .ok (.getfield 106, 3) := by decide +kernel
theorem dX5_setFrame_25 : decode cX5_setFrame 25 = .ok (.imul, 1) := by decide +kernel
theorem dX5_setFrame_26 : decode cX5_setFrame 26 = .ok (.iload_n 1, 1) := by decide +kernel
theorem dX5_setFrame_27 : decode cX5_setFrame 27 = .ok (.iadd, 1) := by decide +kernel
theorem dX5_setFrame_28 : decode cX5_setFrame 28 = .ok (.iload_n 2, 1) := by decide +kernel
theorem dX5_setFrame_29 : decode cX5_setFrame 29 = .ok (.iastore, 1) := by decide +kernel
theorem dX5_setFrame_30 : decode cX5_setFrame 30 = .ok (.return_, 1) := by decide +kernel
theorem dX5_setLocal_0 : decode cX5_setLocal 0 = .ok (.aload_n 0, 1) := by decide +kernel
theorem dX5_setLocal_1 : decode cX5_setLocal 1 = .ok (.getfield 106, 3) := by decide +kernel
theorem dX5_setLocal_4 : decode cX5_setLocal 4 = .ok (.bipush 24, 2) := by decide +kernel
theorem dX5_setLocal_6 : decode cX5_setLocal 6 = .ok (.imul, 1) := by decide +kernel
theorem dX5_setLocal_7 : decode cX5_setLocal 7 = .ok (.iload_n 1, 1) := by decide +kernel
theorem dX5_setLocal_8 : decode cX5_setLocal 8 = .ok (.iadd, 1) := by decide +kernel
theorem dX5_setLocal_9 : decode cX5_setLocal 9 = .ok (.istore 4, 2) := by decide +kernel
theorem dX5_setLocal_11 : decode cX5_setLocal 11 = .ok (.iload_n 1, 1) := by decide +kernel
theorem dX5_setLocal_12 : decode cX5_setLocal 12 = .ok (.ifCond .lt 24, 3) := by decide +kernel
theorem dX5_setLocal_15 : decode cX5_setLocal 15 = .ok (.iload_n 1, 1) := by decide +kernel
theorem dX5_setLocal_16 : decode cX5_setLocal 16 = .ok (.bipush 24, 2) := by decide +kernel
theorem dX5_setLocal_18 : decode cX5_setLocal 18 = .ok (.if_icmp .ge 18, 3) := by decide +kernel
theorem dX5_setLocal_21 : decode cX5_setLocal 21 = .ok (.iload 4, 2) := by decide +kernel
theorem dX5_setLocal_23 : decode cX5_setLocal 23 = .ok (.ifCond .lt 13, 3) := by decide +kernel
theorem dX5_setLocal_26 : decode cX5_setLocal 26 = .ok (.iload 4, 2) := by decide +kernel
theorem dX5_setLocal_28 : decode cX5_setLocal 28 = .ok (.aload_n 0, 1) := by decide +kernel
theorem dX5_setLocal_29 : decode cX5_setLocal 29 = .ok (.getfield 25, 3) := by decide +kernel
theorem dX5_setLocal_32 : decode cX5_setLocal 32 = .ok (.arraylength, 1) := by decide +kernel
theorem dX5_setLocal_33 : decode cX5_setLocal 33 = .ok (.if_icmp .lt 14, 3) := by decide +kernel
theorem dX5_setLocal_36 : decode cX5_setLocal 36 = .ok (.aload_n 0, 1) := by decide +kernel
theorem dX5_setLocal_37 : decode cX5_setLocal 37 = .ok (.dup, 1) := by decide +kernel
theorem dX5_setLocal_38 : decode cX5_setLocal 38 = .ok (.getfield 76, 3) := by decide +kernel
theorem dX5_setLocal_41 : decode cX5_setLocal 41 = .ok (.iconst 1, 1) := by decide +kernel
theorem dX5_setLocal_42 : decode cX5_setLocal 42 = .ok (.iadd, 1) := by decide +kernel
theorem dX5_setLocal_43 : decode cX5_setLocal 43 = .ok (.putfield 76, 3) := by decide +kernel
theorem dX5_setLocal_46 : decode cX5_setLocal 46 = .ok (.return_, 1) := by decide +kernel
theorem dX5_setLocal_47 : decode cX5_setLocal 47 = .ok (.aload_n 0, 1) := by decide +kernel
theorem dX5_setLocal_48 : decode cX5_setLocal 48 = .ok (.getfield 25, 3) := by decide +kernel
theorem dX5_setLocal_51 : decode cX5_setLocal 51 = .ok (.iload 4, 2) := by decide +kernel
theorem dX5_setLocal_53 : decode cX5_setLocal 53 = .ok (.lload_n 2, 1) := by decide +kernel
theorem dX5_setLocal_54 : decode cX5_setLocal 54 = .ok (.lastore, 1) := by decide +kernel
theorem dX5_setLocal_55 : decode cX5_setLocal 55 = .ok (.return_, 1) := by decide +kernel
theorem dX5_setStage_0 : decode cX5_setStage 0 = .ok (.aload_n 0, 1) := by decide +kernel
theorem dX5_setStage_1 : decode cX5_setStage 1 = .ok (.aload_n 1, 1) := by decide +kernel
theorem dX5_setStage_2 : decode cX5_setStage 2 = .ok (.putfield 38, 3) := by decide +kernel
theorem dX5_setStage_5 : decode cX5_setStage 5 = .ok (.aload_n 0, 1) := by decide +kernel
theorem dX5_setStage_6 : decode cX5_setStage 6 = .ok (.getfield 9, 3) := by decide +kernel
theorem dX5_setStage_9 : decode cX5_setStage 9 = .ok (.lconst 0, 1) := by decide +kernel
theorem dX5_setStage_10 : decode cX5_setStage 10 = .ok (.invokestatic 42, 3) := by decide +kernel
theorem dX5_setStage_13 : decode cX5_setStage 13 = .ok (.aload_n 0, 1) := by decide +kernel
theorem dX5_setStage_14 : decode cX5_setStage 14 = .ok (.iconst 0, 1) := by decide +kernel
theorem dX5_setStage_15 : decode cX5_setStage 15 = .ok (.putfield 48, 3) := by decide +kernel
theorem dX5_setStage_18 : decode cX5_setStage 18 = .ok (.aload_n 0, 1) := by decide +kernel
theorem dX5_setStage_19 : decode cX5_setStage 19 = .ok (.iconst 0, 1) := by decide +kernel
theorem dX5_setStage_20 : decode cX5_setStage 20 = .ok (.putfield 51, 3) := by decide +kernel
theorem dX5_setStage_23 : decode cX5_setStage 23 = .ok (.return_, 1) := by decide +kernel
theorem dX5_shuffle_0 : decode cX5_shuffle 0 = .ok (.aload_n 0, 1) := by decide +kernel
theorem dX5_shuffle_1 : decode cX5_shuffle 1 = .ok (.invokevirtual 141, 3) := by decide +kernel
theorem dX5_shuffle_4 : decode cX5_shuffle 4 = .ok (.lstore_n 2, 1) := by decide +kernel
theorem dX5_shuffle_5 : decode cX5_shuffle 5 = .ok (.iload_n 1, 1) := by decide +kernel
theorem dX5_shuffle_6 : decode cX5_shuffle 6 = .ok (.bipush 87, 2) := by decide +kernel
theorem dX5_shuffle_8 : decode cX5_shuffle 8 = .ok (.if_icmp .eq 9, 3) := by decide +kernel
theorem dX5_shuffle_11 : decode cX5_shuffle 11 = .ok (.iload_n 1, 1) := by decide +kernel
theorem dX5_shuffle_12 : decode cX5_shuffle 12 = .ok (.bipush 89, 2) := by decide +kernel
theorem dX5_shuffle_14 : decode cX5_shuffle 14 = .ok (.if_icmp .ne 7, 3) := by decide +kernel
theorem dX5_shuffle_17 : decode cX5_shuffle 17 = .ok (.lconst 0, 1) := by decide +kernel
theorem dX5_shuffle_18 : decode cX5_shuffle 18 = .ok (.goto 7, 3) := by decide +kernel
theorem dX5_shuffle_21 : decode cX5_shuffle 21 = .ok (.aload_n 0, 1) := by decide +kernel
theorem dX5_shuffle_22 : decode cX5_shuffle 22 = .ok (.invokevirtual 141, 3) := by decide +kernel
theorem dX5_shuffle_25 : decode cX5_shuffle 25 = .ok (.lstore 4, 2) := by decide +kernel
theorem dX5_shuffle_27 : decode cX5_shuffle 27 = .ok (.iload_n 1, 1) := by decide +kernel
theorem dX5_shuffle_28 : decode cX5_shuffle 28 = .ok (.tableswitch 115 89 95 #[44, 57, 115, 76, 115, 115, 101], 44) := by decide +kernel
theorem dX5_shuffle_72 : decode cX5_shuffle 72 = .ok (.aload_n 0, 1) := by decide +kernel
theorem dX5_shuffle_73 : decode cX5_shuffle 73 = .ok (.lload_n 2, 1) := by decide +kernel
theorem dX5_shuffle_74 : decode cX5_shuffle 74 = .ok (.invokevirtual 137, 3) := by decide +kernel
theorem dX5_shuffle_77 : decode cX5_shuffle 77 = .ok (.aload_n 0, 1) := by decide +kernel
theorem dX5_shuffle_78 : decode cX5_shuffle 78 = .ok (.lload_n 2, 1) := by decide +kernel
theorem dX5_shuffle_79 : decode cX5_shuffle 79 = .ok (.invokevirtual 137, 3) := by decide +kernel
theorem dX5_shuffle_82 : decode cX5_shuffle 82 = .ok (.goto 61, 3) := by decide +kernel
theorem dX5_shuffle_85 : decode cX5_shuffle 85 = .ok (.aload_n 0, 1) := by decide +kernel
theorem dX5_shuffle_86 : decode cX5_shuffle 86 = .ok (.lload_n 2, 1) := by decide +kernel
theorem dX5_shuffle_87 : decode cX5_shuffle 87 = .ok (.invokevirtual 137, 3) := by decide +kernel
theorem dX5_shuffle_90 : decode cX5_shuffle 90 = .ok (.aload_n 0, 1) := by decide +kernel
theorem dX5_shuffle_91 : decode cX5_shuffle 91 = .ok (.lload 4, 2) := by decide +kernel
theorem dX5_shuffle_93 : decode cX5_shuffle 93 = .ok (.invokevirtual 137, 3) := by decide +kernel
theorem dX5_shuffle_96 : decode cX5_shuffle 96 = .ok (.aload_n 0, 1) := by decide +kernel
theorem dX5_shuffle_97 : decode cX5_shuffle 97 = .ok (.lload_n 2, 1) := by decide +kernel
theorem dX5_shuffle_98 : decode cX5_shuffle 98 = .ok (.invokevirtual 137, 3) := by decide +kernel
theorem dX5_shuffle_101 : decode cX5_shuffle 101 = .ok (.goto 42, 3) := by decide +kernel
theorem dX5_shuffle_104 : decode cX5_shuffle 104 = .ok (.aload_n 0, 1) := by decide +kernel
theorem dX5_shuffle_105 : decode cX5_shuffle 105 = .ok (.lload 4, 2) := by decide +kernel
theorem dX5_shuffle_107 : decode cX5_shuffle 107 = .ok (.invokevirtual 137, 3) := by decide +kernel
theorem dX5_shuffle_110 : decode cX5_shuffle 110 = .ok (.aload_n 0, 1) := by decide +kernel
theorem dX5_shuffle_111 : decode cX5_shuffle 111 = .ok (.lload_n 2, 1) := by decide +kernel
theorem dX5_shuffle_112 : decode cX5_shuffle 112 = .ok (.invokevirtual 137, 3) := by decide +kernel
theorem dX5_shuffle_115 : decode cX5_shuffle 115 = .ok (.aload_n 0, 1) := by decide +kernel
theorem dX5_shuffle_116 : decode cX5_shuffle 116 = .ok (.lload 4, 2) := by decide +kernel
theorem dX5_shuffle_118 : decode cX5_shuffle 118 = .ok (.invokevirtual 137, 3) := by decide +kernel
theorem dX5_shuffle_121 : decode cX5_shuffle 121 = .ok (.aload_n 0, 1) := by decide +kernel
theorem dX5_shuffle_122 : decode cX5_shuffle 122 = .ok (.lload_n 2, 1) := by decide +kernel
theorem dX5_shuffle_123 : decode cX5_shuffle 123 = .ok (.invokevirtual 137, 3) := by decide +kernel
theorem dX5_shuffle_126 : decode cX5_shuffle 126 = .ok (.goto 17, 3) := by decide +kernel
theorem dX5_shuffle_129 : decode cX5_shuffle 129 = .ok (.aload_n 0, 1) := by decide +kernel
theorem dX5_shuffle_130 : decode cX5_shuffle 130 = .ok (.lload_n 2, 1) := by decide +kernel
theorem dX5_shuffle_131 : decode cX5_shuffle 131 = .ok (.invokevirtual 137, 3) := by decide +kernel
theorem dX5_shuffle_134 : decode cX5_shuffle 134 = .ok (.aload_n 0, 1) := by decide +kernel
theorem dX5_shuffle_135 : decode cX5_shuffle 135 = .ok (.lload 4, 2) := by decide +kernel
theorem dX5_shuffle_137 : decode cX5_shuffle 137 = .ok (.invokevirtual 137, 3) := by decide +kernel
theorem dX5_shuffle_140 : decode cX5_shuffle 140 = .ok (.goto 3, 3) := by decide +kernel
theorem dX5_shuffle_143 : decode cX5_shuffle 143 = .ok (.return_, 1) := by decide +kernel
theorem dX5_step_0 : decode cX5_step 0 = .ok (.aload_n 0, 1) := by decide +kernel
theorem dX5_step_1 : decode cX5_step 1 = .ok (.getfield 119, 3) := by decide +kernel
theorem dX5_step_4 : decode cX5_step 4 = .ok (.aload_n 0, 1) := by decide +kernel
theorem dX5_step_5 : decode cX5_step 5 = .ok (.getfield 123, 3) := by decide +kernel
theorem dX5_step_8 : decode cX5_step 8 = .ok (.invokevirtual 145, 3) := by decide +kernel
theorem dX5_step_11 : decode cX5_step 11 = .ok (.istore_n 1, 1) := by decide +kernel
theorem dX5_step_12 : decode cX5_step 12 = .ok (.aload_n 0, 1) := by decide +kernel
theorem dX5_step_13 : decode cX5_step 13 = .ok (.getfield 119, 3) := by decide +kernel
theorem dX5_step_16 : decode cX5_step 16 = .ok (.aload_n 0, 1) := by decide +kernel
theorem dX5_step_17 : decode cX5_step 17 = .ok (.getfield 123, 3) := by decide +kernel
theorem dX5_step_20 : decode cX5_step 20 = .ok (.invokevirtual 150, 3) := by decide +kernel
theorem dX5_step_23 : decode cX5_step 23 = .ok (.aload_n 0, 1) := by decide +kernel
theorem dX5_step_24 : decode cX5_step 24 = .ok (.getfield 126, 3) := by decide +kernel
theorem dX5_step_27 : decode cX5_step 27 = .ok (.if_icmp .eq 13, 3) := by decide +kernel
theorem dX5_step_30 : decode cX5_step 30 = .ok (.aload_n 0, 1) := by decide +kernel
theorem dX5_step_31 : decode cX5_step 31 = .ok (.dup, 1) := by decide +kernel
theorem dX5_step_32 : decode cX5_step 32 = .ok (.getfield 76, 3) := by decide +kernel
theorem dX5_step_35 : decode cX5_step 35 = .ok (.iconst 1, 1) := by decide +kernel
theorem dX5_step_36 : decode cX5_step 36 = .ok (.iadd, 1) := by decide +kernel
theorem dX5_step_37 : decode cX5_step 37 = .ok (.putfield 76, 3) := by decide +kernel
theorem dX5_step_40 : decode cX5_step 40 = .ok (.iload_n 1, 1) := by decide +kernel
theorem dX5_step_41 : decode cX5_step 41 = .ok (.invokestatic 153, 3) := by decide +kernel
theorem dX5_step_44 : decode cX5_step 44 = .ok (.ifCond .eq 11, 3) := by decide +kernel
theorem dX5_step_47 : decode cX5_step 47 = .ok (.aload_n 0, 1) := by decide +kernel
theorem dX5_step_48 : decode cX5_step 48 = .ok (.iload_n 1, 1) := by decide +kernel
theorem dX5_step_49 : decode cX5_step 49 = .ok (.invokevirtual 157, 3) := by decide +kernel
theorem dX5_step_52 : decode cX5_step 52 = .ok (.goto 215, 3) := by decide +kernel
theorem dX5_step_55 : decode cX5_step 55 = .ok (.iload_n 1, 1) := by decide +kernel
theorem dX5_step_56 : decode cX5_step 56 = .ok (.invokestatic 160, 3) := by decide +kernel
theorem dX5_step_59 : decode cX5_step 59 = .ok (.ifCond .eq 36, 3) := by decide +kernel
theorem dX5_step_62 : decode cX5_step 62 = .ok (.aload_n 0, 1) := by decide +kernel
theorem dX5_step_63 : decode cX5_step 63 = .ok (.iload_n 1, 1) := by decide +kernel
theorem dX5_step_64 : decode cX5_step 64 = .ok (.invokestatic 163, 3) := by decide +kernel
theorem dX5_step_67 : decode cX5_step 67 = .ok (.iload_n 1, 1) := by decide +kernel
theorem dX5_step_68 : decode cX5_step 68 = .ok (.aload_n 0, 1) := by decide +kernel
theorem dX5_step_69 : decode cX5_step 69 = .ok (.iload_n 1, 1) := by decide +kernel
theorem dX5_step_70 : decode cX5_step 70 = .ok (.invokestatic 166, 3) := by decide +kernel
theorem dX5_step_73 : decode cX5_step 73 = .ok (.invokevirtual 169, 3) := by decide +kernel
theorem dX5_step_76 : decode cX5_step 76 = .ok (.invokestatic 172, 3) := by decide +kernel
theorem dX5_step_79 : decode cX5_step 79 = .ok (.invokevirtual 176, 3) := by decide +kernel
theorem dX5_step_82 : decode cX5_step 82 = .ok (.aload_n 0, 1) := by decide +kernel
theorem dX5_step_83 : decode cX5_step 83 = .ok (.dup, 1) := by decide +kernel
theorem dX5_step_84 : decode cX5_step 84 = .ok (.getfield 123, 3) := by decide +kernel
theorem dX5_step_87 : decode cX5_step 87 = .ok (.iconst 1, 1) := by decide +kernel
theorem dX5_step_88 : decode cX5_step 88 = .ok (.iadd, 1) := by decide +kernel
theorem dX5_step_89 : decode cX5_step 89 = .ok (.putfield 123, 3) := by decide +kernel
theorem dX5_step_92 : decode cX5_step 92 = .ok (.goto 175, 3) := by decide +kernel
theorem dX5_step_95 : decode cX5_step 95 = .ok (.iload_n 1, 1) := by decide +kernel
theorem dX5_step_96 : decode cX5_step 96 = .ok (.invokestatic 178, 3) := by decide +kernel
theorem dX5_step_99 : decode cX5_step 99 = .ok (.ifCond .eq 39, 3) := by decide +kernel
theorem dX5_step_102 : decode cX5_step 102 = .ok (.aload_n 0, 1) := by decide +kernel
theorem dX5_step_103 : decode cX5_step 103 = .ok (.aload_n 0, 1) := by decide +kernel
theorem dX5_step_104 : decode cX5_step 104 = .ok (.iload_n 1, 1) := by decide +kernel
theorem dX5_step_105 : decode cX5_step 105 = .ok (.invokevirtual 181, 3) := by decide +kernel
theorem dX5_step_108 : decode cX5_step 108 = .ok (.ifCond .eq 18, 3) := by decide +kernel
theorem dX5_step_111 : decode cX5_step 111 = .ok (.aload_n 0, 1) := by decide +kernel
theorem dX5_step_112 : decode cX5_step 112 = .ok (.getfield 119, 3) := by decide +kernel
theorem dX5_step_115 : decode cX5_step 115 = .ok (.aload_n 0, 1) := by decide +kernel
theorem dX5_step_116 : decode cX5_step 116 = .ok (.getfield 123, 3) := by decide +kernel
theorem dX5_step_119 : decode cX5_step 119 = .ok (.invokevirtual 184, 3) := by decide +kernel
theorem dX5_step_122 : decode cX5_step 122 = .ok (.l2i, 1) := by decide +kernel
theorem dX5_step_123 : decode cX5_step 123 = .ok (.goto 9, 3) := by decide +kernel
theorem dX5_step_126 : decode cX5_step 126 = .ok (.aload_n 0, 1) := by decide +kernel
theorem dX5_step_127 : decode cX5_step 127 = .ok (.getfield 123, 3) := by decide +kernel
theorem dX5_step_130 : decode cX5_step 130 = .ok (.iconst 1, 1) := by decide +kernel
theorem dX5_step_131 : decode cX5_step 131 = .ok (.iadd, 1) := by decide +kernel
theorem dX5_step_132 : decode cX5_step 132 = .ok (.putfield 123, 3) := by decide +kernel
theorem dX5_step_135 : decode cX5_step 135 = .ok (.goto 132, 3) := by decide +kernel
theorem dX5_step_138 : decode cX5_step 138 = .ok (.iload_n 1, 1) := by decide +kernel
theorem dX5_step_139 : decode cX5_step 139 = .ok (.invokestatic 187, 3) := by decide +kernel
theorem dX5_step_142 : decode cX5_step 142 = .ok (.ifCond .eq 31, 3) := by decide +kernel
theorem dX5_step_145 : decode cX5_step 145 = .ok (.aload_n 0, 1) := by decide +kernel
theorem dX5_step_146 : decode cX5_step 146 = .ok (.aload_n 0, 1) := by decide +kernel
theorem dX5_step_147 : decode cX5_step 147 = .ok (.getfield 119, 3) := by decide +kernel
theorem dX5_step_150 : decode cX5_step 150 = .ok (.aload_n 0, 1) := by decide +kernel
theorem dX5_step_151 : decode cX5_step 151 = .ok (.getfield 123, 3) := by decide +kernel
theorem dX5_step_154 : decode cX5_step 154 = .ok (.aload_n 0, 1) := by decide +kernel
theorem dX5_step_155 : decode cX5_step 155 = .ok (.iload_n 1, 1) := by decide +kernel
theorem dX5_step_156 : decode cX5_step 156 = .ok (.aload_n 0, 1) := by decide +kernel
theorem dX5_step_157 : decode cX5_step 157 = .ok (.invokevirtual 141, 3) := by decide +kernel
theorem dX5_step_160 : decode cX5_step 160 = .ok (.l2i, 1) := by decide +kernel
theorem dX5_step_161 : decode cX5_step 161 = .ok (.invokevirtual 190, 3) := by decide +kernel
theorem dX5_step_164 : decode cX5_step 164 = .ok (.invokevirtual 193, 3) := by decide +kernel
theorem dX5_step_167 : decode cX5_step 167 = .ok (.putfield 123, 3) := by decide +kernel
theorem dX5_step_170 : decode cX5_step 170 = .ok (.goto 97, 3) := by decide +kernel
theorem dX5_step_173 : decode cX5_step 173 = .ok (.iload_n 1, 1) := by decide +kernel
theorem dX5_step_174 : decode cX5_step 174 = .ok (.bipush 87, 2) := by decide +kernel
theorem dX5_step_176 : decode cX5_step 176 = .ok (.if_icmp .lt 27, 3) := by decide +kernel
theorem dX5_step_179 : decode cX5_step 179 = .ok (.iload_n 1, 1) := by decide +kernel
theorem dX5_step_180 : decode cX5_step 180 = .ok (.bipush 95, 2) := by decide +kernel
theorem dX5_step_182 : decode cX5_step 182 = .ok (.if_icmp .gt 21, 3) := by decide +kernel
theorem dX5_step_185 : decode cX5_step 185 = .ok (.aload_n 0, 1) := by decide +kernel
theorem dX5_step_186 : decode cX5_step 186 = .ok (.iload_n 1, 1) := by decide +kernel
theorem dX5_step_187 : decode cX5_step 187 = .ok (.invokevirtual 196, 3) := by decide +kernel
theorem dX5_step_190 : decode cX5_step 190 = .ok (.aload_n 0, 1) := by decide +kernel
theorem dX5_step_191 : decode cX5_step 191 = .ok (.dup, 1) := by decide +kernel
theorem dX5_step_192 : decode cX5_step 192 = .ok (.getfield 123, 3) := by decide +kernel
theorem dX5_step_195 : decode cX5_step 195 = .ok (.iconst 1, 1) := by decide +kernel
theorem dX5_step_196 : decode cX5_step 196 = .ok (.iadd, 1) := by decide +kernel
theorem dX5_step_197 : decode cX5_step 197 = .ok (.putfield 123, 3) := by decide +kernel
theorem dX5_step_200 : decode cX5_step 200 = .ok (.goto 67, 3) := by decide +kernel
theorem dX5_step_203 : decode cX5_step 203 = .ok (.iload_n 1, 1) := by decide +kernel
theorem dX5_step_204 : decode cX5_step 204 = .ok (.sipush 172, 3) := by decide +kernel
theorem dX5_step_207 : decode cX5_step 207 = .ok (.if_icmp .lt 18, 3) := by decide +kernel
theorem dX5_step_210 : decode cX5_step 210 = .ok (.iload_n 1, 1) := by decide +kernel
theorem dX5_step_211 : decode cX5_step 211 = .ok (.sipush 177, 3) := by decide +kernel
theorem dX5_step_214 : decode cX5_step 214 = .ok (.if_icmp .gt 11, 3) := by decide +kernel
theorem dX5_step_217 : decode cX5_step 217 = .ok (.aload_n 0, 1) := by decide +kernel
theorem dX5_step_218 : decode cX5_step 218 = .ok (.iload_n 1, 1) := by decide +kernel
theorem dX5_step_219 : decode cX5_step 219 = .ok (.invokevirtual 199, 3) := by decide +kernel
theorem dX5_step_222 : decode cX5_step 222 = .ok (.goto 45, 3) := by decide +kernel
theorem dX5_step_225 : decode cX5_step 225 = .ok (.iload_n 1, 1) := by decide +kernel
theorem dX5_step_226 : decode cX5_step 226 = .ok (.sipush 178, 3) := by decide +kernel
theorem dX5_step_229 : decode cX5_step 229 = .ok (.if_icmp .ge 15, 3) := by decide +kernel
theorem dX5_step_232 : decode cX5_step 232 = .ok (.iload_n 1, 1) := by decide +kernel
theorem dX5_step_233 : decode cX5_step 233 = .ok (.bipush 46, 2) := by decide +kernel
theorem dX5_step_235 : decode cX5_step 235 = .ok (.if_icmp .eq 9, 3) := by decide +kernel
theorem dX5_step_238 : decode cX5_step 238 = .ok (.iload_n 1, 1) := by decide +kernel
theorem dX5_step_239 : decode cX5_step 239 = .ok (.bipush 79, 2) := by decide +kernel
theorem dX5_step_241 : decode cX5_step 241 = .ok (.if_icmp .ne 11, 3) := by decide +kernel
theorem dX5_step_244 : decode cX5_step 244 = .ok (.aload_n 0, 1) := by decide +kernel
theorem dX5_step_245 : decode cX5_step 245 = .ok (.iload_n 1, 1) := by decide +kernel
theorem dX5_step_246 : decode cX5_step 246 = .ok (.invokevirtual 202, 3) := by decide +kernel
theorem dX5_step_249 : decode cX5_step 249 = .ok (.goto 18, 3) := by decide +kernel
theorem dX5_step_252 : decode cX5_step 252 = .ok (.aload_n 0, 1) := by decide +kernel
theorem dX5_step_253 : decode cX5_step 253 = .ok (.iload_n 1, 1) := by decide +kernel
theorem dX5_step_254 : decode cX5_step 254 = .ok (.invokevirtual 205, 3) := by decide +kernel
theorem dX5_step_257 : decode cX5_step 257 = .ok (.aload_n 0, 1) := by decide +kernel
theorem dX5_step_258 : decode cX5_step 258 = .ok (.dup, 1) := by decide +kernel
theorem dX5_step_259 : decode cX5_step 259 = .ok (.getfield 123, 3) := by decide +kernel
theorem dX5_step_262 : decode cX5_step 262 = .ok (.iconst 1, 1) := by decide +kernel
theorem dX5_step_263 : decode cX5_step 263 = .ok (.iadd, 1) := by decide +kernel
theorem dX5_step_264 : decode cX5_step 264 = .ok (.putfield 123, 3) := by decide +kernel
theorem dX5_step_267 : decode cX5_step 267 = .ok (.return_, 1) := by decide +kernel
theorem dX5_switchChoice_0 : decode cX5_switchChoice 0 = .ok (.aload_n 0, 1) := by decide +kernel
theorem dX5_switchChoice_1 : decode cX5_switchChoice 1 = .ok (.getfield 119, 3) := by decide +kernel
theorem dX5_switchChoice_4 : decode cX5_switchChoice 4 = .ok (.aload_n 0, 1) := by decide +kernel
theorem dX5_switchChoice_5 : decode cX5_switchChoice 5 = .ok (.getfield 123, 3) := by decide +kernel
theorem dX5_switchChoice_8 : decode cX5_switchChoice 8 = .ok (.invokevirtual 184, 3) := by decide +kernel
theorem dX5_switchChoice_11 : decode cX5_switchChoice 11 = .ok (.l2i, 1) := by decide +kernel
theorem dX5_switchChoice_12 : decode cX5_switchChoice 12 = .ok (.istore_n 3, 1) := by decide +kernel
theorem dX5_switchChoice_13 : decode cX5_switchChoice 13 = .ok (.aload_n 0, 1) := by decide +kernel
theorem dX5_switchChoice_14 : decode cX5_switchChoice 14 = .ok (.getfield 119, 3) := by decide +kernel
theorem dX5_switchChoice_17 : decode cX5_switchChoice 17 = .ok (.aload_n 0, 1) := by decide +kernel
theorem dX5_switchChoice_18 : decode cX5_switchChoice 18 = .ok (.getfield 123, 3) := by decide +kernel
theorem dX5_switchChoice_21 : decode cX5_switchChoice 21 = .ok (.invokevirtual 222, 3) := by decide +kernel
theorem dX5_switchChoice_24 : decode cX5_switchChoice 24 = .ok (.iconst 1, 1) := by decide +kernel
theorem dX5_switchChoice_25 : decode cX5_switchChoice 25 = .ok (.isub, 1) := by decide +kernel
theorem dX5_switchChoice_26 : decode cX5_switchChoice 26 = .ok (.istore 4, 2) := by decide +kernel
theorem dX5_switchChoice_28 : decode cX5_switchChoice 28 = .ok (.iload_n 1, 1) := by decide +kernel
theorem dX5_switchChoice_29 : decode cX5_switchChoice 29 = .ok (.sipush 170, 3) := by decide +kernel
theorem dX5_switchChoice_32 : decode cX5_switchChoice 32 = .ok (.if_icmp .ne 45, 3) := by decide +kernel
theorem dX5_switchChoice_35 : decode cX5_switchChoice 35 = .ok (.iload_n 2, 1) := by decide +kernel
theorem dX5_switchChoice_36 : decode cX5_switchChoice 36 = .ok (.i2l, 1) := by decide +kernel
theorem dX5_switchChoice_37 : decode cX5_switchChoice 37 = .ok (.aload_n 0, 1) := by decide +kernel
theorem dX5_switchChoice_38 : decode cX5_switchChoice 38 = .ok (.getfield 119, 3) := by decide +kernel
theorem dX5_switchChoice_41 : decode cX5_switchChoice 41 = .ok (.iload_n 3, 1) := by decide +kernel
theorem dX5_switchChoice_42 : decode cX5_switchChoice 42 = .ok (.iconst 1, 1) := by decide +kernel
theorem dX5_switchChoice_43 : decode cX5_switchChoice 43 = .ok (.iadd, 1) := by decide +kernel
theorem dX5_switchChoice_44 : decode cX5_switchChoice 44 = .ok (.invokevirtual 225, 3) := by decide +kernel
theorem dX5_switchChoice_47 : decode cX5_switchChoice 47 = .ok (.i2l, 1) := by decide +kernel
theorem dX5_switchChoice_48 : decode cX5_switchChoice 48 = .ok (.lsub, 1) := by decide +kernel
theorem dX5_switchChoice_49 : decode cX5_switchChoice 49 = .ok (.lstore 5, 2) := by decide +kernel
theorem dX5_switchChoice_51 : decode cX5_switchChoice 51 = .ok (.lload 5, 2) := by decide +kernel
theorem dX5_switchChoice_53 : decode cX5_switchChoice 53 = .ok (.lconst 0, 1) := by decide +kernel
theorem dX5_switchChoice_54 : decode cX5_switchChoice 54 = .ok (.lcmp, 1) := by decide +kernel
theorem dX5_switchChoice_55 : decode cX5_switchChoice 55 = .ok (.ifCond .lt 12, 3) := by decide +kernel
theorem dX5_switchChoice_58 : decode cX5_switchChoice 58 = .ok (.lload 5, 2) := by decide +kernel
theorem dX5_switchChoice_60 : decode cX5_switchChoice 60 = .ok (.iload 4, 2) := by decide +kernel
theorem dX5_switchChoice_62 : decode cX5_switchChoice 62 = .ok (.i2l, 1) := by decide +kernel
theorem dX5_switchChoice_63 : decode cX5_switchChoice 63 = .ok (.lcmp, 1) := by decide +kernel
theorem dX5_switchChoice_64 : decode cX5_switchChoice 64 = .ok (.ifCond .lt 7, 3) := by decide +kernel
theorem dX5_switchChoice_67 : decode cX5_switchChoice 67 = .ok (.iconst 0, 1) := by decide +kernel
theorem dX5_switchChoice_68 : decode cX5_switchChoice 68 = .ok (.goto 8, 3) := by decide +kernel
theorem dX5_switchChoice_71 : decode cX5_switchChoice 71 = .ok (.lload 5, 2) := by decide +kernel
theorem dX5_switchChoice_73 : decode cX5_switchChoice 73 = .ok (.l2i, 1) := by decide +kernel
theorem dX5_switchChoice_74 : decode cX5_switchChoice 74 = .ok (.iconst 1, 1) := by decide +kernel
theorem dX5_switchChoice_75 : decode cX5_switchChoice 75 = .ok (.iadd, 1) := by decide +kernel
theorem dX5_switchChoice_76 : decode cX5_switchChoice 76 = .ok (.ireturn, 1) := by decide +kernel
theorem dX5_switchChoice_77 : decode cX5_switchChoice 77 = .ok (.iconst 1, 1) := by decide +kernel
theorem dX5_switchChoice_78 : decode cX5_switchChoice 78 = .ok (.istore 5, 2) := by decide +kernel
theorem dX5_switchChoice_80 : decode cX5_switchChoice 80 = .ok (.iload 5, 2) := by decide +kernel
theorem dX5_switchChoice_82 : decode cX5_switchChoice 82 = .ok (.iload 4, 2) := by decide +kernel
theorem dX5_switchChoice_84 : decode cX5_switchChoice 84 = .ok (.if_icmp .gt 32, 3) := by decide +kernel
theorem dX5_switchChoice_87 : decode cX5_switchChoice 87 = .ok (.aload_n 0, 1) := by decide +kernel
theorem dX5_switchChoice_88 : decode cX5_switchChoice 88 = .ok (.getfield 119, 3) := by decide +kernel
theorem dX5_switchChoice_91 : decode cX5_switchChoice 91 = .ok (.iload_n 3, 1) := by decide +kernel
theorem dX5_switchChoice_92 : decode cX5_switchChoice 92 = .ok (.iconst 2, 1) := by decide +kernel
theorem dX5_switchChoice_93 : decode cX5_switchChoice 93 = .ok (.iadd, 1) := by decide +kernel
theorem dX5_switchChoice_94 : decode cX5_switchChoice 94 = .ok (.iload 4, 2) := by decide +kernel
theorem dX5_switchChoice_96 : decode cX5_switchChoice 96 = .ok (.iadd, 1) := by decide +kernel
theorem dX5_switchChoice_97 : decode cX5_switchChoice 97 = .ok (.iload 5, 2) := by decide +kernel
theorem dX5_switchChoice_99 : decode cX5_switchChoice 99 = .ok (.iadd, 1) := by decide +kernel
theorem dX5_switchChoice_100 : decode cX5_switchChoice 100 = .ok (.invokevirtual 225, 3) := by decide +kernel
theorem dX5_switchChoice_103 : decode cX5_switchChoice 103 = .ok (.iload_n 2, 1) := by decide +kernel
theorem dX5_switchChoice_104 : decode cX5_switchChoice 104 = .ok (.if_icmp .ne 6, 3) := by decide +kernel
theorem dX5_switchChoice_107 : decode cX5_switchChoice 107 = .ok (.iload 5, 2) := by decide +kernel
theorem dX5_switchChoice_109 : decode cX5_switchChoice 109 = .ok (.ireturn, 1) := by decide +kernel
theorem dX5_switchChoice_110 : decode cX5_switchChoice 110 = .ok (.iinc 5 1, 3) := by decide +kernel
theorem dX5_switchChoice_113 : decode cX5_switchChoice 113 = .ok (.goto (-33), 3) := by decide +kernel
theorem dX5_switchChoice_116 : decode cX5_switchChoice 116 = .ok (.iconst 0, 1) := by decide +kernel
theorem dX5_switchChoice_117 : decode cX5_switchChoice 117 = .ok (.ireturn, 1) := by decide +kernel
theorem dX5_tellLength_0 : decode cX5_tellLength 0 = .ok (.lload_n 1, 1) := by decide +kernel
theorem dX5_tellLength_1 : decode cX5_tellLength 1 = .ok (.lconst 0, 1) := by decide +kernel
theorem dX5_tellLength_2 : decode cX5_tellLength 2 = .ok (.lcmp, 1) := by decide +kernel
theorem dX5_tellLength_3 : decode cX5_tellLength 3 = .ok (.ifCond .ne 9, 3) := by decide +kernel
theorem dX5_tellLength_6 : decode cX5_tellLength 6 = .ok (.aload_n 0, 1) := by decide +kernel
theorem dX5_tellLength_7 : decode cX5_tellLength 7 = .ok (.iconst 1, 1) := by decide +kernel
theorem dX5_tellLength_8 : decode cX5_tellLength 8 = .ok (.invokevirtual 211, 3) := by decide +kernel
theorem dX5_tellLength_11 : decode cX5_tellLength 11 = .ok (.return_, 1) := by decide +kernel
theorem dX5_tellLength_12 : decode cX5_tellLength 12 = .ok (.aload_n 0, 1) := by decide +kernel
theorem dX5_tellLength_13 : decode cX5_tellLength 13 = .ok (.aload_n 0, 1) := by decide +kernel
theorem dX5_tellLength_14 : decode cX5_tellLength 14 = .ok (.lload_n 1, 1) := by decide +kernel
theorem dX5_tellLength_15 : decode cX5_tellLength 15 = .ok (.l2i, 1) := by decide +kernel
theorem dX5_tellLength_16 : decode cX5_tellLength 16 = .ok (.invokevirtual 70, 3) := by decide +kernel
theorem dX5_tellLength_19 : decode cX5_tellLength 19 = .ok (.i2l, 1) := by decide +kernel
theorem dX5_tellLength_20 : decode cX5_tellLength 20 = .ok (.invokevirtual 137, 3) := by decide +kernel
theorem dX5_tellLength_23 : decode cX5_tellLength 23 = .ok (.aload_n 0, 1) := by decide +kernel
theorem dX5_tellLength_24 : decode cX5_tellLength 24 = .ok (.dup, 1) := by decide +kernel
theorem dX5_tellLength_25 : decode cX5_tellLength 25 = .ok (.getfield 123, 3) := by decide +kernel
theorem dX5_tellLength_28 : decode cX5_tellLength 28 = .ok (.iconst 1, 1) := by decide +kernel
theorem dX5_tellLength_29 : decode cX5_tellLength 29 = .ok (.iadd, 1) := by decide +kernel
theorem dX5_tellLength_30 : decode cX5_tellLength 30 = .ok (.putfield 123, 3) := by decide +kernel
theorem dX5_tellLength_33 : decode cX5_tellLength 33 = .ok (.return_, 1) := by decide +kernel
theorem dX5_throwIt_0 : decode cX5_throwIt 0 = .ok (.aload_n 0, 1) := by decide +kernel
theorem dX5_throwIt_1 : decode cX5_throwIt 1 = .ok (.lload_n 1, 1) := by decide +kernel
theorem dX5_throwIt_2 : decode cX5_throwIt 2 = .ok (.lconst 0, 1) := by decide +kernel
theorem dX5_throwIt_3 : decode cX5_throwIt 3 = .ok (.lcmp, 1) := by decide +kernel
theorem dX5_throwIt_4 : decode cX5_throwIt 4 = .ok (.ifCond .ge 20, 3) := by decide +kernel
theorem dX5_throwIt_7 : decode cX5_throwIt 7 = .ok (.lload_n 1, 1) := by decide +kernel
theorem dX5_throwIt_8 : decode cX5_throwIt 8 = .ok (.ldc2_w 287, 3) := by decide +kernel
theorem dX5_throwIt_11 : decode cX5_throwIt 11 = .ok (.lcmp, 1) := by decide +kernel
theorem dX5_throwIt_12 : decode cX5_throwIt 12 = .ok (.ifCond .lt 12, 3) := by decide +kernel
theorem dX5_throwIt_15 : decode cX5_throwIt 15 = .ok (.ldc2_w 289, 3) := by decide +kernel
theorem dX5_throwIt_18 : decode cX5_throwIt 18 = .ok (.lload_n 1, 1) := by decide +kernel
theorem dX5_throwIt_19 : decode cX5_throwIt 19 = .ok (.lsub, 1) := by decide +kernel
theorem dX5_throwIt_20 : decode cX5_throwIt 20 = .ok (.l2i, 1) := by decide +kernel
theorem dX5_throwIt_21 : decode cX5_throwIt 21 = .ok (.goto 4, 3) := by decide +kernel
theorem dX5_throwIt_24 : decode cX5_throwIt 24 = .ok (.iconst 1, 1) := by decide +kernel
theorem dX5_throwIt_25 : decode cX5_throwIt 25 = .ok (.invokevirtual 211, 3) := by decide +kernel
theorem dX5_throwIt_28 : decode cX5_throwIt 28 = .ok (.return_, 1) := by decide +kernel
theorem dX5_useElement_0 : decode cX5_useElement 0 = .ok (.iload_n 1, 1) := by decide +kernel
theorem dX5_useElement_1 : decode cX5_useElement 1 = .ok (.bipush 79, 2) := by decide +kernel
theorem dX5_useElement_3 : decode cX5_useElement 3 = .ok (.if_icmp .ne 11, 3) := by decide +kernel
theorem dX5_useElement_6 : decode cX5_useElement 6 = .ok (.aload_n 0, 1) := by decide +kernel
theorem dX5_useElement_7 : decode cX5_useElement 7 = .ok (.invokevirtual 141, 3) := by decide +kernel
theorem dX5_useElement_10 : decode cX5_useElement 10 = .ok (.l2i, 1) := by decide +kernel
theorem dX5_useElement_11 : decode cX5_useElement 11 = .ok (.goto 4, 3) := by decide +kernel
theorem dX5_useElement_14 : decode cX5_useElement 14 = .ok (.iconst 0, 1) := by decide +kernel
theorem dX5_useElement_15 : decode cX5_useElement 15 = .ok (.istore_n 2, 1) := by decide +kernel
theorem dX5_useElement_16 : decode cX5_useElement 16 = .ok (.aload_n 0, 1) := by decide +kernel
theorem dX5_useElement_17 : decode cX5_useElement 17 = .ok (.invokevirtual 141, 3) := by decide +kernel
theorem dX5_useElement_20 : decode cX5_useElement 20 = .ok (.l2i, 1) := by decide +kernel
theorem dX5_useElement_21 : decode cX5_useElement 21 = .ok (.istore_n 3, 1) := by decide +kernel
theorem dX5_useElement_22 : decode cX5_useElement 22 = .ok (.aload_n 0, 1) := by decide +kernel
theorem dX5_useElement_23 : decode cX5_useElement 23 = .ok (.invokevirtual 141, 3) := by decide +kernel
theorem dX5_useElement_26 : decode cX5_useElement 26 = .ok (.l2i, 1) := by decide +kernel
theorem dX5_useElement_27 : decode cX5_useElement 27 = .ok (.istore 4, 2) := by decide +kernel
theorem dX5_useElement_29 : decode cX5_useElement 29 = .ok (.iload 4, 2) := by decide +kernel
theorem dX5_useElement_31 : decode cX5_useElement 31 = .ok (.ifCond .ne 9, 3) := by decide +kernel
theorem dX5_useElement_34 : decode cX5_useElement 34 = .ok (.aload_n 0, 1) := by decide +kernel
theorem dX5_useElement_35 : decode cX5_useElement 35 = .ok (.iconst 1, 1) := by decide +kernel
theorem dX5_useElement_36 : decode cX5_useElement 36 = .ok (.invokevirtual 211, 3) := by decide +kernel
theorem dX5_useElement_39 : decode cX5_useElement 39 = .ok (.return_, 1) := by decide +kernel
theorem dX5_useElement_40 : decode cX5_useElement 40 = .ok (.iload_n 3, 1) := by decide +kernel
theorem dX5_useElement_41 : decode cX5_useElement 41 = .ok (.ifCond .lt 13, 3) := by decide +kernel
theorem dX5_useElement_44 : decode cX5_useElement 44 = .ok (.iload_n 3, 1) := by decide +kernel
theorem dX5_useElement_45 : decode cX5_useElement 45 = .ok (.aload_n 0, 1) := by decide +kernel
theorem dX5_useElement_46 : decode cX5_useElement 46 = .ok (.iload 4, 2) := by decide +kernel
theorem dX5_useElement_48 : decode cX5_useElement 48 = .ok (.invokevirtual 70, 3) := by decide +kernel
theorem dX5_useElement_51 : decode cX5_useElement 51 = .ok (.if_icmp .lt 9, 3) := by decide +kernel
theorem dX5_useElement_54 : decode cX5_useElement 54 = .ok (.aload_n 0, 1) := by decide +kernel
theorem dX5_useElement_55 : decode cX5_useElement 55 = .ok (.iconst 2, 1) := by decide +kernel
theorem dX5_useElement_56 : decode cX5_useElement 56 = .ok (.invokevirtual 211, 3) := by decide +kernel
theorem dX5_useElement_59 : decode cX5_useElement 59 = .ok (.return_, 1) := by decide +kernel
theorem dX5_useElement_60 : decode cX5_useElement 60 = .ok (.aload_n 0, 1) := by decide +kernel
theorem dX5_useElement_61 : decode cX5_useElement 61 = .ok (.iload 4, 2) := by decide +kernel
theorem dX5_useElement_63 : decode cX5_useElement 63 = .ok (.invokevirtual 66, 3) := by decide +kernel
theorem dX5_useElement_66 : decode cX5_useElement 66 = .ok (.iload_n 3, 1) := by decide +kernel
theorem dX5_useElement_67 : decode cX5_useElement 67 = .ok (.iadd, 1) := by decide +kernel
theorem dX5_useElement_68 : decode cX5_useElement 68 = .ok (.istore 5, 2) := by decide +kernel
theorem dX5_useElement_70 : decode cX5_useElement 70 = .ok (.iload_n 1, 1) := by decide +kernel
theorem dX5_useElement_71 : decode cX5_useElement 71 = .ok (.bipush 46, 2) := by decide +kernel
theorem dX5_useElement_73 : decode cX5_useElement 73 = .ok (.if_icmp .ne 17, 3) := by decide +kernel
theorem dX5_useElement_76 : decode cX5_useElement 76 = .ok (.aload_n 0, 1) := by decide +kernel
theorem dX5_useElement_77 : decode cX5_useElement 77 = .ok (.aload_n 0, 1) := by decide +kernel
theorem dX5_useElement_78 : decode cX5_useElement 78 = .ok (.iload 5, 2) := by decide +kernel
theorem dX5_useElement_80 : decode cX5_useElement 80 = .ok (.invokevirtual 73, 3) := by decide +kernel
theorem dX5_useElement_83 : decode cX5_useElement 83 = .ok (.i2l, 1) := by decide +kernel
theorem dX5_useElement_84 : decode cX5_useElement 84 = .ok (.invokevirtual 137, 3) := by decide +kernel
theorem dX5_useElement_87 : decode cX5_useElement 87 = .ok (.goto 26, 3) := by decide +kernel
theorem dX5_useElement_90 : decode cX5_useElement 90 = .ok (.iload 5, 2) := by decide +kernel
theorem dX5_useElement_92 : decode cX5_useElement 92 = .ok (.ifCond .lt 21, 3) := by decide +kernel
theorem dX5_useElement_95 : decode cX5_useElement 95 = .ok (.iload 5, 2) := by decide +kernel
theorem dX5_useElement_97 : decode cX5_useElement 97 = .ok (.aload_n 0, 1) := by decide +kernel
theorem dX5_useElement_98 : decode cX5_useElement 98 = .ok (.getfield 15, 3) := by decide +kernel
theorem dX5_useElement_101 : decode cX5_useElement 101 = .ok (.arraylength, 1) := by decide +kernel
theorem dX5_useElement_102 : decode cX5_useElement 102 = .ok (.if_icmp .ge 11, 3) := by decide +kernel
theorem dX5_useElement_105 : decode cX5_useElement 105 = .ok (.aload_n 0, 1) := by decide +kernel
theorem dX5_useElement_106 : decode cX5_useElement 106 = .ok (.getfield 15, 3) := by decide +kernel
theorem dX5_useElement_109 : decode cX5_useElement 109 = .ok (.iload 5, 2) := by decide +kernel
theorem dX5_useElement_111 : decode cX5_useElement 111 = .ok (.iload_n 2, 1) := by decide +kernel
theorem dX5_useElement_112 : decode cX5_useElement 112 = .ok (.iastore, 1) := by decide +kernel
theorem dX5_useElement_113 : decode cX5_useElement 113 = .ok (.aload_n 0, 1) := by decide +kernel
theorem dX5_useElement_114 : decode cX5_useElement 114 = .ok (.dup, 1) := by decide +kernel
theorem dX5_useElement_115 : decode cX5_useElement 115 = .ok (.getfield 123, 3) := by decide +kernel
theorem dX5_useElement_118 : decode cX5_useElement 118 = .ok (.iconst 1, 1) := by decide +kernel
theorem dX5_useElement_119 : decode cX5_useElement 119 = .ok (.iadd, 1) := by decide +kernel
theorem dX5_useElement_120 : decode cX5_useElement 120 = .ok (.putfield 123, 3) := by decide +kernel
theorem dX5_useElement_123 : decode cX5_useElement 123 = .ok (.return_, 1) := by decide +kernel
theorem dX5_useStage_0 : decode cX5_useStage 0 = .ok (.aload_n 0, 1) := by decide +kernel
theorem dX5_useStage_1 : decode cX5_useStage 1 = .ok (.getfield 119, 3) := by decide +kernel
theorem dX5_useStage_4 : decode cX5_useStage 4 = .ok (.aload_n 0, 1) := by decide +kernel
theorem dX5_useStage_5 : decode cX5_useStage 5 = .ok (.getfield 123, 3) := by decide +kernel
theorem dX5_useStage_8 : decode cX5_useStage 8 = .ok (.invokevirtual 184, 3) := by decide +kernel
theorem dX5_useStage_11 : decode cX5_useStage 11 = .ok (.l2i, 1) := by decide +kernel
theorem dX5_useStage_12 : decode cX5_useStage 12 = .ok (.istore_n 2, 1) := by decide +kernel
theorem dX5_useStage_13 : decode cX5_useStage 13 = .ok (.iload_n 1, 1) := by decide +kernel
theorem dX5_useStage_14 : decode cX5_useStage 14 = .ok (.lookupswitch 184 #[(46, 176), (79, 176), (178, 74), (179, 104), (184, 134), (188, 153), (190, 165), (191, 142)], 74) := by decide +kernel
theorem dX5_useStage_88 : decode cX5_useStage 88 = .ok (.aload_n 0, 1) := by decide +kernel
theorem dX5_useStage_89 : decode cX5_useStage 89 = .ok (.aload_n 0, 1) := by decide +kernel
theorem dX5_useStage_90 : decode cX5_useStage 90 = .ok (.getfield 38, 3) := by decide +kernel
theorem dX5_useStage_93 : decode cX5_useStage 93 = .ok (.iload_n 2, 1) := by decide +kernel
theorem dX5_useStage_94 : decode cX5_useStage 94 = .ok (.invokevirtual 243, 3) := by decide +kernel
theorem dX5_useStage_97 : decode cX5_useStage 97 = .ok (.aload_n 0, 1) := by decide +kernel
theorem dX5_useStage_98 : decode cX5_useStage 98 = .ok (.iload_n 2, 1) := by decide +kernel
theorem dX5_useStage_99 : decode cX5_useStage 99 = .ok (.invokevirtual 246, 3) := by decide +kernel
theorem dX5_useStage_102 : decode cX5_useStage 102 = .ok (.invokevirtual 176, 3) := by decide +kernel
theorem dX5_useStage_105 : decode cX5_useStage 105 = .ok (.aload_n 0, 1) := by decide +kernel
theorem dX5_useStage_106 : decode cX5_useStage 106 = .ok (.dup, 1) := by decide +kernel
theorem dX5_useStage_107 : decode cX5_useStage 107 = .ok (.getfield 123, 3) := by decide +kernel
theorem dX5_useStage_110 : decode cX5_useStage 110 = .ok (.iconst 1, 1) := by decide +kernel
theorem dX5_useStage_111 : decode cX5_useStage 111 = .ok (.iadd, 1) := by decide +kernel
theorem dX5_useStage_112 : decode cX5_useStage 112 = .ok (.putfield 123, 3) := by decide +kernel
theorem dX5_useStage_115 : decode cX5_useStage 115 = .ok (.goto 103, 3) := by decide +kernel
theorem dX5_useStage_118 : decode cX5_useStage 118 = .ok (.aload_n 0, 1) := by decide +kernel
theorem dX5_useStage_119 : decode cX5_useStage 119 = .ok (.iload_n 2, 1) := by decide +kernel
theorem dX5_useStage_120 : decode cX5_useStage 120 = .ok (.aload_n 0, 1) := by decide +kernel
theorem dX5_useStage_121 : decode cX5_useStage 121 = .ok (.aload_n 0, 1) := by decide +kernel
theorem dX5_useStage_122 : decode cX5_useStage 122 = .ok (.getfield 38, 3) := by decide +kernel
theorem dX5_useStage_125 : decode cX5_useStage 125 = .ok (.iload_n 2, 1) := by decide +kernel
theorem dX5_useStage_126 : decode cX5_useStage 126 = .ok (.invokevirtual 243, 3) := by decide +kernel
theorem dX5_useStage_129 : decode cX5_useStage 129 = .ok (.invokevirtual 169, 3) := by decide +kernel
theorem dX5_useStage_132 : decode cX5_useStage 132 = .ok (.invokevirtual 249, 3) := by decide +kernel
theorem dX5_useStage_135 : decode cX5_useStage 135 = .ok (.aload_n 0, 1) := by decide +kernel
theorem dX5_useStage_136 : decode cX5_useStage 136 = .ok (.dup, 1) := by decide +kernel
theorem dX5_useStage_137 : decode cX5_useStage 137 = .ok (.getfield 123, 3) := by decide +kernel
theorem dX5_useStage_140 : decode cX5_useStage 140 = .ok (.iconst 1, 1) := by decide +kernel
theorem dX5_useStage_141 : decode cX5_useStage 141 = .ok (.iadd, 1) := by decide +kernel
theorem dX5_useStage_142 : decode cX5_useStage 142 = .ok (.putfield 123, 3) := by decide +kernel
theorem dX5_useStage_145 : decode cX5_useStage 145 = .ok (.goto 73, 3) := by decide +kernel
theorem dX5_useStage_148 : decode cX5_useStage 148 = .ok (.aload_n 0, 1) := by decide +kernel
theorem dX5_useStage_149 : decode cX5_useStage 149 = .ok (.iload_n 2, 1) := by decide +kernel
theorem dX5_useStage_150 : decode cX5_useStage 150 = .ok (.invokevirtual 252, 3) := by decide +kernel
theorem dX5_useStage_153 : decode cX5_useStage 153 = .ok (.goto 65, 3) := by decide +kernel
theorem dX5_useStage_156 : decode cX5_useStage 156 = .ok (.aload_n 0, 1) := by decide +kernel
theorem dX5_useStage_157 : decode cX5_useStage 157 = .ok (.aload_n 0, 1) := by decide +kernel
theorem dX5_useStage_158 : decode cX5_useStage 158 = .ok (.invokevirtual 141, 3) := by decide +kernel
theorem dX5_useStage_161 : decode cX5_useStage 161 = .ok (.invokevirtual 255, 3) := by decide +kernel
theorem dX5_useStage_164 : decode cX5_useStage 164 = .ok (.goto 54, 3) := by decide +kernel
theorem dX5_useStage_167 : decode cX5_useStage 167 = .ok (.aload_n 0, 1) := by decide +kernel
theorem dX5_useStage_168 : decode cX5_useStage 168 = .ok (.aload_n 0, 1) := by decide +kernel
theorem dX5_useStage_169 : decode cX5_useStage 169 = .ok (.invokevirtual 141, 3) := by decide +kernel
theorem dX5_useStage_172 : decode cX5_useStage 172 = .ok (.l2i, 1) := by decide +kernel
theorem dX5_useStage_173 : decode cX5_useStage 173 = .ok (.invokevirtual 258, 3) := by decide +kernel
theorem dX5_useStage_176 : decode cX5_useStage 176 = .ok (.goto 42, 3) := by decide +kernel
theorem dX5_useStage_179 : decode cX5_useStage 179 = .ok (.aload_n 0, 1) := by decide +kernel
theorem dX5_useStage_180 : decode cX5_useStage 180 = .ok (.aload_n 0, 1) := by decide +kernel
theorem dX5_useStage_181 : decode cX5_useStage 181 = .ok (.invokevirtual 141, 3) := by decide +kernel
theorem dX5_useStage_184 : decode cX5_useStage 184 = .ok (.invokevirtual 261, 3) := by decide +kernel
theorem dX5_useStage_187 : decode cX5_useStage 187 = .ok (.goto 31, 3) := by decide +kernel
theorem dX5_useStage_190 : decode cX5_useStage 190 = .ok (.aload_n 0, 1) := by decide +kernel
theorem dX5_useStage_191 : decode cX5_useStage 191 = .ok (.iload_n 1, 1) := by decide +kernel
theorem dX5_useStage_192 : decode cX5_useStage 192 = .ok (.invokevirtual 264, 3) := by decide +kernel
theorem dX5_useStage_195 : decode cX5_useStage 195 = .ok (.goto 23, 3) := by decide +kernel
theorem dX5_useStage_198 : decode cX5_useStage 198 = .ok (.aload_n 0, 1) := by decide +kernel
theorem dX5_useStage_199 : decode cX5_useStage 199 = .ok (.dup, 1) := by decide +kernel
theorem dX5_useStage_200 : decode cX5_useStage 200 = .ok (.getfield 76, 3) := by decide +kernel
theorem dX5_useStage_203 : decode cX5_useStage 203 = .ok (.iconst 1, 1) := by decide +kernel
theorem dX5_useStage_204 : decode cX5_useStage 204 = .ok (.iadd, 1) := by decide +kernel
theorem dX5_useStage_205 : decode cX5_useStage 205 = .ok (.putfield 76, 3) := by decide +kernel
theorem dX5_useStage_208 : decode cX5_useStage 208 = .ok (.aload_n 0, 1) := by decide +kernel
theorem dX5_useStage_209 : decode cX5_useStage 209 = .ok (.dup, 1) := by decide +kernel
theorem dX5_useStage_210 : decode cX5_useStage 210 = .ok (.getfield 123, 3) := by decide +kernel
theorem dX5_useStage_213 : decode cX5_useStage 213 = .ok (.iconst 1, 1) := by decide +kernel
theorem dX5_useStage_214 : decode cX5_useStage 214 = .ok (.iadd, 1) := by decide +kernel
theorem dX5_useStage_215 : decode cX5_useStage 215 = .ok (.putfield 123, 3) := by decide +kernel
theorem dX5_useStage_218 : decode cX5_useStage 218 = .ok (.return_, 1) := by decide +kernel
theorem dX6_binary_0 : decode cX6_binary 0 = .ok (.iload_n 0, 1) := by decide +kernel
theorem dX6_binary_1 : decode cX6_binary 1 = .ok (.sipush 148, 3) := by decide +kernel
theorem dX6_binary_4 : decode cX6_binary 4 = .ok (.if_icmp .ne 10, 3) := by decide +kernel
theorem dX6_binary_7 : decode cX6_binary 7 = .ok (.lload_n 1, 1) := by decide +kernel
theorem dX6_binary_8 : decode cX6_binary 8 = .ok (.lload_n 3, 1) := by decide +kernel
theorem dX6_binary_9 : decode cX6_binary 9 = .ok (.invokestatic 32, 3) := by decide +kernel
theorem dX6_binary_12 : decode cX6_binary 12 = .ok (.i2l, 1) := by decide +kernel
theorem dX6_binary_13 : decode cX6_binary 13 = .ok (.lreturn, 1) := by decide +kernel
theorem dX6_binary_14 : decode cX6_binary 14 = .ok (.iload_n 0, 1) := by decide +kernel
theorem dX6_binary_15 : decode cX6_binary 15 = .ok (.invokestatic 38, 3) := by decide +kernel
theorem dX6_binary_18 : decode cX6_binary 18 = .ok (.lookupswitch 47 #[(17, 26), (33, 36)], 26) := by decide +kernel
theorem dX6_binary_44 : decode cX6_binary 44 = .ok (.iload_n 0, 1) := by decide +kernel
theorem dX6_binary_45 : decode cX6_binary 45 = .ok (.lload_n 1, 1) := by decide +kernel
theorem dX6_binary_46 : decode cX6_binary 46 = .ok (.l2i, 1) := by decide +kernel
theorem dX6_binary_47 : decode cX6_binary 47 = .ok (.lload_n 3, 1) := by decide +kernel
theorem dX6_binary_48 : decode cX6_binary 48 = .ok (.l2i, 1) := by decide +kernel
theorem dX6_binary_49 : decode cX6_binary 49 = .ok (.invokestatic 41, 3) := by decide +kernel
theorem dX6_binary_52 : decode cX6_binary 52 = .ok (.i2l, 1) := by decide +kernel
theorem dX6_binary_53 : decode cX6_binary 53 = .ok (.lreturn, 1) := by decide +kernel
theorem dX6_binary_54 : decode cX6_binary 54 = .ok (.iload_n 0, 1) := by decide +kernel
theorem dX6_binary_55 : decode cX6_binary 55 = .ok (.lload_n 1, 1) := by decide +kernel
theorem dX6_binary_56 : decode cX6_binary 56 = .ok (.lload_n 3, 1) := by decide +kernel
theorem dX6_binary_57 : decode cX6_binary 57 = .ok (.ldc2_w 45, 3) := by decide +kernel
theorem dX6_binary_60 : decode cX6_binary 60 = .ok (.land, 1) := by decide +kernel
theorem dX6_binary_61 : decode cX6_binary 61 = .ok (.invokestatic 47, 3) := by decide +kernel
theorem dX6_binary_64 : decode cX6_binary 64 = .ok (.lreturn, 1) := by decide +kernel
theorem dX6_binary_65 : decode cX6_binary 65 = .ok (.iload_n 0, 1) := by decide +kernel
theorem dX6_binary_66 : decode cX6_binary 66 = .ok (.lload_n 1, 1) := by decide +kernel
theorem dX6_binary_67 : decode cX6_binary 67 = .ok (.lload_n 3, 1) := by decide +kernel
theorem dX6_binary_68 : decode cX6_binary 68 = .ok (.invokestatic 47, 3) := by decide +kernel
theorem dX6_binary_71 : decode cX6_binary 71 = .ok (.lreturn, 1) := by decide +kernel
theorem dX6_errorName_0 : decode cX6_errorName 0 = .ok (.iload_n 0, 1) := by decide +kernel
theorem dX6_errorName_1 : decode cX6_errorName 1 = .ok (.tableswitch 36 0 2 #[27, 30, 33], 27) := by decide +kernel
theorem dX6_errorName_28 : decode cX6_errorName 28 = .ok (.ldc 51, 2) := by decide +kernel
theorem dX6_errorName_30 : decode cX6_errorName 30 = .ok (.areturn, 1) := by decide +kernel
theorem dX6_errorName_31 : decode cX6_errorName 31 = .ok (.ldc 53, 2) := by decide +kernel
theorem dX6_errorName_33 : decode cX6_errorName 33 = .ok (.areturn, 1) := by decide +kernel
theorem dX6_errorName_34 : decode cX6_errorName 34 = .ok (.ldc 55, 2) := by decide +kernel
theorem dX6_errorName_36 : decode cX6_errorName 36 = .ok (.areturn, 1) := by decide +kernel
theorem dX6_errorName_37 : decode cX6_errorName 37 = .ok (.ldc 57, 2) := by decide +kernel
theorem dX6_errorName_39 : decode cX6_errorName 39 = .ok (.areturn, 1) := by decide +kernel
theorem dX6_gives_0 : decode cX6_gives 0 = .ok (.iload_n 0, 1) := by decide +kernel
theorem dX6_gives_1 : decode cX6_gives 1 = .ok (.ifCond .lt 11, 3) := by decide +kernel
theorem dX6_gives_4 : decode cX6_gives 4 = .ok (.iload_n 0, 1) := by decide +kernel
theorem dX6_gives_5 : decode cX6_gives 5 = .ok (.getstatic 25, 3) := by decide +kernel
theorem dX6_gives_8 : decode cX6_gives 8 = .ok (.arraylength, 1) := by decide +kernel
theorem dX6_gives_9 : decode cX6_gives 9 = .ok (.if_icmp .lt 7, 3) := by decide +kernel
theorem dX6_gives_12 : decode cX6_gives 12 = .ok (.iconst 0, 1) := by decide +kernel
theorem dX6_gives_13 : decode cX6_gives 13 = .ok (.goto 8, 3) := by decide +kernel
theorem dX6_gives_16 : decode cX6_gives 16 = .ok (.getstatic 25, 3) := by decide +kernel
theorem dX6_gives_19 : decode cX6_gives 19 = .ok (.iload_n 0, 1) := by decide +kernel
theorem dX6_gives_20 : decode cX6_gives 20 = .ok (.iaload, 1) := by decide +kernel
theorem dX6_gives_21 : decode cX6_gives 21 = .ok (.ireturn, 1) := by decide +kernel
theorem dX6_goesOn_0 : decode cX6_goesOn 0 = .ok (.iload_n 0, 1) := by decide +kernel
theorem dX6_goesOn_1 : decode cX6_goesOn 1 = .ok (.sipush 167, 3) := by decide +kernel
theorem dX6_goesOn_4 : decode cX6_goesOn 4 = .ok (.if_icmp .eq 28, 3) := by decide +kernel
theorem dX6_goesOn_7 : decode cX6_goesOn 7 = .ok (.iload_n 0, 1) := by decide +kernel
theorem dX6_goesOn_8 : decode cX6_goesOn 8 = .ok (.sipush 191, 3) := by decide +kernel
theorem dX6_goesOn_11 : decode cX6_goesOn 11 = .ok (.if_icmp .eq 21, 3) := by decide +kernel
theorem dX6_goesOn_14 : decode cX6_goesOn 14 = .ok (.iload_n 0, 1) := by decide +kernel
theorem dX6_goesOn_15 : decode cX6_goesOn 15 = .ok (.sipush 170, 3) := by decide +kernel
theorem dX6_goesOn_18 : decode cX6_goesOn 18 = .ok (.if_icmp .lt 10, 3) := by decide +kernel
theorem dX6_goesOn_21 : decode cX6_goesOn 21 = .ok (.iload_n 0, 1) := by decide +kernel
theorem dX6_goesOn_22 : decode cX6_goesOn 22 = .ok (.sipush 177, 3) := by decide +kernel
theorem dX6_goesOn_25 : decode cX6_goesOn 25 = .ok (.if_icmp .le 7, 3) := by decide +kernel
theorem dX6_goesOn_28 : decode cX6_goesOn 28 = .ok (.iconst 1, 1) := by decide +kernel
theorem dX6_goesOn_29 : decode cX6_goesOn 29 = .ok (.goto 4, 3) := by decide +kernel
theorem dX6_goesOn_32 : decode cX6_goesOn 32 = .ok (.iconst 0, 1) := by decide +kernel
theorem dX6_goesOn_33 : decode cX6_goesOn 33 = .ok (.ireturn, 1) := by decide +kernel
theorem dX6_isBinary_0 : decode cX6_isBinary 0 = .ok (.iload_n 0, 1) := by decide +kernel
theorem dX6_isBinary_1 : decode cX6_isBinary 1 = .ok (.bipush 96, 2) := by decide +kernel
theorem dX6_isBinary_3 : decode cX6_isBinary 3 = .ok (.if_icmp .lt 15, 3) := by decide +kernel
theorem dX6_isBinary_6 : decode cX6_isBinary 6 = .ok (.iload_n 0, 1) := by decide +kernel
theorem dX6_isBinary_7 : decode cX6_isBinary 7 = .ok (.bipush 113, 2) := by decide +kernel
theorem dX6_isBinary_9 : decode cX6_isBinary 9 = .ok (.if_icmp .gt 9, 3) := by decide +kernel
theorem dX6_isBinary_12 : decode cX6_isBinary 12 = .ok (.iload_n 0, 1) := by decide +kernel
theorem dX6_isBinary_13 : decode cX6_isBinary 13 = .ok (.iconst 2, 1) := by decide +kernel
theorem dX6_isBinary_14 : decode cX6_isBinary 14 = .ok (.iand, 1) := by decide +kernel
theorem dX6_isBinary_15 : decode cX6_isBinary 15 = .ok (.ifCond .eq 23, 3) := by decide +kernel
theorem dX6_isBinary_18 : decode cX6_isBinary 18 = .ok (.iload_n 0, 1) := by decide +kernel
theorem dX6_isBinary_19 : decode cX6_isBinary 19 = .ok (.bipush 120, 2) := by decide +kernel
theorem dX6_isBinary_21 : decode cX6_isBinary 21 = .ok (.if_icmp .lt 10, 3) := by decide +kernel
theorem dX6_isBinary_24 : decode cX6_isBinary 24 = .ok (.iload_n 0, 1) := by decide +kernel
theorem dX6_isBinary_25 : decode cX6_isBinary 25 = .ok (.sipush 131, 3) := by decide +kernel
theorem dX6_isBinary_28 : decode cX6_isBinary 28 = .ok (.if_icmp .le 10, 3) := by decide +kernel
theorem dX6_isBinary_31 : decode cX6_isBinary 31 = .ok (.iload_n 0, 1) := by decide +kernel
theorem dX6_isBinary_32 : decode cX6_isBinary 32 = .ok (.sipush 148, 3) := by decide +kernel
theorem dX6_isBinary_35 : decode cX6_isBinary 35 = .ok (.if_icmp .ne 7, 3) := by decide +kernel
theorem dX6_isBinary_38 : decode cX6_isBinary 38 = .ok (.iconst 1, 1) := by decide +kernel
theorem dX6_isBinary_39 : decode cX6_isBinary 39 = .ok (.goto 4, 3) := by decide +kernel
theorem dX6_isBinary_42 : decode cX6_isBinary 42 = .ok (.iconst 0, 1) := by decide +kernel
theorem dX6_isBinary_43 : decode cX6_isBinary 43 = .ok (.ireturn, 1) := by decide +kernel
theorem dX6_isDivision_0 : decode cX6_isDivision 0 = .ok (.iload_n 0, 1) := by decide +kernel
theorem dX6_isDivision_1 : decode cX6_isDivision 1 = .ok (.bipush 108, 2) := by decide +kernel
theorem dX6_isDivision_3 : decode cX6_isDivision 3 = .ok (.if_icmp .eq 21, 3) := by decide +kernel
theorem dX6_isDivision_6 : decode cX6_isDivision 6 = .ok (.iload_n 0, 1) := by decide +kernel
theorem dX6_isDivision_7 : decode cX6_isDivision 7 = .ok (.bipush 109, 2) := by decide +kernel
theorem dX6_isDivision_9 : decode cX6_isDivision 9 = .ok (.if_icmp .eq 15, 3) := by decide +kernel
theorem dX6_isDivision_12 : decode cX6_isDivision 12 = .ok (.iload_n 0, 1) := by decide +kernel
theorem dX6_isDivision_13 : decode cX6_isDivision 13 = .ok (.bipush 112, 2) := by decide +kernel
theorem dX6_isDivision_15 : decode cX6_isDivision 15 = .ok (.if_icmp .eq 9, 3) := by decide +kernel
theorem dX6_isDivision_18 : decode cX6_isDivision 18 = .ok (.iload_n 0, 1) := by decide +kernel
theorem dX6_isDivision_19 : decode cX6_isDivision 19 = .ok (.bipush 113, 2) := by decide +kernel
theorem dX6_isDivision_21 : decode cX6_isDivision 21 = .ok (.if_icmp .ne 7, 3) := by decide +kernel
theorem dX6_isDivision_24 : decode cX6_isDivision 24 = .ok (.iconst 1, 1) := by decide +kernel
theorem dX6_isDivision_25 : decode cX6_isDivision 25 = .ok (.goto 4, 3) := by decide +kernel
theorem dX6_isDivision_28 : decode cX6_isDivision 28 = .ok (.iconst 0, 1) := by decide +kernel
theorem dX6_isDivision_29 : decode cX6_isDivision 29 = .ok (.ireturn, 1) := by decide +kernel
theorem dX6_isJump_0 : decode cX6_isJump 0 = .ok (.iload_n 0, 1) := by decide +kernel
theorem dX6_isJump_1 : decode cX6_isJump 1 = .ok (.sipush 153, 3) := by decide +kernel
theorem dX6_isJump_4 : decode cX6_isJump 4 = .ok (.if_icmp .lt 10, 3) := by decide +kernel
theorem dX6_isJump_7 : decode cX6_isJump 7 = .ok (.iload_n 0, 1) := by decide +kernel
theorem dX6_isJump_8 : decode cX6_isJump 8 = .ok (.sipush 167, 3) := by decide +kernel
theorem dX6_isJump_11 : decode cX6_isJump 11 = .ok (.if_icmp .le 17, 3) := by decide +kernel
theorem dX6_isJump_14 : decode cX6_isJump 14 = .ok (.iload_n 0, 1) := by decide +kernel
theorem dX6_isJump_15 : decode cX6_isJump 15 = .ok (.sipush 198, 3) := by decide +kernel
theorem dX6_isJump_18 : decode cX6_isJump 18 = .ok (.if_icmp .eq 10, 3) := by decide +kernel
theorem dX6_isJump_21 : decode cX6_isJump 21 = .ok (.iload_n 0, 1) := by decide +kernel
theorem dX6_isJump_22 : decode cX6_isJump 22 = .ok (.sipush 199, 3) := by decide +kernel
theorem dX6_isJump_25 : decode cX6_isJump 25 = .ok (.if_icmp .ne 7, 3) := by decide +kernel
theorem dX6_isJump_28 : decode cX6_isJump 28 = .ok (.iconst 1, 1) := by decide +kernel
theorem dX6_isJump_29 : decode cX6_isJump 29 = .ok (.goto 4, 3) := by decide +kernel
theorem dX6_isJump_32 : decode cX6_isJump 32 = .ok (.iconst 0, 1) := by decide +kernel
theorem dX6_isJump_33 : decode cX6_isJump 33 = .ok (.ireturn, 1) := by decide +kernel
theorem dX6_isLoad_0 : decode cX6_isLoad 0 = .ok (.iload_n 0, 1) := by decide +kernel
theorem dX6_isLoad_1 : decode cX6_isLoad 1 = .ok (.bipush 21, 2) := by decide +kernel
theorem dX6_isLoad_3 : decode cX6_isLoad 3 = .ok (.if_icmp .eq 15, 3) := by decide +kernel
theorem dX6_isLoad_6 : decode cX6_isLoad 6 = .ok (.iload_n 0, 1) := by decide +kernel
theorem dX6_isLoad_7 : decode cX6_isLoad 7 = .ok (.bipush 22, 2) := by decide +kernel
theorem dX6_isLoad_9 : decode cX6_isLoad 9 = .ok (.if_icmp .eq 9, 3) := by decide +kernel
theorem dX6_isLoad_12 : decode cX6_isLoad 12 = .ok (.iload_n 0, 1) := by decide +kernel
theorem dX6_isLoad_13 : decode cX6_isLoad 13 = .ok (.bipush 25, 2) := by decide +kernel
theorem dX6_isLoad_15 : decode cX6_isLoad 15 = .ok (.if_icmp .ne 7, 3) := by decide +kernel
theorem dX6_isLoad_18 : decode cX6_isLoad 18 = .ok (.iconst 1, 1) := by decide +kernel
theorem dX6_isLoad_19 : decode cX6_isLoad 19 = .ok (.goto 4, 3) := by decide +kernel
theorem dX6_isLoad_22 : decode cX6_isLoad 22 = .ok (.iconst 0, 1) := by decide +kernel
theorem dX6_isLoad_23 : decode cX6_isLoad 23 = .ok (.ireturn, 1) := by decide +kernel
theorem dX6_isShift_0 : decode cX6_isShift 0 = .ok (.iload_n 0, 1) := by decide +kernel
theorem dX6_isShift_1 : decode cX6_isShift 1 = .ok (.bipush 120, 2) := by decide +kernel
theorem dX6_isShift_3 : decode cX6_isShift 3 = .ok (.if_icmp .lt 13, 3) := by decide +kernel
theorem dX6_isShift_6 : decode cX6_isShift 6 = .ok (.iload_n 0, 1) := by decide +kernel
theorem dX6_isShift_7 : decode cX6_isShift 7 = .ok (.bipush 125, 2) := by decide +kernel
theorem dX6_isShift_9 : decode cX6_isShift 9 = .ok (.if_icmp .gt 7, 3) := by decide +kernel
theorem dX6_isShift_12 : decode cX6_isShift 12 = .ok (.iconst 1, 1) := by decide +kernel
theorem dX6_isShift_13 : decode cX6_isShift 13 = .ok (.goto 4, 3) := by decide +kernel
theorem dX6_isShift_16 : decode cX6_isShift 16 = .ok (.iconst 0, 1) := by decide +kernel
theorem dX6_isShift_17 : decode cX6_isShift 17 = .ok (.ireturn, 1) := by decide +kernel
theorem dX6_isStore_0 : decode cX6_isStore 0 = .ok (.iload_n 0, 1) := by decide +kernel
theorem dX6_isStore_1 : decode cX6_isStore 1 = .ok (.bipush 54, 2) := by decide +kernel
theorem dX6_isStore_3 : decode cX6_isStore 3 = .ok (.if_icmp .eq 15, 3) := by decide +kernel
theorem dX6_isStore_6 : decode cX6_isStore 6 = .ok (.iload_n 0, 1) := by decide +kernel
theorem dX6_isStore_7 : decode cX6_isStore 7 = .ok (.bipush 55, 2) := by decide +kernel
theorem dX6_isStore_9 : decode cX6_isStore 9 = .ok (.if_icmp .eq 9, 3) := by decide +kernel
theorem dX6_isStore_12 : decode cX6_isStore 12 = .ok (.iload_n 0, 1) := by decide +kernel
theorem dX6_isStore_13 : decode cX6_isStore 13 = .ok (.bipush 58, 2) := by decide +kernel
theorem dX6_isStore_15 : decode cX6_isStore 15 = .ok (.if_icmp .ne 7, 3) := by decide +kernel
theorem dX6_isStore_18 : decode cX6_isStore 18 = .ok (.iconst 1, 1) := by decide +kernel
theorem dX6_isStore_19 : decode cX6_isStore 19 = .ok (.goto 4, 3) := by decide +kernel
theorem dX6_isStore_22 : decode cX6_isStore 22 = .ok (.iconst 0, 1) := by decide +kernel
theorem dX6_isStore_23 : decode cX6_isStore 23 = .ok (.ireturn, 1) := by decide +kernel
theorem dX6_isSwitch_0 : decode cX6_isSwitch 0 = .ok (.iload_n 0, 1) := by decide +kernel
theorem dX6_isSwitch_1 : decode cX6_isSwitch 1 = .ok (.sipush 170, 3) := by decide +kernel
theorem dX6_isSwitch_4 : decode cX6_isSwitch 4 = .ok (.if_icmp .eq 10, 3) := by decide +kernel
theorem dX6_isSwitch_7 : decode cX6_isSwitch 7 = .ok (.iload_n 0, 1) := by decide +kernel
theorem dX6_isSwitch_8 : decode cX6_isSwitch 8 = .ok (.sipush 171, 3) := by decide +kernel
theorem dX6_isSwitch_11 : decode cX6_isSwitch 11 = .ok (.if_icmp .ne 7, 3) := by decide +kernel
theorem dX6_isSwitch_14 : decode cX6_isSwitch 14 = .ok (.iconst 1, 1) := by decide +kernel
theorem dX6_isSwitch_15 : decode cX6_isSwitch 15 = .ok (.goto 4, 3) := by decide +kernel
theorem dX6_isSwitch_18 : decode cX6_isSwitch 18 = .ok (.iconst 0, 1) := by decide +kernel
theorem dX6_isSwitch_19 : decode cX6_isSwitch 19 = .ok (.ireturn, 1) := by decide +kernel
theorem dX6_isTaken_0 : decode cX6_isTaken 0 = .ok (.iload_n 0, 1) := by decide +kernel
theorem dX6_isTaken_1 : decode cX6_isTaken 1 = .ok (.sipush 159, 3) := by decide +kernel
theorem dX6_isTaken_4 : decode cX6_isTaken 4 = .ok (.if_icmp .ge 11, 3) := by decide +kernel
theorem dX6_isTaken_7 : decode cX6_isTaken 7 = .ok (.iload_n 0, 1) := by decide +kernel
theorem dX6_isTaken_8 : decode cX6_isTaken 8 = .ok (.sipush 153, 3) := by decide +kernel
theorem dX6_isTaken_11 : decode cX6_isTaken 11 = .ok (.isub, 1) := by decide +kernel
theorem dX6_isTaken_12 : decode cX6_isTaken 12 = .ok (.goto 8, 3) := by decide +kernel
theorem dX6_isTaken_15 : decode cX6_isTaken 15 = .ok (.iload_n 0, 1) := by decide +kernel
theorem dX6_isTaken_16 : decode cX6_isTaken 16 = .ok (.sipush 159, 3) := by decide +kernel
theorem dX6_isTaken_19 : decode cX6_isTaken 19 = .ok (.isub, 1) := by decide +kernel
theorem dX6_isTaken_20 : decode cX6_isTaken 20 = .ok (.tableswitch 91 0 4 #[36, 47, 58, 69, 80], 36) := by decide +kernel
theorem dX6_isTaken_56 : decode cX6_isTaken 56 = .ok (.iload_n 1, 1) := by decide +kernel
theorem dX6_isTaken_57 : decode cX6_isTaken 57 = .ok (.iload_n 2, 1) := by decide +kernel
theorem dX6_isTaken_58 : decode cX6_isTaken 58 = .ok (.if_icmp .ne 7, 3) := by decide +kernel
theorem dX6_isTaken_61 : decode cX6_isTaken 61 = .ok (.iconst 1, 1) := by decide +kernel
theorem dX6_isTaken_62 : decode cX6_isTaken 62 = .ok (.goto 4, 3) := by decide +kernel
theorem dX6_isTaken_65 : decode cX6_isTaken 65 = .ok (.iconst 0, 1) := by decide +kernel
theorem dX6_isTaken_66 : decode cX6_isTaken 66 = .ok (.ireturn, 1) := by decide +kernel
theorem dX6_isTaken_67 : decode cX6_isTaken 67 = .ok (.iload_n 1, 1) := by decide +kernel
theorem dX6_isTaken_68 : decode cX6_isTaken 68 = .ok (.iload_n 2, 1) := by decide +kernel
theorem dX6_isTaken_69 : decode cX6_isTaken 69 = .ok (.if_icmp .eq 7, 3) := by decide +kernel
theorem dX6_isTaken_72 : decode cX6_isTaken 72 = .ok (.iconst 1, 1) := by decide +kernel
theorem dX6_isTaken_73 : decode cX6_isTaken 73 = .ok (.goto 4, 3) := by decide +kernel
theorem dX6_isTaken_76 : decode cX6_isTaken 76 = .ok (.iconst 0, 1) := by decide +kernel
theorem dX6_isTaken_77 : decode cX6_isTaken 77 = .ok (.ireturn, 1) := by decide +kernel
theorem dX6_isTaken_78 : decode cX6_isTaken 78 = .ok (.iload_n 1, 1) := by decide +kernel
theorem dX6_isTaken_79 : decode cX6_isTaken 79 = .ok (.iload_n 2, 1) := by decide +kernel
theorem dX6_isTaken_80 : decode cX6_isTaken 80 = .ok (.if_icmp .ge 7, 3) := by decide +kernel
theorem dX6_isTaken_83 : decode cX6_isTaken 83 = .ok (.iconst 1, 1) := by decide +kernel
theorem dX6_isTaken_84 : decode cX6_isTaken 84 = .ok (.goto 4, 3) := by decide +kernel
theorem dX6_isTaken_87 : decode cX6_isTaken 87 = .ok (.iconst 0, 1) := by decide +kernel
theorem dX6_isTaken_88 : decode cX6_isTaken 88 = .ok (.ireturn, 1) := by decide +kernel
theorem dX6_isTaken_89 : decode cX6_isTaken 89 = .ok (.iload_n 1, 1) := by decide +kernel
theorem dX6_isTaken_90 : decode cX6_isTaken 90 = .ok (.iload_n 2, 1) := by decide +kernel
theorem dX6_isTaken_91 : decode cX6_isTaken 91 = .ok (.if_icmp .lt 7, 3) := by decide +kernel
theorem dX6_isTaken_94 : decode cX6_isTaken 94 = .ok (.iconst 1, 1) := by decide +kernel
theorem dX6_isTaken_95 : decode cX6_isTaken 95 = .ok (.goto 4, 3) := by decide +kernel
theorem dX6_isTaken_98 : decode cX6_isTaken 98 = .ok (.iconst 0, 1) := by decide +kernel
theorem dX6_isTaken_99 : decode cX6_isTaken 99 = .ok (.ireturn, 1) := by decide +kernel
theorem dX6_isTaken_100 : decode cX6_isTaken 100 = .ok (.iload_n 1, 1) := by decide +kernel
theorem dX6_isTaken_101 : decode cX6_isTaken 101 = .ok (.iload_n 2, 1) := by decide +kernel
theorem dX6_isTaken_102 : decode cX6_isTaken 102 = .ok (.if_icmp .le 7, 3) := by decide +kernel
theorem dX6_isTaken_105 : decode cX6_isTaken 105 = .ok (.iconst 1, 1) := by decide +kernel
theorem dX6_isTaken_106 : decode cX6_isTaken 106 = .ok (.goto 4, 3) := by decide +kernel
theorem dX6_isTaken_109 : decode cX6_isTaken 109 = .ok (.iconst 0, 1) := by decide +kernel
theorem dX6_isTaken_110 : decode cX6_isTaken 110 = .ok (.ireturn, 1) := by decide +kernel
theorem dX6_isTaken_111 : decode cX6_isTaken 111 = .ok (.iload_n 1, 1) := by decide +kernel
theorem dX6_isTaken_112 : decode cX6_isTaken 112 = .ok (.iload_n 2, 1) := by decide +kernel
theorem dX6_isTaken_113 : decode cX6_isTaken 113 = .ok (.if_icmp .gt 7, 3) := by decide +kernel
theorem dX6_isTaken_116 : decode cX6_isTaken 116 = .ok (.iconst 1, 1) := by decide +kernel
theorem dX6_isTaken_117 : decode cX6_isTaken 117 = .ok (.goto 4, 3) := by decide +kernel
theorem dX6_isTaken_120 : decode cX6_isTaken 120 = .ok (.iconst 0, 1) := by decide +kernel
theorem dX6_isTaken_121 : decode cX6_isTaken 121 = .ok (.ireturn, 1) := by decide +kernel
theorem dX6_isUnary_0 : decode cX6_isUnary 0 = .ok (.iload_n 0, 1) := by decide +kernel
theorem dX6_isUnary_1 : decode cX6_isUnary 1 = .ok (.bipush 116, 2) := by decide +kernel
theorem dX6_isUnary_3 : decode cX6_isUnary 3 = .ok (.if_icmp .eq 37, 3) := by decide +kernel
theorem dX6_isUnary_6 : decode cX6_isUnary 6 = .ok (.iload_n 0, 1) := by decide +kernel
theorem dX6_isUnary_7 : decode cX6_isUnary 7 = .ok (.bipush 117, 2) := by decide +kernel
theorem dX6_isUnary_9 : decode cX6_isUnary 9 = .ok (.if_icmp .eq 31, 3) := by decide +kernel
theorem dX6_isUnary_12 : decode cX6_isUnary 12 = .ok (.iload_n 0, 1) := by decide +kernel
theorem dX6_isUnary_13 : decode cX6_isUnary 13 = .ok (.sipush 133, 3) := by decide +kernel
theorem dX6_isUnary_16 : decode cX6_isUnary 16 = .ok (.if_icmp .eq 24, 3) := by decide +kernel
theorem dX6_isUnary_19 : decode cX6_isUnary 19 = .ok (.iload_n 0, 1) := by decide +kernel
theorem dX6_isUnary_20 : decode cX6_isUnary 20 = .ok (.sipush 136, 3) := by decide +kernel
theorem dX6_isUnary_23 : decode cX6_isUnary 23 = .ok (.if_icmp .eq 17, 3) := by decide +kernel
theorem dX6_isUnary_26 : decode cX6_isUnary 26 = .ok (.iload_n 0, 1) := by decide +kernel
theorem dX6_isUnary_27 : decode cX6_isUnary 27 = .ok (.sipush 145, 3) := by decide +kernel
theorem dX6_isUnary_30 : decode cX6_isUnary 30 = .ok (.if_icmp .lt 14, 3) := by decide +kernel
theorem dX6_isUnary_33 : decode cX6_isUnary 33 = .ok (.iload_n 0, 1) := by decide +kernel
theorem dX6_isUnary_34 : decode cX6_isUnary 34 = .ok (.sipush 147, 3) := by decide +kernel
theorem dX6_isUnary_37 : decode cX6_isUnary 37 = .ok (.if_icmp .gt 7, 3) := by decide +kernel
theorem dX6_isUnary_40 : decode cX6_isUnary 40 = .ok (.iconst 1, 1) := by decide +kernel
theorem dX6_isUnary_41 : decode cX6_isUnary 41 = .ok (.goto 4, 3) := by decide +kernel
theorem dX6_isUnary_44 : decode cX6_isUnary 44 = .ok (.iconst 0, 1) := by decide +kernel
theorem dX6_isUnary_45 : decode cX6_isUnary 45 = .ok (.ireturn, 1) := by decide +kernel
theorem dX6_kindAt_0 : decode cX6_kindAt 0 = .ok (.iload_n 0, 1) := by decide +kernel
theorem dX6_kindAt_1 : decode cX6_kindAt 1 = .ok (.iconst 4, 1) := by decide +kernel
theorem dX6_kindAt_2 : decode cX6_kindAt 2 = .ok (.iload_n 0, 1) := by decide +kernel
theorem dX6_kindAt_3 : decode cX6_kindAt 3 = .ok (.invokestatic 28, 3) := by decide +kernel
theorem dX6_kindAt_6 : decode cX6_kindAt 6 = .ok (.iconst 1, 1) := by decide +kernel
theorem dX6_kindAt_7 : decode cX6_kindAt 7 = .ok (.isub, 1) := by decide +kernel
theorem dX6_kindAt_8 : decode cX6_kindAt 8 = .ok (.iload_n 1, 1) := by decide +kernel
theorem dX6_kindAt_9 : decode cX6_kindAt 9 = .ok (.isub, 1) := by decide +kernel
theorem dX6_kindAt_10 : decode cX6_kindAt 10 = .ok (.imul, 1) := by decide +kernel
theorem dX6_kindAt_11 : decode cX6_kindAt 11 = .ok (.ishr, 1) := by decide +kernel
theorem dX6_kindAt_12 : decode cX6_kindAt 12 = .ok (.bipush 15, 2) := by decide +kernel
theorem dX6_kindAt_14 : decode cX6_kindAt 14 = .ok (.iand, 1) := by decide +kernel
theorem dX6_kindAt_15 : decode cX6_kindAt 15 = .ok (.ireturn, 1) := by decide +kernel
theorem dX6_kindCount_0 : decode cX6_kindCount 0 = .ok (.iconst 0, 1) := by decide +kernel
theorem dX6_kindCount_1 : decode cX6_kindCount 1 = .ok (.istore_n 1, 1) := by decide +kernel
theorem dX6_kindCount_2 : decode cX6_kindCount 2 = .ok (.iload_n 0, 1) := by decide +kernel
theorem dX6_kindCount_3 : decode cX6_kindCount 3 = .ok (.istore_n 2, 1) := by decide +kernel
theorem dX6_kindCount_4 : decode cX6_kindCount 4 = .ok (.iload_n 2, 1) := by decide +kernel
theorem dX6_kindCount_5 : decode cX6_kindCount 5 = .ok (.ifCond .le 13, 3) := by decide +kernel
theorem dX6_kindCount_8 : decode cX6_kindCount 8 = .ok (.iinc 1 1, 3) := by decide +kernel
theorem dX6_kindCount_11 : decode cX6_kindCount 11 = .ok (.iload_n 2, 1) := by decide +kernel
theorem dX6_kindCount_12 : decode cX6_kindCount 12 = .ok (.iconst 4, 1) := by decide +kernel
theorem dX6_kindCount_13 : decode cX6_kindCount 13 = .ok (.ishr, 1) := by decide +kernel
theorem dX6_kindCount_14 : decode cX6_kindCount 14 = .ok (.istore_n 2, 1) := by decide +kernel
theorem dX6_kindCount_15 : decode cX6_kindCount 15 = .ok (.goto (-11), 3) := by decide +kernel
theorem dX6_kindCount_18 : decode cX6_kindCount 18 = .ok (.iload_n 1, 1) := by decide +kernel
theorem dX6_kindCount_19 : decode cX6_kindCount 19 = .ok (.ireturn, 1) := by decide +kernel
theorem dX6_lengthOf_0 : decode cX6_lengthOf 0 = .ok (.iload_n 0, 1) := by decide +kernel
theorem dX6_lengthOf_1 : decode cX6_lengthOf 1 = .ok (.ifCond .lt 11, 3) := by decide +kernel
theorem dX6_lengthOf_4 : decode cX6_lengthOf 4 = .ok (.iload_n 0, 1) := by decide +kernel
theorem dX6_lengthOf_5 : decode cX6_lengthOf 5 = .ok (.getstatic 18, 3) := by decide +kernel
theorem dX6_lengthOf_8 : decode cX6_lengthOf 8 = .ok (.arraylength, 1) := by decide +kernel
theorem dX6_lengthOf_9 : decode cX6_lengthOf 9 = .ok (.if_icmp .lt 7, 3) := by decide +kernel
theorem dX6_lengthOf_12 : decode cX6_lengthOf 12 = .ok (.iconst 0, 1) := by decide +kernel
theorem dX6_lengthOf_13 : decode cX6_lengthOf 13 = .ok (.goto 8, 3) := by decide +kernel
theorem dX6_lengthOf_16 : decode cX6_lengthOf 16 = .ok (.getstatic 18, 3) := by decide +kernel
theorem dX6_lengthOf_19 : decode cX6_lengthOf 19 = .ok (.iload_n 0, 1) := by decide +kernel
theorem dX6_lengthOf_20 : decode cX6_lengthOf 20 = .ok (.iaload, 1) := by decide +kernel
theorem dX6_lengthOf_21 : decode cX6_lengthOf 21 = .ok (.ireturn, 1) := by decide +kernel
theorem dX6_localWidth_0 : decode cX6_localWidth 0 = .ok (.iload_n 0, 1) := by decide +kernel
theorem dX6_localWidth_1 : decode cX6_localWidth 1 = .ok (.bipush 22, 2) := by decide +kernel
theorem dX6_localWidth_3 : decode cX6_localWidth 3 = .ok (.if_icmp .eq 9, 3) := by decide +kernel
theorem dX6_localWidth_6 : decode cX6_localWidth 6 = .ok (.iload_n 0, 1) := by decide +kernel
theorem dX6_localWidth_7 : decode cX6_localWidth 7 = .ok (.bipush 55, 2) := by decide +kernel
theorem dX6_localWidth_9 : decode cX6_localWidth 9 = .ok (.if_icmp .ne 7, 3) := by decide +kernel
theorem dX6_localWidth_12 : decode cX6_localWidth 12 = .ok (.iconst 2, 1) := by decide +kernel
theorem dX6_localWidth_13 : decode cX6_localWidth 13 = .ok (.goto 4, 3) := by decide +kernel
theorem dX6_localWidth_16 : decode cX6_localWidth 16 = .ok (.iconst 1, 1) := by decide +kernel
theorem dX6_localWidth_17 : decode cX6_localWidth 17 = .ok (.ireturn, 1) := by decide +kernel
theorem dX6_ofInts_0 : decode cX6_ofInts 0 = .ok (.iload_n 0, 1) := by decide +kernel
theorem dX6_ofInts_1 : decode cX6_ofInts 1 = .ok (.tableswitch 203 96 128 #[147, 203, 203, 203, 151, 203, 203, 203, 155, 203, 203, 203, 159, 203, 203, 203, 171, 203, 203, 203, 203, 203, 203, 203, 183, 203, 187, 203, 191, 203, 195, 203, 199], 147) := by decide +kernel
theorem dX6_ofInts_148 : decode cX6_ofInts 148 = .ok (.iload_n 1, 1) := by decide +kernel
theorem dX6_ofInts_149 : decode cX6_ofInts 149 = .ok (.iload_n 2, 1) := by decide +kernel
theorem dX6_ofInts_150 : decode cX6_ofInts 150 = .ok (.iadd, 1) := by decide +kernel
theorem dX6_ofInts_151 : decode cX6_ofInts 151 = .ok (.ireturn, 1) := by decide +kernel
theorem dX6_ofInts_152 : decode cX6_ofInts 152 = .ok (.iload_n 1, 1) := by decide +kernel
theorem dX6_ofInts_153 : decode cX6_ofInts 153 = .ok (.iload_n 2, 1) := by decide +kernel
theorem dX6_ofInts_154 : decode cX6_ofInts 154 = .ok (.isub, 1) := by decide +kernel
theorem dX6_ofInts_155 : decode cX6_ofInts 155 = .ok (.ireturn, 1) := by decide +kernel
theorem dX6_ofInts_156 : decode cX6_ofInts 156 = .ok (.iload_n 1, 1) := by decide +kernel
theorem dX6_ofInts_157 : decode cX6_ofInts 157 = .ok (.iload_n 2, 1) := by decide +kernel
theorem dX6_ofInts_158 : decode cX6_ofInts 158 = .ok (.imul, 1) := by decide +kernel
theorem dX6_ofInts_159 : decode cX6_ofInts 159 = .ok (.ireturn, 1) := by decide +kernel
theorem dX6_ofInts_160 : decode cX6_ofInts 160 = .ok (.iload_n 2, 1) := by decide +kernel
theorem dX6_ofInts_161 : decode cX6_ofInts 161 = .ok (.ifCond .ne 7, 3) := by decide +kernel
theorem dX6_ofInts_164 : decode cX6_ofInts 164 = .ok (.iconst 0, 1) := by decide +kernel
theorem dX6_ofInts_165 : decode cX6_ofInts 165 = .ok (.goto 6, 3) := by decide +kernel
theorem dX6_ofInts_168 : decode cX6_ofInts 168 = .ok (.iload_n 1, 1) := by decide +kernel
theorem dX6_ofInts_169 : decode cX6_ofInts 169 = .ok (.iload_n 2, 1) := by decide +kernel
theorem dX6_ofInts_170 : decode cX6_ofInts 170 = .ok (.idiv, 1) := by decide +kernel
theorem dX6_ofInts_171 : decode cX6_ofInts 171 = .ok (.ireturn, 1) := by decide +kernel
theorem dX6_ofInts_172 : decode cX6_ofInts 172 = .ok (.iload_n 2, 1) := by decide +kernel
theorem dX6_ofInts_173 : decode cX6_ofInts 173 = .ok (.ifCond .ne 7, 3) := by decide +kernel
theorem dX6_ofInts_176 : decode cX6_ofInts 176 = .ok (.iconst 0, 1) := by decide +kernel
theorem dX6_ofInts_177 : decode cX6_ofInts 177 = .ok (.goto 6, 3) := by decide +kernel
theorem dX6_ofInts_180 : decode cX6_ofInts 180 = .ok (.iload_n 1, 1) := by decide +kernel
theorem dX6_ofInts_181 : decode cX6_ofInts 181 = .ok (.iload_n 2, 1) := by decide +kernel
theorem dX6_ofInts_182 : decode cX6_ofInts 182 = .ok (.irem, 1) := by decide +kernel
theorem dX6_ofInts_183 : decode cX6_ofInts 183 = .ok (.ireturn, 1) := by decide +kernel
theorem dX6_ofInts_184 : decode cX6_ofInts 184 = .ok (.iload_n 1, 1) := by decide +kernel
theorem dX6_ofInts_185 : decode cX6_ofInts 185 = .ok (.iload_n 2, 1) := by decide +kernel
theorem dX6_ofInts_186 : decode cX6_ofInts 186 = .ok (.ishl, 1) := by decide +kernel
theorem dX6_ofInts_187 : decode cX6_ofInts 187 = .ok (.ireturn, 1) := by decide +kernel
theorem dX6_ofInts_188 : decode cX6_ofInts 188 = .ok (.iload_n 1, 1) := by decide +kernel
theorem dX6_ofInts_189 : decode cX6_ofInts 189 = .ok (.iload_n 2, 1) := by decide +kernel
theorem dX6_ofInts_190 : decode cX6_ofInts 190 = .ok (.ishr, 1) := by decide +kernel
theorem dX6_ofInts_191 : decode cX6_ofInts 191 = .ok (.ireturn, 1) := by decide +kernel
theorem dX6_ofInts_192 : decode cX6_ofInts 192 = .ok (.iload_n 1, 1) := by decide +kernel
theorem dX6_ofInts_193 : decode cX6_ofInts 193 = .ok (.iload_n 2, 1) := by decide +kernel
theorem dX6_ofInts_194 : decode cX6_ofInts 194 = .ok (.iushr, 1) := by decide +kernel
theorem dX6_ofInts_195 : decode cX6_ofInts 195 = .ok (.ireturn, 1) := by decide +kernel
theorem dX6_ofInts_196 : decode cX6_ofInts 196 = .ok (.iload_n 1, 1) := by decide +kernel
theorem dX6_ofInts_197 : decode cX6_ofInts 197 = .ok (.iload_n 2, 1) := by decide +kernel
theorem dX6_ofInts_198 : decode cX6_ofInts 198 = .ok (.iand, 1) := by decide +kernel
theorem dX6_ofInts_199 : decode cX6_ofInts 199 = .ok (.ireturn, 1) := by decide +kernel
theorem dX6_ofInts_200 : decode cX6_ofInts 200 = .ok (.iload_n 1, 1) := by decide +kernel
theorem dX6_ofInts_201 : decode cX6_ofInts 201 = .ok (.iload_n 2, 1) := by decide +kernel
theorem dX6_ofInts_202 : decode cX6_ofInts 202 = .ok (.ior, 1) := by decide +kernel
theorem dX6_ofInts_203 : decode cX6_ofInts 203 = .ok (.ireturn, 1) := by decide +kernel
theorem dX6_ofInts_204 : decode cX6_ofInts 204 = .ok (.iload_n 1, 1) := by decide +kernel
theorem dX6_ofInts_205 : decode cX6_ofInts 205 = .ok (.iload_n 2, 1) := by decide +kernel
theorem dX6_ofInts_206 : decode cX6_ofInts 206 = .ok (.ixor, 1) := by decide +kernel
theorem dX6_ofInts_207 : decode cX6_ofInts 207 = .ok (.ireturn, 1) := by decide +kernel
theorem dX6_ofLongs_0 : decode cX6_ofLongs 0 = .ok (.iload_n 0, 1) := by decide +kernel
theorem dX6_ofLongs_1 : decode cX6_ofLongs 1 = .ok (.tableswitch 210 97 129 #[147, 210, 210, 210, 151, 210, 210, 210, 155, 210, 210, 210, 159, 210, 210, 210, 173, 210, 210, 210, 210, 210, 210, 210, 187, 210, 192, 210, 197, 210, 202, 210, 206], 147) := by decide +kernel
theorem dX6_ofLongs_148 : decode cX6_ofLongs 148 = .ok (.lload_n 1, 1) := by decide +kernel
theorem dX6_ofLongs_149 : decode cX6_ofLongs 149 = .ok (.lload_n 3, 1) := by decide +kernel
theorem dX6_ofLongs_150 : decode cX6_ofLongs 150 = .ok (.ladd, 1) := by decide +kernel
theorem dX6_ofLongs_151 : decode cX6_ofLongs 151 = .ok (.lreturn, 1) := by decide +kernel
theorem dX6_ofLongs_152 : decode cX6_ofLongs 152 = .ok (.lload_n 1, 1) := by decide +kernel
theorem dX6_ofLongs_153 : decode cX6_ofLongs 153 = .ok (.lload_n 3, 1) := by decide +kernel
theorem dX6_ofLongs_154 : decode cX6_ofLongs 154 = .ok (.lsub, 1) := by decide +kernel
theorem dX6_ofLongs_155 : decode cX6_ofLongs 155 = .ok (.lreturn, 1) := by decide +kernel
theorem dX6_ofLongs_156 : decode cX6_ofLongs 156 = .ok (.lload_n 1, 1) := by decide +kernel
theorem dX6_ofLongs_157 : decode cX6_ofLongs 157 = .ok (.lload_n 3, 1) := by decide +kernel
theorem dX6_ofLongs_158 : decode cX6_ofLongs 158 = .ok (.lmul, 1) := by decide +kernel
theorem dX6_ofLongs_159 : decode cX6_ofLongs 159 = .ok (.lreturn, 1) := by decide +kernel
theorem dX6_ofLongs_160 : decode cX6_ofLongs 160 = .ok (.lload_n 3, 1) := by decide +kernel
theorem dX6_ofLongs_161 : decode cX6_ofLongs 161 = .ok (.lconst 0, 1) := by decide +kernel
theorem dX6_ofLongs_162 : decode cX6_ofLongs 162 = .ok (.lcmp, 1) := by decide +kernel
theorem dX6_ofLongs_163 : decode cX6_ofLongs 163 = .ok (.ifCond .ne 7, 3) := by decide +kernel
theorem dX6_ofLongs_166 : decode cX6_ofLongs 166 = .ok (.lconst 0, 1) := by decide +kernel
theorem dX6_ofLongs_167 : decode cX6_ofLongs 167 = .ok (.goto 6, 3) := by decide +kernel
theorem dX6_ofLongs_170 : decode cX6_ofLongs 170 = .ok (.lload_n 1, 1) := by decide +kernel
theorem dX6_ofLongs_171 : decode cX6_ofLongs 171 = .ok (.lload_n 3, 1) := by decide +kernel
theorem dX6_ofLongs_172 : decode cX6_ofLongs 172 = .ok (.ldiv, 1) := by decide +kernel
theorem dX6_ofLongs_173 : decode cX6_ofLongs 173 = .ok (.lreturn, 1) := by decide +kernel
theorem dX6_ofLongs_174 : decode cX6_ofLongs 174 = .ok (.lload_n 3, 1) := by decide +kernel
theorem dX6_ofLongs_175 : decode cX6_ofLongs 175 = .ok (.lconst 0, 1) := by decide +kernel
theorem dX6_ofLongs_176 : decode cX6_ofLongs 176 = .ok (.lcmp, 1) := by decide +kernel
theorem dX6_ofLongs_177 : decode cX6_ofLongs 177 = .ok (.ifCond .ne 7, 3) := by decide +kernel
theorem dX6_ofLongs_180 : decode cX6_ofLongs 180 = .ok (.lconst 0, 1) := by decide +kernel
theorem dX6_ofLongs_181 : decode cX6_ofLongs 181 = .ok (.goto 6, 3) := by decide +kernel
theorem dX6_ofLongs_184 : decode cX6_ofLongs 184 = .ok (.lload_n 1, 1) := by decide +kernel
theorem dX6_ofLongs_185 : decode cX6_ofLongs 185 = .ok (.lload_n 3, 1) := by decide +kernel
theorem dX6_ofLongs_186 : decode cX6_ofLongs 186 = .ok (.lrem, 1) := by decide +kernel
theorem dX6_ofLongs_187 : decode cX6_ofLongs 187 = .ok (.lreturn, 1) := by decide +kernel
theorem dX6_ofLongs_188 : decode cX6_ofLongs 188 = .ok (.lload_n 1, 1) := by decide +kernel
theorem dX6_ofLongs_189 : decode cX6_ofLongs 189 = .ok (.lload_n 3, 1) := by decide +kernel
theorem dX6_ofLongs_190 : decode cX6_ofLongs 190 = .ok (.l2i, 1) := by decide +kernel
theorem dX6_ofLongs_191 : decode cX6_ofLongs 191 = .ok (.lshl, 1) := by decide +kernel
theorem dX6_ofLongs_192 : decode cX6_ofLongs 192 = .ok (.lreturn, 1) := by decide +kernel
theorem dX6_ofLongs_193 : decode cX6_ofLongs 193 = .ok (.lload_n 1, 1) := by decide +kernel
theorem dX6_ofLongs_194 : decode cX6_ofLongs 194 = .ok (.lload_n 3, 1) := by decide +kernel
theorem dX6_ofLongs_195 : decode cX6_ofLongs 195 = .ok (.l2i, 1) := by decide +kernel
theorem dX6_ofLongs_196 : decode cX6_ofLongs 196 = .ok (.lshr, 1) := by decide +kernel
theorem dX6_ofLongs_197 : decode cX6_ofLongs 197 = .ok (.lreturn, 1) := by decide +kernel
theorem dX6_ofLongs_198 : decode cX6_ofLongs 198 = .ok (.lload_n 1, 1) := by decide +kernel
theorem dX6_ofLongs_199 : decode cX6_ofLongs 199 = .ok (.lload_n 3, 1) := by decide +kernel
theorem dX6_ofLongs_200 : decode cX6_ofLongs 200 = .ok (.l2i, 1) := by decide +kernel
theorem dX6_ofLongs_201 : decode cX6_ofLongs 201 = .ok (.lushr, 1) := by decide +kernel
theorem dX6_ofLongs_202 : decode cX6_ofLongs 202 = .ok (.lreturn, 1) := by decide +kernel
theorem dX6_ofLongs_203 : decode cX6_ofLongs 203 = .ok (.lload_n 1, 1) := by decide +kernel
theorem dX6_ofLongs_204 : decode cX6_ofLongs 204 = .ok (.lload_n 3, 1) := by decide +kernel
theorem dX6_ofLongs_205 : decode cX6_ofLongs 205 = .ok (.land, 1) := by decide +kernel
theorem dX6_ofLongs_206 : decode cX6_ofLongs 206 = .ok (.lreturn, 1) := by decide +kernel
theorem dX6_ofLongs_207 : decode cX6_ofLongs 207 = .ok (.lload_n 1, 1) := by decide +kernel
theorem dX6_ofLongs_208 : decode cX6_ofLongs 208 = .ok (.lload_n 3, 1) := by decide +kernel
theorem dX6_ofLongs_209 : decode cX6_ofLongs 209 = .ok (.lor, 1) := by decide +kernel
theorem dX6_ofLongs_210 : decode cX6_ofLongs 210 = .ok (.lreturn, 1) := by decide +kernel
theorem dX6_ofLongs_211 : decode cX6_ofLongs 211 = .ok (.lload_n 1, 1) := by decide +kernel
theorem dX6_ofLongs_212 : decode cX6_ofLongs 212 = .ok (.lload_n 3, 1) := by decide +kernel
theorem dX6_ofLongs_213 : decode cX6_ofLongs 213 = .ok (.lxor, 1) := by decide +kernel
theorem dX6_ofLongs_214 : decode cX6_ofLongs 214 = .ok (.lreturn, 1) := by decide +kernel
theorem dX6_placesOf_0 : decode cX6_placesOf 0 = .ok (.iconst 0, 1) := by decide +kernel
theorem dX6_placesOf_1 : decode cX6_placesOf 1 = .ok (.istore_n 1, 1) := by decide +kernel
theorem dX6_placesOf_2 : decode cX6_placesOf 2 = .ok (.iload_n 0, 1) := by decide +kernel
theorem dX6_placesOf_3 : decode cX6_placesOf 3 = .ok (.istore_n 2, 1) := by decide +kernel
theorem dX6_placesOf_4 : decode cX6_placesOf 4 = .ok (.iload_n 2, 1) := by decide +kernel
theorem dX6_placesOf_5 : decode cX6_placesOf 5 = .ok (.ifCond .le 26, 3) := by decide +kernel
theorem dX6_placesOf_8 : decode cX6_placesOf 8 = .ok (.iload_n 1, 1) := by decide +kernel
theorem dX6_placesOf_9 : decode cX6_placesOf 9 = .ok (.iload_n 2, 1) := by decide +kernel
theorem dX6_placesOf_10 : decode cX6_placesOf 10 = .ok (.bipush 15, 2) := by decide +kernel
theorem dX6_placesOf_12 : decode cX6_placesOf 12 = .ok (.iand, 1) := by decide +kernel
theorem dX6_placesOf_13 : decode cX6_placesOf 13 = .ok (.iconst 2, 1) := by decide +kernel
theorem dX6_placesOf_14 : decode cX6_placesOf 14 = .ok (.if_icmp .ne 7, 3) := by decide +kernel
theorem dX6_placesOf_17 : decode cX6_placesOf 17 = .ok (.iconst 2, 1) := by decide +kernel
theorem dX6_placesOf_18 : decode cX6_placesOf 18 = .ok (.goto 4, 3) := by decide +kernel
theorem dX6_placesOf_21 : decode cX6_placesOf 21 = .ok (.iconst 1, 1) := by decide +kernel
theorem dX6_placesOf_22 : decode cX6_placesOf 22 = .ok (.iadd, 1) := by decide +kernel
theorem dX6_placesOf_23 : decode cX6_placesOf 23 = .ok (.istore_n 1, 1) := by decide +kernel
theorem dX6_placesOf_24 : decode cX6_placesOf 24 = .ok (.iload_n 2, 1) := by decide +kernel
theorem dX6_placesOf_25 : decode cX6_placesOf 25 = .ok (.iconst 4, 1) := by decide +kernel
theorem dX6_placesOf_26 : decode cX6_placesOf 26 = .ok (.ishr, 1) := by decide +kernel
theorem dX6_placesOf_27 : decode cX6_placesOf 27 = .ok (.istore_n 2, 1) := by decide +kernel
theorem dX6_placesOf_28 : decode cX6_placesOf 28 = .ok (.goto (-24), 3) := by decide +kernel
theorem dX6_placesOf_31 : decode cX6_placesOf 31 = .ok (.iload_n 1, 1) := by decide +kernel
theorem dX6_placesOf_32 : decode cX6_placesOf 32 = .ok (.ireturn, 1) := by decide +kernel
theorem dX6_takes_0 : decode cX6_takes 0 = .ok (.iload_n 0, 1) := by decide +kernel
theorem dX6_takes_1 : decode cX6_takes 1 = .ok (.ifCond .lt 11, 3) := by decide +kernel
theorem dX6_takes_4 : decode cX6_takes 4 = .ok (.iload_n 0, 1) := by decide +kernel
theorem dX6_takes_5 : decode cX6_takes 5 = .ok (.getstatic 22, 3) := by decide +kernel
theorem dX6_takes_8 : decode cX6_takes 8 = .ok (.arraylength, 1) := by decide +kernel
theorem dX6_takes_9 : decode cX6_takes 9 = .ok (.if_icmp .lt 7, 3) := by decide +kernel
theorem dX6_takes_12 : decode cX6_takes 12 = .ok (.iconst 0, 1) := by decide +kernel
theorem dX6_takes_13 : decode cX6_takes 13 = .ok (.goto 8, 3) := by decide +kernel
theorem dX6_takes_16 : decode cX6_takes 16 = .ok (.getstatic 22, 3) := by decide +kernel
theorem dX6_takes_19 : decode cX6_takes 19 = .ok (.iload_n 0, 1) := by decide +kernel
theorem dX6_takes_20 : decode cX6_takes 20 = .ok (.iaload, 1) := by decide +kernel
theorem dX6_takes_21 : decode cX6_takes 21 = .ok (.ireturn, 1) := by decide +kernel
theorem dX6_unary_0 : decode cX6_unary 0 = .ok (.iload_n 0, 1) := by decide +kernel
theorem dX6_unary_1 : decode cX6_unary 1 = .ok (.lookupswitch 86 #[(116, 59), (117, 64), (136, 67), (145, 71), (146, 76), (147, 81)], 59) := by decide +kernel
theorem dX6_unary_60 : decode cX6_unary 60 = .ok (.lload_n 1, 1) := by decide +kernel
theorem dX6_unary_61 : decode cX6_unary 61 = .ok (.l2i, 1) := by decide +kernel
theorem dX6_unary_62 : decode cX6_unary 62 = .ok (.ineg, 1) := by decide +kernel
theorem dX6_unary_63 : decode cX6_unary 63 = .ok (.i2l, 1) := by decide +kernel
theorem dX6_unary_64 : decode cX6_unary 64 = .ok (.lreturn, 1) := by decide +kernel
theorem dX6_unary_65 : decode cX6_unary 65 = .ok (.lload_n 1, 1) := by decide +kernel
theorem dX6_unary_66 : decode cX6_unary 66 = .ok (.lneg, 1) := by decide +kernel
theorem dX6_unary_67 : decode cX6_unary 67 = .ok (.lreturn, 1) := by decide +kernel
theorem dX6_unary_68 : decode cX6_unary 68 = .ok (.lload_n 1, 1) := by decide +kernel
theorem dX6_unary_69 : decode cX6_unary 69 = .ok (.l2i, 1) := by decide +kernel
theorem dX6_unary_70 : decode cX6_unary 70 = .ok (.i2l, 1) := by decide +kernel
theorem dX6_unary_71 : decode cX6_unary 71 = .ok (.lreturn, 1) := by decide +kernel
theorem dX6_unary_72 : decode cX6_unary 72 = .ok (.lload_n 1, 1) := by decide +kernel
theorem dX6_unary_73 : decode cX6_unary 73 = .ok (.l2i, 1) := by decide +kernel
theorem dX6_unary_74 : decode cX6_unary 74 = .ok (.i2b, 1) := by decide +kernel
theorem dX6_unary_75 : decode cX6_unary 75 = .ok (.i2l, 1) := by decide +kernel
theorem dX6_unary_76 : decode cX6_unary 76 = .ok (.lreturn, 1) := by decide +kernel
theorem dX6_unary_77 : decode cX6_unary 77 = .ok (.lload_n 1, 1) := by decide +kernel
theorem dX6_unary_78 : decode cX6_unary 78 = .ok (.l2i, 1) := by decide +kernel
theorem dX6_unary_79 : decode cX6_unary 79 = .ok (.i2c, 1) := by decide +kernel
theorem dX6_unary_80 : decode cX6_unary 80 = .ok (.i2l, 1) := by decide +kernel
theorem dX6_unary_81 : decode cX6_unary 81 = .ok (.lreturn, 1) := by decide +kernel
theorem dX6_unary_82 : decode cX6_unary 82 = .ok (.lload_n 1, 1) := by decide +kernel
theorem dX6_unary_83 : decode cX6_unary 83 = .ok (.l2i, 1) := by decide +kernel
theorem dX6_unary_84 : decode cX6_unary 84 = .ok (.i2s, 1) := by decide +kernel
theorem dX6_unary_85 : decode cX6_unary 85 = .ok (.i2l, 1) := by decide +kernel
theorem dX6_unary_86 : decode cX6_unary 86 = .ok (.lreturn, 1) := by decide +kernel
theorem dX6_unary_87 : decode cX6_unary 87 = .ok (.lload_n 1, 1) := by decide +kernel
theorem dX6_unary_88 : decode cX6_unary 88 = .ok (.lreturn, 1) := by decide +kernel
theorem dX6_usesLocal_0 : decode cX6_usesLocal 0 = .ok (.iload_n 0, 1) := by decide +kernel
theorem dX6_usesLocal_1 : decode cX6_usesLocal 1 = .ok (.invokestatic 9, 3) := by decide +kernel
theorem dX6_usesLocal_4 : decode cX6_usesLocal 4 = .ok (.ifCond .ne 17, 3) := by decide +kernel
theorem dX6_usesLocal_7 : decode cX6_usesLocal 7 = .ok (.iload_n 0, 1) := by decide +kernel
theorem dX6_usesLocal_8 : decode cX6_usesLocal 8 = .ok (.invokestatic 15, 3) := by decide +kernel
theorem dX6_usesLocal_11 : decode cX6_usesLocal 11 = .ok (.ifCond .ne 10, 3) := by decide +kernel
theorem dX6_usesLocal_14 : decode cX6_usesLocal 14 = .ok (.iload_n 0, 1) := by decide +kernel
theorem dX6_usesLocal_15 : decode cX6_usesLocal 15 = .ok (.sipush 132, 3) := by decide +kernel
theorem dX6_usesLocal_18 : decode cX6_usesLocal 18 = .ok (.if_icmp .ne 7, 3) := by decide +kernel
theorem dX6_usesLocal_21 : decode cX6_usesLocal 21 = .ok (.iconst 1, 1) := by decide +kernel
theorem dX6_usesLocal_22 : decode cX6_usesLocal 22 = .ok (.goto 4, 3) := by decide +kernel
theorem dX6_usesLocal_25 : decode cX6_usesLocal 25 = .ok (.iconst 0, 1) := by decide +kernel
theorem dX6_usesLocal_26 : decode cX6_usesLocal 26 = .ok (.ireturn, 1) := by decide +kernel
theorem dX7_attributeNamesHold_0 : decode cX7_attributeNamesHold 0 = .ok (.aload_n 0, 1) := by decide +kernel
theorem dX7_attributeNamesHold_1 : decode cX7_attributeNamesHold 1 = .ok (.iload_n 1, 1) := by decide +kernel
theorem dX7_attributeNamesHold_2 : decode cX7_attributeNamesHold 2 = .ok (.invokevirtual 107, 3) := by decide +kernel
theorem dX7_attributeNamesHold_5 : decode cX7_attributeNamesHold 5 = .ok (.istore_n 2, 1) := by decide +kernel
theorem dX7_attributeNamesHold_6 : decode cX7_attributeNamesHold 6 = .ok (.iload_n 1, 1) := by decide +kernel
theorem dX7_attributeNamesHold_7 : decode cX7_attributeNamesHold 7 = .ok (.iconst 2, 1) := by decide +kernel
theorem dX7_attributeNamesHold_8 : decode cX7_attributeNamesHold 8 = .ok (.iadd, 1) := by decide +kernel
theorem dX7_attributeNamesHold_9 : decode cX7_attributeNamesHold 9 = .ok (.istore_n 3, 1) := by decide +kernel
theorem dX7_attributeNamesHold_10 : decode cX7_attributeNamesHold 10 = .ok (.iconst 0, 1) := by decide +kernel
theorem dX7_attributeNamesHold_11 : decode cX7_attributeNamesHold 11 = .ok (.istore 4, 2) := by decide +kernel
theorem dX7_attributeNamesHold_13 : decode cX7_attributeNamesHold 13 = .ok (.iload 4, 2) := by decide +kernel
theorem dX7_attributeNamesHold_15 : decode cX7_attributeNamesHold 15 = .ok (.iload_n 2, 1) := by decide +kernel
theorem dX7_attributeNamesHold_16 : decode cX7_attributeNamesHold 16 = .ok (.if_icmp .ge 32, 3) := by decide +kernel
theorem dX7_attributeNamesHold_19 : decode cX7_attributeNamesHold 19 = .ok (.aload_n 0, 1) := by decide +kernel
theorem dX7_attributeNamesHold_20 : decode cX7_attributeNamesHold 20 = .ok (.iload_n 3, 1) := by decide +kernel
theorem dX7_attributeNamesHold_21 : decode cX7_attributeNamesHold 21 = .ok (.invokevirtual 168, 3) := by decide +kernel
theorem dX7_attributeNamesHold_24 : decode cX7_attributeNamesHold 24 = .ok (.ifCond .ne 5, 3) := by decide +kernel
theorem dX7_attributeNamesHold_27 : decode cX7_attributeNamesHold 27 = .ok (.iconst 0, 1) := by decide +kernel
theorem dX7_attributeNamesHold_28 : decode cX7_attributeNamesHold 28 = .ok (.ireturn, 1) := by decide +kernel
theorem dX7_attributeNamesHold_29 : decode cX7_attributeNamesHold 29 = .ok (.iload_n 3, 1) := by decide +kernel
theorem dX7_attributeNamesHold_30 : decode cX7_attributeNamesHold 30 = .ok (.bipush 6, 2) := by decide +kernel
theorem dX7_attributeNamesHold_32 : decode cX7_attributeNamesHold 32 = .ok (.aload_n 0, 1) := by decide +kernel
theorem dX7_attributeNamesHold_33 : decode cX7_attributeNamesHold 33 = .ok (.iload_n 3, 1) := by decide +kernel
theorem dX7_attributeNamesHold_34 : decode cX7_attributeNamesHold 34 = .ok (.iconst 2, 1) := by decide +kernel
theorem dX7_attributeNamesHold_35 : decode cX7_attributeNamesHold 35 = .ok (.iadd, 1) := by decide +kernel
theorem dX7_attributeNamesHold_36 : decode cX7_attributeNamesHold 36 = .ok (.invokevirtual 91, 3) := by decide +kernel
theorem dX7_attributeNamesHold_39 : decode cX7_attributeNamesHold 39 = .ok (.iadd, 1) := by decide +kernel
theorem dX7_attributeNamesHold_40 : decode cX7_attributeNamesHold 40 = .ok (.iadd, 1) := by decide +kernel
theorem dX7_attributeNamesHold_41 : decode cX7_attributeNamesHold 41 = .ok (.istore_n 3, 1) := by decide +kernel
theorem dX7_attributeNamesHold_42 : decode cX7_attributeNamesHold 42 = .ok (.iinc 4 1, 3) := by decide +kernel
theorem dX7_attributeNamesHold_45 : decode cX7_attributeNamesHold 45 = .ok (.goto (-32), 3) := by decide +kernel
theorem dX7_attributeNamesHold_48 : decode cX7_attributeNamesHold 48 = .ok (.iconst 1, 1) := by decide +kernel
theorem dX7_attributeNamesHold_49 : decode cX7_attributeNamesHold 49 = .ok (.ireturn, 1) := by decide +kernel
theorem dX7_attributesFit_0 : decode cX7_attributesFit 0 = .ok (.aload_n 0, 1) := by decide +kernel
theorem dX7_attributesFit_1 : decode cX7_attributesFit 1 = .ok (.iconst 2, 1) := by decide +kernel
theorem dX7_attributesFit_2 : decode cX7_attributesFit 2 = .ok (.invokevirtual 103, 3) := by decide +kernel
theorem dX7_attributesFit_5 : decode cX7_attributesFit 5 = .ok (.ifCond .ne 5, 3) := by decide +kernel
theorem dX7_attributesFit_8 : decode cX7_attributesFit 8 = .ok (.iconst 0, 1) := by decide +kernel
theorem dX7_attributesFit_9 : decode cX7_attributesFit 9 = .ok (.ireturn, 1) := by decide +kernel
theorem dX7_attributesFit_10 : decode cX7_attributesFit 10 = .ok (.aload_n 0, 1) := by decide +kernel
theorem dX7_attributesFit_11 : decode cX7_attributesFit 11 = .ok (.aload_n 0, 1) := by decide +kernel
theorem dX7_attributesFit_12 : decode cX7_attributesFit 12 = .ok (.getfield 44, 3) := by decide +kernel
theorem dX7_attributesFit_15 : decode cX7_attributesFit 15 = .ok (.invokevirtual 107, 3) := by decide +kernel
theorem dX7_attributesFit_18 : decode cX7_attributesFit 18 = .ok (.istore_n 1, 1) := by decide +kernel
theorem dX7_attributesFit_19 : decode cX7_attributesFit 19 = .ok (.aload_n 0, 1) := by decide +kernel
theorem dX7_attributesFit_20 : decode cX7_attributesFit 20 = .ok (.dup, 1) := by decide +kernel
theorem dX7_attributesFit_21 : decode cX7_attributesFit 21 = .ok (.getfield 44, 3) := by decide +kernel
theorem dX7_attributesFit_24 : decode cX7_attributesFit 24 = .ok (.iconst 2, 1) := by decide +kernel
theorem dX7_attributesFit_25 : decode cX7_attributesFit 25 = .ok (.iadd, 1) := by decide +kernel
theorem dX7_attributesFit_26 : decode cX7_attributesFit 26 = .ok (.putfield 44, 3) := by decide +kernel
theorem dX7_attributesFit_29 : decode cX7_attributesFit 29 = .ok (.iconst 0, 1) := by decide +kernel
theorem dX7_attributesFit_30 : decode cX7_attributesFit 30 = .ok (.istore_n 2, 1) := by decide +kernel
theorem dX7_attributesFit_31 : decode cX7_attributesFit 31 = .ok (.iload_n 2, 1) := by decide +kernel
theorem dX7_attributesFit_32 : decode cX7_attributesFit 32 = .ok (.iload_n 1, 1) := by decide +kernel
theorem dX7_attributesFit_33 : decode cX7_attributesFit 33 = .ok (.if_icmp .ge 78, 3) := by decide +kernel
theorem dX7_attributesFit_36 : decode cX7_attributesFit 36 = .ok (.aload_n 0, 1) := by decide +kernel
theorem dX7_attributesFit_37 : decode cX7_attributesFit 37 = .ok (.bipush 6, 2) := by decide +kernel
theorem dX7_attributesFit_39 : decode cX7_attributesFit 39 = .ok (.invokevirtual 103, 3) := by decide +kernel
theorem dX7_attributesFit_42 : decode cX7_attributesFit 42 = .ok (.ifCond .ne 5, 3) := by decide +kernel
theorem dX7_attributesFit_45 : decode cX7_attributesFit 45 = .ok (.iconst 0, 1) := by decide +kernel
theorem dX7_attributesFit_46 : decode cX7_attributesFit 46 = .ok (.ireturn, 1) := by decide +kernel
theorem dX7_attributesFit_47 : decode cX7_attributesFit 47 = .ok (.aload_n 0, 1) := by decide +kernel
theorem dX7_attributesFit_48 : decode cX7_attributesFit 48 = .ok (.aload_n 0, 1) := by decide +kernel
theorem dX7_attributesFit_49 : decode cX7_attributesFit 49 = .ok (.getfield 44, 3) := by decide +kernel
theorem dX7_attributesFit_52 : decode cX7_attributesFit 52 = .ok (.iconst 2, 1) := by decide +kernel
theorem dX7_attributesFit_53 : decode cX7_attributesFit 53 = .ok (.iadd, 1) := by decide +kernel
theorem dX7_attributesFit_54 : decode cX7_attributesFit 54 = .ok (.invokevirtual 146, 3) := by decide +kernel
theorem dX7_attributesFit_57 : decode cX7_attributesFit 57 = .ok (.lstore_n 3, 1) := by decide +kernel
theorem dX7_attributesFit_58 : decode cX7_attributesFit 58 = .ok (.aload_n 0, 1) := by decide +kernel
theorem dX7_attributesFit_59 : decode cX7_attributesFit 59 = .ok (.dup, 1) := by decide +kernel
theorem dX7_attributesFit_60 : decode cX7_attributesFit 60 = .ok (.getfield 44, 3) := by decide +kernel
theorem dX7_attributesFit_63 : decode cX7_attributesFit 63 = .ok (.bipush 6, 2) := by decide +kernel
theorem dX7_attributesFit_65 : decode cX7_attributesFit 65 = .ok (.iadd, 1) := by decide +kernel
theorem dX7_attributesFit_66 : decode cX7_attributesFit 66 = .ok (.putfield 44, 3) := by decide +kernel
theorem dX7_attributesFit_69 : decode cX7_attributesFit 69 = .ok (.lload_n 3, 1) := by decide +kernel
theorem dX7_attributesFit_70 : decode cX7_attributesFit 70 = .ok (.aload_n 0, 1) := by decide +kernel
theorem dX7_attributesFit_71 : decode cX7_attributesFit 71 = .ok (.getfield 38, 3) := by decide +kernel
theorem dX7_attributesFit_74 : decode cX7_attributesFit 74 = .ok (.aload_n 0, 1) := by decide +kernel
theorem dX7_attributesFit_75 : decode cX7_attributesFit 75 = .ok (.getfield 44, 3) := by decide +kernel
theorem dX7_attributesFit_78 : decode cX7_attributesFit 78 = .ok (.isub, 1) := by decide +kernel
theorem dX7_attributesFit_79 : decode cX7_attributesFit 79 = .ok (.i2l, 1) := by decide +kernel
theorem dX7_attributesFit_80 : decode cX7_attributesFit 80 = .ok (.lcmp, 1) := by decide +kernel
theorem dX7_attributesFit_81 : decode cX7_attributesFit 81 = .ok (.ifCond .le 13, 3) := by decide +kernel
theorem dX7_attributesFit_84 : decode cX7_attributesFit 84 = .ok (.aload_n 0, 1) := by decide +kernel
theorem dX7_attributesFit_85 : decode cX7_attributesFit 85 = .ok (.iconst 2, 1) := by decide +kernel
theorem dX7_attributesFit_86 : decode cX7_attributesFit 86 = .ok (.aload_n 0, 1) := by decide +kernel
theorem dX7_attributesFit_87 : decode cX7_attributesFit 87 = .ok (.getfield 38, 3) := by decide +kernel
theorem dX7_attributesFit_90 : decode cX7_attributesFit 90 = .ok (.invokevirtual 87, 3) := by decide +kernel
theorem dX7_attributesFit_93 : decode cX7_attributesFit 93 = .ok (.ireturn, 1) := by decide +kernel
theorem dX7_attributesFit_94 : decode cX7_attributesFit 94 = .ok (.aload_n 0, 1) := by decide +kernel
theorem dX7_attributesFit_95 : decode cX7_attributesFit 95 = .ok (.dup, 1) := by decide +kernel
theorem dX7_attributesFit_96 : decode cX7_attributesFit 96 = .ok (.getfield 44, 3) := by decide +kernel
theorem dX7_attributesFit_99 : decode cX7_attributesFit 99 = .ok (.lload_n 3, 1) := by decide +kernel
theorem dX7_attributesFit_100 : decode cX7_attributesFit 100 = .ok (.l2i, 1) := by decide +kernel
theorem dX7_attributesFit_101 : decode cX7_attributesFit 101 = .ok (.iadd, 1) := by decide +kernel
theorem dX7_attributesFit_102 : decode cX7_attributesFit 102 = .ok (.putfield 44, 3) := by decide +kernel
theorem dX7_attributesFit_105 : decode cX7_attributesFit 105 = .ok (.iinc 2 1, 3) := by decide +kernel
theorem dX7_attributesFit_108 : decode cX7_attributesFit 108 = .ok (.goto (-77), 3) := by decide +kernel
theorem dX7_attributesFit_111 : decode cX7_attributesFit 111 = .ok (.iconst 1, 1) := by decide +kernel
theorem dX7_attributesFit_112 : decode cX7_attributesFit 112 = .ok (.ireturn, 1) := by decide +kernel
theorem dX7_breaks_0 : decode cX7_breaks 0 = .ok (.aload_n 0, 1) := by decide +kernel
theorem dX7_breaks_1 : decode cX7_breaks 1 = .ok (.iload_n 1, 1) := by decide +kernel
theorem dX7_breaks_2 : decode cX7_breaks 2 = .ok (.putfield 41, 3) := by decide +kernel
theorem dX7_breaks_5 : decode cX7_breaks 5 = .ok (.aload_n 0, 1) := by decide +kernel
theorem dX7_breaks_6 : decode cX7_breaks 6 = .ok (.iload_n 2, 1) := by decide +kernel
theorem dX7_breaks_7 : decode cX7_breaks 7 = .ok (.putfield 15, 3) := by decide +kernel
theorem dX7_breaks_10 : decode cX7_breaks 10 = .ok (.iconst 0, 1) := by decide +kernel
theorem dX7_breaks_11 : decode cX7_breaks 11 = .ok (.ireturn, 1) := by decide +kernel
theorem dX7_codesHold_0 : decode cX7_codesHold 0 = .ok (.iconst 0, 1) := by decide +kernel
theorem dX7_codesHold_1 : decode cX7_codesHold 1 = .ok (.istore_n 1, 1) := by decide +kernel
theorem dX7_codesHold_2 : decode cX7_codesHold 2 = .ok (.iload_n 1, 1) := by decide +kernel
theorem dX7_codesHold_3 : decode cX7_codesHold 3 = .ok (.aload_n 0, 1) := by decide +kernel
theorem dX7_codesHold_4 : decode cX7_codesHold 4 = .ok (.getfield 131, 3) := by decide +kernel
theorem dX7_codesHold_7 : decode cX7_codesHold 7 = .ok (.if_icmp .ge 133, 3) := by decide +kernel
theorem dX7_codesHold_10 : decode cX7_codesHold 10 = .ok (.iload_n 1, 1) := by decide +kernel
theorem dX7_codesHold_11 : decode cX7_codesHold 11 = .ok (.aload_n 0, 1) := by decide +kernel
theorem dX7_codesHold_12 : decode cX7_codesHold 12 = .ok (.getfield 26, 3) := by decide +kernel
theorem dX7_codesHold_15 : decode cX7_codesHold 15 = .ok (.arraylength, 1) := by decide +kernel
theorem dX7_codesHold_16 : decode cX7_codesHold 16 = .ok (.if_icmp .ge 124, 3) := by decide +kernel
theorem dX7_codesHold_19 : decode cX7_codesHold 19 = .ok (.aload_n 0, 1) := by decide +kernel
theorem dX7_codesHold_20 : decode cX7_codesHold 20 = .ok (.aload_n 0, 1) := by decide +kernel
theorem dX7_codesHold_21 : decode cX7_codesHold 21 = .ok (.getfield 134, 3) := by decide +kernel
theorem dX7_codesHold_24 : decode cX7_codesHold 24 = .ok (.iload_n 1, 1) := by decide +kernel
theorem dX7_codesHold_25 : decode cX7_codesHold 25 = .ok (.iadd, 1) := by decide +kernel
theorem dX7_codesHold_26 : decode cX7_codesHold 26 = .ok (.invokevirtual 165, 3) := by decide +kernel
theorem dX7_codesHold_29 : decode cX7_codesHold 29 = .ok (.istore_n 2, 1) := by decide +kernel
theorem dX7_codesHold_30 : decode cX7_codesHold 30 = .ok (.aload_n 0, 1) := by decide +kernel
theorem dX7_codesHold_31 : decode cX7_codesHold 31 = .ok (.iload_n 2, 1) := by decide +kernel
theorem dX7_codesHold_32 : decode cX7_codesHold 32 = .ok (.bipush 6, 2) := by decide +kernel
theorem dX7_codesHold_34 : decode cX7_codesHold 34 = .ok (.iadd, 1) := by decide +kernel
theorem dX7_codesHold_35 : decode cX7_codesHold 35 = .ok (.invokevirtual 107, 3) := by decide +kernel
theorem dX7_codesHold_38 : decode cX7_codesHold 38 = .ok (.istore_n 3, 1) := by decide +kernel
theorem dX7_codesHold_39 : decode cX7_codesHold 39 = .ok (.iload_n 2, 1) := by decide +kernel
theorem dX7_codesHold_40 : decode cX7_codesHold 40 = .ok (.bipush 8, 2) := by decide +kernel
theorem dX7_codesHold_42 : decode cX7_codesHold 42 = .ok (.iadd, 1) := by decide +kernel
theorem dX7_codesHold_43 : decode cX7_codesHold 43 = .ok (.istore 4, 2) := by decide +kernel
theorem dX7_codesHold_45 : decode cX7_codesHold 45 = .ok (.iconst 0, 1) := by decide +kernel
theorem dX7_codesHold_46 : decode cX7_codesHold 46 = .ok (.istore 5, 2) := by decide +kernel
theorem dX7_codesHold_48 : decode cX7_codesHold 48 = .ok (.iconst 0, 1) := by decide +kernel
theorem dX7_codesHold_49 : decode cX7_codesHold 49 = .ok (.istore 6, 2) := by decide +kernel
theorem dX7_codesHold_51 : decode cX7_codesHold 51 = .ok (.iload 6, 2) := by decide +kernel
theorem dX7_codesHold_53 : decode cX7_codesHold 53 = .ok (.iload_n 3, 1) := by decide +kernel
theorem dX7_codesHold_54 : decode cX7_codesHold 54 = .ok (.if_icmp .ge 66, 3) := by decide +kernel
theorem dX7_codesHold_57 : decode cX7_codesHold 57 = .ok (.iload 4, 2) := by decide +kernel
theorem dX7_codesHold_59 : decode cX7_codesHold 59 = .ok (.bipush 6, 2) := by decide +kernel
theorem dX7_codesHold_61 : decode cX7_codesHold 61 = .ok (.iadd, 1) := by decide +kernel
theorem dX7_codesHold_62 : decode cX7_codesHold 62 = .ok (.aload_n 0, 1) := by decide +kernel
theorem dX7_codesHold_63 : decode cX7_codesHold 63 = .ok (.iload 4, 2) := by decide +kernel
theorem dX7_codesHold_65 : decode cX7_codesHold 65 = .ok (.iconst 2, 1) := by decide +kernel
theorem dX7_codesHold_66 : decode cX7_codesHold 66 = .ok (.iadd, 1) := by decide +kernel
theorem dX7_codesHold_67 : decode cX7_codesHold 67 = .ok (.invokevirtual 91, 3) := by decide +kernel
theorem dX7_codesHold_70 : decode cX7_codesHold 70 = .ok (.iadd, 1) := by decide +kernel
theorem dX7_codesHold_71 : decode cX7_codesHold 71 = .ok (.istore 7, 2) := by decide +kernel
theorem dX7_codesHold_73 : decode cX7_codesHold 73 = .ok (.aload_n 0, 1) := by decide +kernel
theorem dX7_codesHold_74 : decode cX7_codesHold 74 = .ok (.aload_n 0, 1) := by decide +kernel
theorem dX7_codesHold_75 : decode cX7_codesHold 75 = .ok (.iload 4, 2) := by decide +kernel
theorem dX7_codesHold_77 : decode cX7_codesHold 77 = .ok (.invokevirtual 107, 3) := by decide +kernel
theorem dX7_codesHold_80 : decode cX7_codesHold 80 = .ok (.ldc 218, 2) := by decide +kernel
theorem dX7_codesHold_82 : decode cX7_codesHold 82 = .ok (.invokevirtual 220, 3) := by decide +kernel
theorem dX7_codesHold_85 : decode cX7_codesHold 85 = .ok (.ifCond .eq 25, 3) := by decide +kernel
theorem dX7_codesHold_88 : decode cX7_codesHold 88 = .ok (.iinc 5 1, 3) := by decide +kernel
theorem dX7_codesHold_91 : decode cX7_codesHold 91 = .ok (.aload_n 0, 1) := by decide +kernel
theorem dX7_codesHold_92 : decode cX7_codesHold 92 = .ok (.getfield 26, 3) := by decide +kernel
theorem dX7_codesHold_95 : decode cX7_codesHold 95 = .ok (.iload_n 1, 1) := by decide +kernel
theorem dX7_codesHold_96 : decode cX7_codesHold 96 = .ok (.iload 4, 2) := by decide +kernel
theorem dX7_codesHold_98 : decode cX7_codesHold 98 = .ok (.bipush 6, 2) := by decide +kernel
theorem dX7_codesHold_100 : decode cX7_codesHold 100 = .ok (.iadd, 1) := by decide +kernel
theorem dX7_codesHold_101 : decode cX7_codesHold 101 = .ok (.iastore, 1) := by decide +kernel
theorem dX7_codesHold_102 : decode cX7_codesHold 102 = .ok (.aload_n 0, 1) := by decide +kernel

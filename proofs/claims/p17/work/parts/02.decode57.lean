theorem dX5_play_28 : decode cX5_play 28 = .ok (.putfield 96, 3) := by decide +kernel
theorem dX5_play_31 : decode cX5_play 31 = .ok (.aload_n 0, 1) := by decide +kernel
theorem dX5_play_32 : decode cX5_play 32 = .ok (.iconst (-1), 1) := by decide +kernel
theorem dX5_play_33 : decode cX5_play 33 = .ok (.putfield 34, 3) := by decide +kernel
theorem dX5_play_36 : decode cX5_play 36 = .ok (.aload_n 0, 1) := by decide +kernel
theorem dX5_play_37 : decode cX5_play 37 = .ok (.iconst 0, 1) := by decide +kernel
theorem dX5_play_38 : decode cX5_play 38 = .ok (.putfield 100, 3) := by decide +kernel
theorem dX5_play_41 : decode cX5_play 41 = .ok (.aload_n 0, 1) := by decide +kernel
theorem dX5_play_42 : decode cX5_play 42 = .ok (.iconst (-1), 1) := by decide +kernel
theorem dX5_play_43 : decode cX5_play 43 = .ok (.putfield 103, 3) := by decide +kernel
theorem dX5_play_46 : decode cX5_play 46 = .ok (.aload_n 0, 1) := by decide +kernel
theorem dX5_play_47 : decode cX5_play 47 = .ok (.iconst 0, 1) := by decide +kernel
theorem dX5_play_48 : decode cX5_play 48 = .ok (.putfield 106, 3) := by decide +kernel
theorem dX5_play_51 : decode cX5_play 51 = .ok (.aload_n 0, 1) := by decide +kernel
theorem dX5_play_52 : decode cX5_play 52 = .ok (.iload_n 1, 1) := by decide +kernel
theorem dX5_play_53 : decode cX5_play 53 = .ok (.invokevirtual 109, 3) := by decide +kernel
theorem dX5_play_56 : decode cX5_play 56 = .ok (.aload_n 0, 1) := by decide +kernel
theorem dX5_play_57 : decode cX5_play 57 = .ok (.aload_n 0, 1) := by decide +kernel
theorem dX5_play_58 : decode cX5_play 58 = .ok (.getfield 38, 3) := by decide +kernel
theorem dX5_play_61 : decode cX5_play 61 = .ok (.iload_n 1, 1) := by decide +kernel
theorem dX5_play_62 : decode cX5_play 62 = .ok (.invokevirtual 83, 3) := by decide +kernel
theorem dX5_play_65 : decode cX5_play 65 = .ok (.invokevirtual 113, 3) := by decide +kernel
theorem dX5_play_68 : decode cX5_play 68 = .ok (.aload_n 0, 1) := by decide +kernel
theorem dX5_play_69 : decode cX5_play 69 = .ok (.getfield 103, 3) := by decide +kernel
theorem dX5_play_72 : decode cX5_play 72 = .ok (.ifCond .ge 28, 3) := by decide +kernel
theorem dX5_play_75 : decode cX5_play 75 = .ok (.aload_n 0, 1) := by decide +kernel
theorem dX5_play_76 : decode cX5_play 76 = .ok (.getfield 100, 3) := by decide +kernel
theorem dX5_play_79 : decode cX5_play 79 = .ok (.iload_n 2, 1) := by decide +kernel
theorem dX5_play_80 : decode cX5_play 80 = .ok (.if_icmp .ge 20, 3) := by decide +kernel
theorem dX5_play_83 : decode cX5_play 83 = .ok (.aload_n 0, 1) := by decide +kernel
theorem dX5_play_84 : decode cX5_play 84 = .ok (.dup, 1) := by decide +kernel
theorem dX5_play_85 : decode cX5_play 85 = .ok (.getfield 100, 3) := by decide +kernel
theorem dX5_play_88 : decode cX5_play 88 = .ok (.iconst 1, 1) := by decide +kernel
theorem dX5_play_89 : decode cX5_play 89 = .ok (.iadd, 1) := by decide +kernel
theorem dX5_play_90 : decode cX5_play 90 = .ok (.putfield 100, 3) := by decide +kernel
theorem dX5_play_93 : decode cX5_play 93 = .ok (.aload_n 0, 1) := by decide +kernel
theorem dX5_play_94 : decode cX5_play 94 = .ok (.invokevirtual 116, 3) := by decide +kernel
theorem dX5_play_97 : decode cX5_play 97 = .ok (.goto (-29), 3) := by decide +kernel
theorem dX5_play_100 : decode cX5_play 100 = .ok (.aload_n 0, 1) := by decide +kernel
theorem dX5_play_101 : decode cX5_play 101 = .ok (.getfield 103, 3) := by decide +kernel
theorem dX5_play_104 : decode cX5_play 104 = .ok (.ifCond .ge 7, 3) := by decide +kernel
theorem dX5_play_107 : decode cX5_play 107 = .ok (.iconst 2, 1) := by decide +kernel
theorem dX5_play_108 : decode cX5_play 108 = .ok (.goto 7, 3) := by decide +kernel
theorem dX5_play_111 : decode cX5_play 111 = .ok (.aload_n 0, 1) := by decide +kernel
theorem dX5_play_112 : decode cX5_play 112 = .ok (.getfield 103, 3) := by decide +kernel
theorem dX5_play_115 : decode cX5_play 115 = .ok (.ireturn, 1) := by decide +kernel
theorem dX5_pop_0 : decode cX5_pop 0 = .ok (.aload_n 0, 1) := by decide +kernel
theorem dX5_pop_1 : decode cX5_pop 1 = .ok (.getfield 106, 3) := by decide +kernel
theorem dX5_pop_4 : decode cX5_pop 4 = .ok (.bipush 24, 2) := by decide +kernel
theorem dX5_pop_6 : decode cX5_pop 6 = .ok (.imul, 1) := by decide +kernel
theorem dX5_pop_7 : decode cX5_pop 7 = .ok (.aload_n 0, 1) := by decide +kernel
theorem dX5_pop_8 : decode cX5_pop 8 = .ok (.getfield 126, 3) := by decide +kernel
theorem dX5_pop_11 : decode cX5_pop 11 = .ok (.iadd, 1) := by decide +kernel
theorem dX5_pop_12 : decode cX5_pop 12 = .ok (.iconst 1, 1) := by decide +kernel
theorem dX5_pop_13 : decode cX5_pop 13 = .ok (.isub, 1) := by decide +kernel
theorem dX5_pop_14 : decode cX5_pop 14 = .ok (.istore_n 1, 1) := by decide +kernel
theorem dX5_pop_15 : decode cX5_pop 15 = .ok (.aload_n 0, 1) := by decide +kernel
theorem dX5_pop_16 : decode cX5_pop 16 = .ok (.getfield 126, 3) := by decide +kernel
theorem dX5_pop_19 : decode cX5_pop 19 = .ok (.iconst 1, 1) := by decide +kernel
theorem dX5_pop_20 : decode cX5_pop 20 = .ok (.if_icmp .lt 25, 3) := by decide +kernel
theorem dX5_pop_23 : decode cX5_pop 23 = .ok (.aload_n 0, 1) := by decide +kernel
theorem dX5_pop_24 : decode cX5_pop 24 = .ok (.getfield 126, 3) := by decide +kernel
theorem dX5_pop_27 : decode cX5_pop 27 = .ok (.bipush 24, 2) := by decide +kernel
theorem dX5_pop_29 : decode cX5_pop 29 = .ok (.if_icmp .gt 16, 3) := by decide +kernel
theorem dX5_pop_32 : decode cX5_pop 32 = .ok (.iload_n 1, 1) := by decide +kernel
theorem dX5_pop_33 : decode cX5_pop 33 = .ok (.ifCond .lt 12, 3) := by decide +kernel
theorem dX5_pop_36 : decode cX5_pop 36 = .ok (.iload_n 1, 1) := by decide +kernel
theorem dX5_pop_37 : decode cX5_pop 37 = .ok (.aload_n 0, 1) := by decide +kernel
theorem dX5_pop_38 : decode cX5_pop 38 = .ok (.getfield 28, 3) := by decide +kernel
theorem dX5_pop_41 : decode cX5_pop 41 = .ok (.arraylength, 1) := by decide +kernel
theorem dX5_pop_42 : decode cX5_pop 42 = .ok (.if_icmp .lt 15, 3) := by decide +kernel
theorem dX5_pop_45 : decode cX5_pop 45 = .ok (.aload_n 0, 1) := by decide +kernel
theorem dX5_pop_46 : decode cX5_pop 46 = .ok (.dup, 1) := by decide +kernel
theorem dX5_pop_47 : decode cX5_pop 47 = .ok (.getfield 76, 3) := by decide +kernel
theorem dX5_pop_50 : decode cX5_pop 50 = .ok (.iconst 1, 1) := by decide +kernel
theorem dX5_pop_51 : decode cX5_pop 51 = .ok (.iadd, 1) := by decide +kernel
theorem dX5_pop_52 : decode cX5_pop 52 = .ok (.putfield 76, 3) := by decide +kernel
theorem dX5_pop_55 : decode cX5_pop 55 = .ok (.lconst 0, 1) := by decide +kernel
theorem dX5_pop_56 : decode cX5_pop 56 = .ok (.lreturn, 1) := by decide +kernel
theorem dX5_pop_57 : decode cX5_pop 57 = .ok (.aload_n 0, 1) := by decide +kernel
theorem dX5_pop_58 : decode cX5_pop 58 = .ok (.dup, 1) := by decide +kernel
theorem dX5_pop_59 : decode cX5_pop 59 = .ok (.getfield 126, 3) := by decide +kernel
theorem dX5_pop_62 : decode cX5_pop 62 = .ok (.iconst 1, 1) := by decide +kernel
theorem dX5_pop_63 : decode cX5_pop 63 = .ok (.isub, 1) := by decide +kernel
theorem dX5_pop_64 : decode cX5_pop 64 = .ok (.putfield 126, 3) := by decide +kernel
theorem dX5_pop_67 : decode cX5_pop 67 = .ok (.aload_n 0, 1) := by decide +kernel
theorem dX5_pop_68 : decode cX5_pop 68 = .ok (.getfield 28, 3) := by decide +kernel
theorem dX5_pop_71 : decode cX5_pop 71 = .ok (.iload_n 1, 1) := by decide +kernel
theorem dX5_pop_72 : decode cX5_pop 72 = .ok (.laload, 1) := by decide +kernel
theorem dX5_pop_73 : decode cX5_pop 73 = .ok (.lreturn, 1) := by decide +kernel
theorem dX5_pop__0 : decode cX5_pop_ 0 = .ok (.iload_n 1, 1) := by decide +kernel
theorem dX5_pop__1 : decode cX5_pop_ 1 = .ok (.iconst 2, 1) := by decide +kernel
theorem dX5_pop__2 : decode cX5_pop_ 2 = .ok (.if_icmp .ne 8, 3) := by decide +kernel
theorem dX5_pop__5 : decode cX5_pop_ 5 = .ok (.aload_n 0, 1) := by decide +kernel
theorem dX5_pop__6 : decode cX5_pop_ 6 = .ok (.invokevirtual 141, 3) := by decide +kernel
theorem dX5_pop__9 : decode cX5_pop_ 9 = .ok (.pop2, 1) := by decide +kernel
theorem dX5_pop__10 : decode cX5_pop_ 10 = .ok (.iload_n 1, 1) := by decide +kernel
theorem dX5_pop__11 : decode cX5_pop_ 11 = .ok (.ifCond .ne 7, 3) := by decide +kernel
theorem dX5_pop__14 : decode cX5_pop_ 14 = .ok (.lconst 0, 1) := by decide +kernel
theorem dX5_pop__15 : decode cX5_pop_ 15 = .ok (.goto 7, 3) := by decide +kernel
theorem dX5_pop__18 : decode cX5_pop_ 18 = .ok (.aload_n 0, 1) := by decide +kernel
theorem dX5_pop__19 : decode cX5_pop_ 19 = .ok (.invokevirtual 141, 3) := by decide +kernel
theorem dX5_pop__22 : decode cX5_pop_ 22 = .ok (.lreturn, 1) := by decide +kernel
theorem dX5_push_0 : decode cX5_push 0 = .ok (.aload_n 0, 1) := by decide +kernel
theorem dX5_push_1 : decode cX5_push 1 = .ok (.getfield 106, 3) := by decide +kernel
theorem dX5_push_4 : decode cX5_push 4 = .ok (.bipush 24, 2) := by decide +kernel
theorem dX5_push_6 : decode cX5_push 6 = .ok (.imul, 1) := by decide +kernel
theorem dX5_push_7 : decode cX5_push 7 = .ok (.aload_n 0, 1) := by decide +kernel
theorem dX5_push_8 : decode cX5_push 8 = .ok (.getfield 126, 3) := by decide +kernel
theorem dX5_push_11 : decode cX5_push 11 = .ok (.iadd, 1) := by decide +kernel
theorem dX5_push_12 : decode cX5_push 12 = .ok (.istore_n 3, 1) := by decide +kernel
theorem dX5_push_13 : decode cX5_push 13 = .ok (.aload_n 0, 1) := by decide +kernel
theorem dX5_push_14 : decode cX5_push 14 = .ok (.getfield 126, 3) := by decide +kernel
theorem dX5_push_17 : decode cX5_push 17 = .ok (.ifCond .lt 25, 3) := by decide +kernel
theorem dX5_push_20 : decode cX5_push 20 = .ok (.aload_n 0, 1) := by decide +kernel
theorem dX5_push_21 : decode cX5_push 21 = .ok (.getfield 126, 3) := by decide +kernel
theorem dX5_push_24 : decode cX5_push 24 = .ok (.bipush 24, 2) := by decide +kernel
theorem dX5_push_26 : decode cX5_push 26 = .ok (.if_icmp .ge 16, 3) := by decide +kernel
theorem dX5_push_29 : decode cX5_push 29 = .ok (.iload_n 3, 1) := by decide +kernel
theorem dX5_push_30 : decode cX5_push 30 = .ok (.ifCond .lt 12, 3) := by decide +kernel
theorem dX5_push_33 : decode cX5_push 33 = .ok (.iload_n 3, 1) := by decide +kernel
theorem dX5_push_34 : decode cX5_push 34 = .ok (.aload_n 0, 1) := by decide +kernel
theorem dX5_push_35 : decode cX5_push 35 = .ok (.getfield 28, 3) := by decide +kernel
theorem dX5_push_38 : decode cX5_push 38 = .ok (.arraylength, 1) := by decide +kernel
theorem dX5_push_39 : decode cX5_push 39 = .ok (.if_icmp .lt 14, 3) := by decide +kernel
theorem dX5_push_42 : decode cX5_push 42 = .ok (.aload_n 0, 1) := by decide +kernel
theorem dX5_push_43 : decode cX5_push 43 = .ok (.dup, 1) := by decide +kernel
theorem dX5_push_44 : decode cX5_push 44 = .ok (.getfield 76, 3) := by decide +kernel
theorem dX5_push_47 : decode cX5_push 47 = .ok (.iconst 1, 1) := by decide +kernel
theorem dX5_push_48 : decode cX5_push 48 = .ok (.iadd, 1) := by decide +kernel
theorem dX5_push_49 : decode cX5_push 49 = .ok (.putfield 76, 3) := by decide +kernel
theorem dX5_push_52 : decode cX5_push 52 = .ok (.return_, 1) := by decide +kernel
theorem dX5_push_53 : decode cX5_push 53 = .ok (.aload_n 0, 1) := by decide +kernel
theorem dX5_push_54 : decode cX5_push 54 = .ok (.getfield 28, 3) := by decide +kernel
theorem dX5_push_57 : decode cX5_push 57 = .ok (.iload_n 3, 1) := by decide +kernel
theorem dX5_push_58 : decode cX5_push 58 = .ok (.lload_n 1, 1) := by decide +kernel
theorem dX5_push_59 : decode cX5_push 59 = .ok (.lastore, 1) := by decide +kernel
theorem dX5_push_60 : decode cX5_push 60 = .ok (.aload_n 0, 1) := by decide +kernel
theorem dX5_push_61 : decode cX5_push 61 = .ok (.dup, 1) := by decide +kernel
theorem dX5_push_62 : decode cX5_push 62 = .ok (.getfield 126, 3) := by decide +kernel
theorem dX5_push_65 : decode cX5_push 65 = .ok (.iconst 1, 1) := by decide +kernel
theorem dX5_push_66 : decode cX5_push 66 = .ok (.iadd, 1) := by decide +kernel
theorem dX5_push_67 : decode cX5_push 67 = .ok (.putfield 126, 3) := by decide +kernel
theorem dX5_push_70 : decode cX5_push 70 = .ok (.return_, 1) := by decide +kernel
theorem dX5_push__0 : decode cX5_push_ 0 = .ok (.iload_n 1, 1) := by decide +kernel
theorem dX5_push__1 : decode cX5_push_ 1 = .ok (.ifCond .eq 8, 3) := by decide +kernel
theorem dX5_push__4 : decode cX5_push_ 4 = .ok (.aload_n 0, 1) := by decide +kernel
theorem dX5_push__5 : decode cX5_push_ 5 = .ok (.lload_n 2, 1) := by decide +kernel
theorem dX5_push__6 : decode cX5_push_ 6 = .ok (.invokevirtual 137, 3) := by decide +kernel
theorem dX5_push__9 : decode cX5_push_ 9 = .ok (.iload_n 1, 1) := by decide +kernel

theorem dX11_init_102 : decode cX11_init 102 = .ok (.putfield 50, 3) := by decide +kernel
theorem dX11_init_105 : decode cX11_init 105 = .ok (.aload_n 0, 1) := by decide +kernel
theorem dX11_init_106 : decode cX11_init 106 = .ok (.iconst 0, 1) := by decide +kernel
theorem dX11_init_107 : decode cX11_init 107 = .ok (.newarray .int, 2) := by decide +kernel
theorem dX11_init_109 : decode cX11_init 109 = .ok (.putfield 53, 3) := by decide +kernel
theorem dX11_init_112 : decode cX11_init 112 = .ok (.return_, 1) := by decide +kernel
theorem dX11_intEntry_0 : decode cX11_intEntry 0 = .ok (.aload_n 0, 1) := by decide +kernel
theorem dX11_intEntry_1 : decode cX11_intEntry 1 = .ok (.iconst 3, 1) := by decide +kernel
theorem dX11_intEntry_2 : decode cX11_intEntry 2 = .ok (.invokevirtual 147, 3) := by decide +kernel
theorem dX11_intEntry_5 : decode cX11_intEntry 5 = .ok (.aload_n 0, 1) := by decide +kernel
theorem dX11_intEntry_6 : decode cX11_intEntry 6 = .ok (.getfield 21, 3) := by decide +kernel
theorem dX11_intEntry_9 : decode cX11_intEntry 9 = .ok (.iload_n 1, 1) := by decide +kernel
theorem dX11_intEntry_10 : decode cX11_intEntry 10 = .ok (.invokevirtual 167, 3) := by decide +kernel
theorem dX11_intEntry_13 : decode cX11_intEntry 13 = .ok (.aload_n 0, 1) := by decide +kernel
theorem dX11_intEntry_14 : decode cX11_intEntry 14 = .ok (.invokevirtual 160, 3) := by decide +kernel
theorem dX11_intEntry_17 : decode cX11_intEntry 17 = .ok (.ireturn, 1) := by decide +kernel
theorem dX11_isByte_0 : decode cX11_isByte 0 = .ok (.lload_n 0, 1) := by decide +kernel
theorem dX11_isByte_1 : decode cX11_isByte 1 = .ok (.lload_n 0, 1) := by decide +kernel
theorem dX11_isByte_2 : decode cX11_isByte 2 = .ok (.l2i, 1) := by decide +kernel
theorem dX11_isByte_3 : decode cX11_isByte 3 = .ok (.i2b, 1) := by decide +kernel
theorem dX11_isByte_4 : decode cX11_isByte 4 = .ok (.i2l, 1) := by decide +kernel
theorem dX11_isByte_5 : decode cX11_isByte 5 = .ok (.lcmp, 1) := by decide +kernel
theorem dX11_isByte_6 : decode cX11_isByte 6 = .ok (.ifCond .ne 7, 3) := by decide +kernel
theorem dX11_isByte_9 : decode cX11_isByte 9 = .ok (.iconst 1, 1) := by decide +kernel
theorem dX11_isByte_10 : decode cX11_isByte 10 = .ok (.goto 4, 3) := by decide +kernel
theorem dX11_isByte_13 : decode cX11_isByte 13 = .ok (.iconst 0, 1) := by decide +kernel
theorem dX11_isByte_14 : decode cX11_isByte 14 = .ok (.ireturn, 1) := by decide +kernel
theorem dX11_isWanted_0 : decode cX11_isWanted 0 = .ok (.aload_n 0, 1) := by decide +kernel
theorem dX11_isWanted_1 : decode cX11_isWanted 1 = .ok (.getfield 24, 3) := by decide +kernel
theorem dX11_isWanted_4 : decode cX11_isWanted 4 = .ok (.iload_n 1, 1) := by decide +kernel
theorem dX11_isWanted_5 : decode cX11_isWanted 5 = .ok (.iaload, 1) := by decide +kernel
theorem dX11_isWanted_6 : decode cX11_isWanted 6 = .ok (.istore_n 2, 1) := by decide +kernel
theorem dX11_isWanted_7 : decode cX11_isWanted 7 = .ok (.aload_n 0, 1) := by decide +kernel
theorem dX11_isWanted_8 : decode cX11_isWanted 8 = .ok (.getfield 28, 3) := by decide +kernel
theorem dX11_isWanted_11 : decode cX11_isWanted 11 = .ok (.iload_n 1, 1) := by decide +kernel
theorem dX11_isWanted_12 : decode cX11_isWanted 12 = .ok (.iaload, 1) := by decide +kernel
theorem dX11_isWanted_13 : decode cX11_isWanted 13 = .ok (.iload_n 2, 1) := by decide +kernel
theorem dX11_isWanted_14 : decode cX11_isWanted 14 = .ok (.isub, 1) := by decide +kernel
theorem dX11_isWanted_15 : decode cX11_isWanted 15 = .ok (.istore_n 3, 1) := by decide +kernel
theorem dX11_isWanted_16 : decode cX11_isWanted 16 = .ok (.iload_n 3, 1) := by decide +kernel
theorem dX11_isWanted_17 : decode cX11_isWanted 17 = .ok (.aload_n 0, 1) := by decide +kernel
theorem dX11_isWanted_18 : decode cX11_isWanted 18 = .ok (.getfield 21, 3) := by decide +kernel
theorem dX11_isWanted_21 : decode cX11_isWanted 21 = .ok (.getfield 60, 3) := by decide +kernel
theorem dX11_isWanted_24 : decode cX11_isWanted 24 = .ok (.if_icmp .ne 24, 3) := by decide +kernel
theorem dX11_isWanted_27 : decode cX11_isWanted 27 = .ok (.iload_n 2, 1) := by decide +kernel
theorem dX11_isWanted_28 : decode cX11_isWanted 28 = .ok (.ifCond .lt 20, 3) := by decide +kernel
theorem dX11_isWanted_31 : decode cX11_isWanted 31 = .ok (.aload_n 0, 1) := by decide +kernel
theorem dX11_isWanted_32 : decode cX11_isWanted 32 = .ok (.getfield 28, 3) := by decide +kernel
theorem dX11_isWanted_35 : decode cX11_isWanted 35 = .ok (.iload_n 1, 1) := by decide +kernel
theorem dX11_isWanted_36 : decode cX11_isWanted 36 = .ok (.iaload, 1) := by decide +kernel
theorem dX11_isWanted_37 : decode cX11_isWanted 37 = .ok (.aload_n 0, 1) := by decide +kernel
theorem dX11_isWanted_38 : decode cX11_isWanted 38 = .ok (.getfield 12, 3) := by decide +kernel
theorem dX11_isWanted_41 : decode cX11_isWanted 41 = .ok (.getfield 143, 3) := by decide +kernel
theorem dX11_isWanted_44 : decode cX11_isWanted 44 = .ok (.arraylength, 1) := by decide +kernel
theorem dX11_isWanted_45 : decode cX11_isWanted 45 = .ok (.if_icmp .le 5, 3) := by decide +kernel
theorem dX11_isWanted_48 : decode cX11_isWanted 48 = .ok (.iconst 0, 1) := by decide +kernel
theorem dX11_isWanted_49 : decode cX11_isWanted 49 = .ok (.ireturn, 1) := by decide +kernel
theorem dX11_isWanted_50 : decode cX11_isWanted 50 = .ok (.iconst 0, 1) := by decide +kernel
theorem dX11_isWanted_51 : decode cX11_isWanted 51 = .ok (.istore 4, 2) := by decide +kernel
theorem dX11_isWanted_53 : decode cX11_isWanted 53 = .ok (.iload 4, 2) := by decide +kernel
theorem dX11_isWanted_55 : decode cX11_isWanted 55 = .ok (.iload_n 3, 1) := by decide +kernel
theorem dX11_isWanted_56 : decode cX11_isWanted 56 = .ok (.if_icmp .ge 49, 3) := by decide +kernel
theorem dX11_isWanted_59 : decode cX11_isWanted 59 = .ok (.iload 4, 2) := by decide +kernel
theorem dX11_isWanted_61 : decode cX11_isWanted 61 = .ok (.aload_n 0, 1) := by decide +kernel
theorem dX11_isWanted_62 : decode cX11_isWanted 62 = .ok (.getfield 21, 3) := by decide +kernel
theorem dX11_isWanted_65 : decode cX11_isWanted 65 = .ok (.getfield 143, 3) := by decide +kernel
theorem dX11_isWanted_68 : decode cX11_isWanted 68 = .ok (.arraylength, 1) := by decide +kernel
theorem dX11_isWanted_69 : decode cX11_isWanted 69 = .ok (.if_icmp .ge 36, 3) := by decide +kernel
theorem dX11_isWanted_72 : decode cX11_isWanted 72 = .ok (.aload_n 0, 1) := by decide +kernel
theorem dX11_isWanted_73 : decode cX11_isWanted 73 = .ok (.getfield 12, 3) := by decide +kernel
theorem dX11_isWanted_76 : decode cX11_isWanted 76 = .ok (.getfield 143, 3) := by decide +kernel
theorem dX11_isWanted_79 : decode cX11_isWanted 79 = .ok (.iload_n 2, 1) := by decide +kernel
theorem dX11_isWanted_80 : decode cX11_isWanted 80 = .ok (.iload 4, 2) := by decide +kernel
theorem dX11_isWanted_82 : decode cX11_isWanted 82 = .ok (.iadd, 1) := by decide +kernel
theorem dX11_isWanted_83 : decode cX11_isWanted 83 = .ok (.baload, 1) := by decide +kernel
theorem dX11_isWanted_84 : decode cX11_isWanted 84 = .ok (.aload_n 0, 1) := by decide +kernel
theorem dX11_isWanted_85 : decode cX11_isWanted 85 = .ok (.getfield 21, 3) := by decide +kernel
theorem dX11_isWanted_88 : decode cX11_isWanted 88 = .ok (.getfield 143, 3) := by decide +kernel
theorem dX11_isWanted_91 : decode cX11_isWanted 91 = .ok (.iload 4, 2) := by decide +kernel
theorem dX11_isWanted_93 : decode cX11_isWanted 93 = .ok (.baload, 1) := by decide +kernel
theorem dX11_isWanted_94 : decode cX11_isWanted 94 = .ok (.if_icmp .eq 5, 3) := by decide +kernel
theorem dX11_isWanted_97 : decode cX11_isWanted 97 = .ok (.iconst 0, 1) := by decide +kernel
theorem dX11_isWanted_98 : decode cX11_isWanted 98 = .ok (.ireturn, 1) := by decide +kernel
theorem dX11_isWanted_99 : decode cX11_isWanted 99 = .ok (.iinc 4 1, 3) := by decide +kernel
theorem dX11_isWanted_102 : decode cX11_isWanted 102 = .ok (.goto (-49), 3) := by decide +kernel
theorem dX11_isWanted_105 : decode cX11_isWanted 105 = .ok (.iconst 1, 1) := by decide +kernel
theorem dX11_isWanted_106 : decode cX11_isWanted 106 = .ok (.ireturn, 1) := by decide +kernel
theorem dX11_layOut_0 : decode cX11_layOut 0 = .ok (.aload_n 0, 1) := by decide +kernel
theorem dX11_layOut_1 : decode cX11_layOut 1 = .ok (.getfield 53, 3) := by decide +kernel
theorem dX11_layOut_4 : decode cX11_layOut 4 = .ok (.arraylength, 1) := by decide +kernel
theorem dX11_layOut_5 : decode cX11_layOut 5 = .ok (.aload_n 0, 1) := by decide +kernel
theorem dX11_layOut_6 : decode cX11_layOut 6 = .ok (.getfield 180, 3) := by decide +kernel
theorem dX11_layOut_9 : decode cX11_layOut 9 = .ok (.getfield 205, 3) := by decide +kernel
theorem dX11_layOut_12 : decode cX11_layOut 12 = .ok (.if_icmp .gt 37, 3) := by decide +kernel
theorem dX11_layOut_15 : decode cX11_layOut 15 = .ok (.aload_n 0, 1) := by decide +kernel
theorem dX11_layOut_16 : decode cX11_layOut 16 = .ok (.iconst 2, 1) := by decide +kernel
theorem dX11_layOut_17 : decode cX11_layOut 17 = .ok (.aload_n 0, 1) := by decide +kernel
theorem dX11_layOut_18 : decode cX11_layOut 18 = .ok (.getfield 180, 3) := by decide +kernel
theorem dX11_layOut_21 : decode cX11_layOut 21 = .ok (.getfield 205, 3) := by decide +kernel
theorem dX11_layOut_24 : decode cX11_layOut 24 = .ok (.imul, 1) := by decide +kernel
theorem dX11_layOut_25 : decode cX11_layOut 25 = .ok (.iconst 2, 1) := by decide +kernel
theorem dX11_layOut_26 : decode cX11_layOut 26 = .ok (.iadd, 1) := by decide +kernel
theorem dX11_layOut_27 : decode cX11_layOut 27 = .ok (.newarray .int, 2) := by decide +kernel
theorem dX11_layOut_29 : decode cX11_layOut 29 = .ok (.putfield 53, 3) := by decide +kernel
theorem dX11_layOut_32 : decode cX11_layOut 32 = .ok (.aload_n 0, 1) := by decide +kernel
theorem dX11_layOut_33 : decode cX11_layOut 33 = .ok (.iconst 2, 1) := by decide +kernel
theorem dX11_layOut_34 : decode cX11_layOut 34 = .ok (.aload_n 0, 1) := by decide +kernel
theorem dX11_layOut_35 : decode cX11_layOut 35 = .ok (.getfield 180, 3) := by decide +kernel
theorem dX11_layOut_38 : decode cX11_layOut 38 = .ok (.getfield 205, 3) := by decide +kernel
theorem dX11_layOut_41 : decode cX11_layOut 41 = .ok (.imul, 1) := by decide +kernel
theorem dX11_layOut_42 : decode cX11_layOut 42 = .ok (.iconst 2, 1) := by decide +kernel
theorem dX11_layOut_43 : decode cX11_layOut 43 = .ok (.iadd, 1) := by decide +kernel
theorem dX11_layOut_44 : decode cX11_layOut 44 = .ok (.newarray .int, 2) := by decide +kernel
theorem dX11_layOut_46 : decode cX11_layOut 46 = .ok (.putfield 50, 3) := by decide +kernel
theorem dX11_layOut_49 : decode cX11_layOut 49 = .ok (.iconst 0, 1) := by decide +kernel
theorem dX11_layOut_50 : decode cX11_layOut 50 = .ok (.istore_n 1, 1) := by decide +kernel
theorem dX11_layOut_51 : decode cX11_layOut 51 = .ok (.iconst 0, 1) := by decide +kernel
theorem dX11_layOut_52 : decode cX11_layOut 52 = .ok (.istore_n 2, 1) := by decide +kernel
theorem dX11_layOut_53 : decode cX11_layOut 53 = .ok (.iload_n 2, 1) := by decide +kernel
theorem dX11_layOut_54 : decode cX11_layOut 54 = .ok (.aload_n 0, 1) := by decide +kernel
theorem dX11_layOut_55 : decode cX11_layOut 55 = .ok (.getfield 180, 3) := by decide +kernel
theorem dX11_layOut_58 : decode cX11_layOut 58 = .ok (.getfield 205, 3) := by decide +kernel
theorem dX11_layOut_61 : decode cX11_layOut 61 = .ok (.if_icmp .ge 36, 3) := by decide +kernel
theorem dX11_layOut_64 : decode cX11_layOut 64 = .ok (.aload_n 0, 1) := by decide +kernel
theorem dX11_layOut_65 : decode cX11_layOut 65 = .ok (.getfield 53, 3) := by decide +kernel
theorem dX11_layOut_68 : decode cX11_layOut 68 = .ok (.iload_n 2, 1) := by decide +kernel
theorem dX11_layOut_69 : decode cX11_layOut 69 = .ok (.iload_n 1, 1) := by decide +kernel
theorem dX11_layOut_70 : decode cX11_layOut 70 = .ok (.iastore, 1) := by decide +kernel
theorem dX11_layOut_71 : decode cX11_layOut 71 = .ok (.aload_n 0, 1) := by decide +kernel
theorem dX11_layOut_72 : decode cX11_layOut 72 = .ok (.getfield 50, 3) := by decide +kernel
theorem dX11_layOut_75 : decode cX11_layOut 75 = .ok (.iload_n 2, 1) := by decide +kernel
theorem dX11_layOut_76 : decode cX11_layOut 76 = .ok (.aload_n 0, 1) := by decide +kernel
theorem dX11_layOut_77 : decode cX11_layOut 77 = .ok (.iload_n 2, 1) := by decide +kernel
theorem dX11_layOut_78 : decode cX11_layOut 78 = .ok (.invokevirtual 257, 3) := by decide +kernel
theorem dX11_layOut_81 : decode cX11_layOut 81 = .ok (.iastore, 1) := by decide +kernel
theorem dX11_layOut_82 : decode cX11_layOut 82 = .ok (.iload_n 1, 1) := by decide +kernel
theorem dX11_layOut_83 : decode cX11_layOut 83 = .ok (.aload_n 0, 1) := by decide +kernel
theorem dX11_layOut_84 : decode cX11_layOut 84 = .ok (.iload_n 2, 1) := by decide +kernel
theorem dX11_layOut_85 : decode cX11_layOut 85 = .ok (.iload_n 1, 1) := by decide +kernel
theorem dX11_layOut_86 : decode cX11_layOut 86 = .ok (.invokevirtual 260, 3) := by decide +kernel
theorem dX11_layOut_89 : decode cX11_layOut 89 = .ok (.iadd, 1) := by decide +kernel
theorem dX11_layOut_90 : decode cX11_layOut 90 = .ok (.istore_n 1, 1) := by decide +kernel
theorem dX11_layOut_91 : decode cX11_layOut 91 = .ok (.iinc 2 1, 3) := by decide +kernel
theorem dX11_layOut_94 : decode cX11_layOut 94 = .ok (.goto (-41), 3) := by decide +kernel
theorem dX11_layOut_97 : decode cX11_layOut 97 = .ok (.aload_n 0, 1) := by decide +kernel
theorem dX11_layOut_98 : decode cX11_layOut 98 = .ok (.getfield 53, 3) := by decide +kernel
theorem dX11_layOut_101 : decode cX11_layOut 101 = .ok (.aload_n 0, 1) := by decide +kernel
theorem dX11_layOut_102 : decode cX11_layOut 102 = .ok (.getfield 180, 3) := by decide +kernel
theorem dX11_layOut_105 : decode cX11_layOut 105 = .ok (.getfield 205, 3) := by decide +kernel
theorem dX11_layOut_108 : decode cX11_layOut 108 = .ok (.iload_n 1, 1) := by decide +kernel

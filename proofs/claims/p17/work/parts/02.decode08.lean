theorem dX11_finish_8 : decode cX11_finish 8 = .ok (.aload_n 1, 1) := by decide +kernel
theorem dX11_finish_9 : decode cX11_finish 9 = .ok (.iconst 0, 1) := by decide +kernel
theorem dX11_finish_10 : decode cX11_finish 10 = .ok (.putfield 60, 3) := by decide +kernel
theorem dX11_finish_13 : decode cX11_finish 13 = .ok (.iconst 0, 1) := by decide +kernel
theorem dX11_finish_14 : decode cX11_finish 14 = .ok (.istore_n 2, 1) := by decide +kernel
theorem dX11_finish_15 : decode cX11_finish 15 = .ok (.iload_n 2, 1) := by decide +kernel
theorem dX11_finish_16 : decode cX11_finish 16 = .ok (.getstatic 126, 3) := by decide +kernel
theorem dX11_finish_19 : decode cX11_finish 19 = .ok (.arraylength, 1) := by decide +kernel
theorem dX11_finish_20 : decode cX11_finish 20 = .ok (.if_icmp .ge 18, 3) := by decide +kernel
theorem dX11_finish_23 : decode cX11_finish 23 = .ok (.aload_n 1, 1) := by decide +kernel
theorem dX11_finish_24 : decode cX11_finish 24 = .ok (.getstatic 126, 3) := by decide +kernel
theorem dX11_finish_27 : decode cX11_finish 27 = .ok (.iload_n 2, 1) := by decide +kernel
theorem dX11_finish_28 : decode cX11_finish 28 = .ok (.iaload, 1) := by decide +kernel
theorem dX11_finish_29 : decode cX11_finish 29 = .ok (.invokevirtual 129, 3) := by decide +kernel
theorem dX11_finish_32 : decode cX11_finish 32 = .ok (.iinc 2 1, 3) := by decide +kernel
theorem dX11_finish_35 : decode cX11_finish 35 = .ok (.goto (-20), 3) := by decide +kernel
theorem dX11_finish_38 : decode cX11_finish 38 = .ok (.aload_n 1, 1) := by decide +kernel
theorem dX11_finish_39 : decode cX11_finish 39 = .ok (.aload_n 0, 1) := by decide +kernel
theorem dX11_finish_40 : decode cX11_finish 40 = .ok (.getfield 64, 3) := by decide +kernel
theorem dX11_finish_43 : decode cX11_finish 43 = .ok (.invokevirtual 105, 3) := by decide +kernel
theorem dX11_finish_46 : decode cX11_finish 46 = .ok (.aload_n 1, 1) := by decide +kernel
theorem dX11_finish_47 : decode cX11_finish 47 = .ok (.aload_n 0, 1) := by decide +kernel
theorem dX11_finish_48 : decode cX11_finish 48 = .ok (.getfield 12, 3) := by decide +kernel
theorem dX11_finish_51 : decode cX11_finish 51 = .ok (.invokevirtual 132, 3) := by decide +kernel
theorem dX11_finish_54 : decode cX11_finish 54 = .ok (.aload_n 1, 1) := by decide +kernel
theorem dX11_finish_55 : decode cX11_finish 55 = .ok (.aload_n 0, 1) := by decide +kernel
theorem dX11_finish_56 : decode cX11_finish 56 = .ok (.getfield 18, 3) := by decide +kernel
theorem dX11_finish_59 : decode cX11_finish 59 = .ok (.invokevirtual 132, 3) := by decide +kernel
theorem dX11_finish_62 : decode cX11_finish 62 = .ok (.return_, 1) := by decide +kernel
theorem dX11_fits_0 : decode cX11_fits 0 = .ok (.aload_n 0, 1) := by decide +kernel
theorem dX11_fits_1 : decode cX11_fits 1 = .ok (.getfield 67, 3) := by decide +kernel
theorem dX11_fits_4 : decode cX11_fits 4 = .ok (.ifCond .ne 7, 3) := by decide +kernel
theorem dX11_fits_7 : decode cX11_fits 7 = .ok (.iconst 1, 1) := by decide +kernel
theorem dX11_fits_8 : decode cX11_fits 8 = .ok (.goto 4, 3) := by decide +kernel
theorem dX11_fits_11 : decode cX11_fits 11 = .ok (.iconst 0, 1) := by decide +kernel
theorem dX11_fits_12 : decode cX11_fits 12 = .ok (.ireturn, 1) := by decide +kernel
theorem dX11_init_0 : decode cX11_init 0 = .ok (.aload_n 0, 1) := by decide +kernel
theorem dX11_init_1 : decode cX11_init 1 = .ok (.invokespecial 3, 3) := by decide +kernel
theorem dX11_init_4 : decode cX11_init 4 = .ok (.aload_n 0, 1) := by decide +kernel
theorem dX11_init_5 : decode cX11_init 5 = .ok (.new 9, 3) := by decide +kernel
theorem dX11_init_8 : decode cX11_init 8 = .ok (.dup, 1) := by decide +kernel
theorem dX11_init_9 : decode cX11_init 9 = .ok (.invokespecial 11, 3) := by decide +kernel
theorem dX11_init_12 : decode cX11_init 12 = .ok (.putfield 12, 3) := by decide +kernel
theorem dX11_init_15 : decode cX11_init 15 = .ok (.aload_n 0, 1) := by decide +kernel
theorem dX11_init_16 : decode cX11_init 16 = .ok (.new 9, 3) := by decide +kernel
theorem dX11_init_19 : decode cX11_init 19 = .ok (.dup, 1) := by decide +kernel
theorem dX11_init_20 : decode cX11_init 20 = .ok (.invokespecial 11, 3) := by decide +kernel
theorem dX11_init_23 : decode cX11_init 23 = .ok (.putfield 18, 3) := by decide +kernel
theorem dX11_init_26 : decode cX11_init 26 = .ok (.aload_n 0, 1) := by decide +kernel
theorem dX11_init_27 : decode cX11_init 27 = .ok (.new 9, 3) := by decide +kernel
theorem dX11_init_30 : decode cX11_init 30 = .ok (.dup, 1) := by decide +kernel
theorem dX11_init_31 : decode cX11_init 31 = .ok (.invokespecial 11, 3) := by decide +kernel
theorem dX11_init_34 : decode cX11_init 34 = .ok (.putfield 21, 3) := by decide +kernel
theorem dX11_init_37 : decode cX11_init 37 = .ok (.aload_n 0, 1) := by decide +kernel
theorem dX11_init_38 : decode cX11_init 38 = .ok (.sipush 500, 3) := by decide +kernel
theorem dX11_init_41 : decode cX11_init 41 = .ok (.newarray .int, 2) := by decide +kernel
theorem dX11_init_43 : decode cX11_init 43 = .ok (.putfield 24, 3) := by decide +kernel
theorem dX11_init_46 : decode cX11_init 46 = .ok (.aload_n 0, 1) := by decide +kernel
theorem dX11_init_47 : decode cX11_init 47 = .ok (.sipush 500, 3) := by decide +kernel
theorem dX11_init_50 : decode cX11_init 50 = .ok (.newarray .int, 2) := by decide +kernel
theorem dX11_init_52 : decode cX11_init 52 = .ok (.putfield 28, 3) := by decide +kernel
theorem dX11_init_55 : decode cX11_init 55 = .ok (.aload_n 0, 1) := by decide +kernel
theorem dX11_init_56 : decode cX11_init 56 = .ok (.bipush 24, 2) := by decide +kernel
theorem dX11_init_58 : decode cX11_init 58 = .ok (.newarray .int, 2) := by decide +kernel
theorem dX11_init_60 : decode cX11_init 60 = .ok (.putfield 31, 3) := by decide +kernel
theorem dX11_init_63 : decode cX11_init 63 = .ok (.aload_n 0, 1) := by decide +kernel
theorem dX11_init_64 : decode cX11_init 64 = .ok (.bipush 24, 2) := by decide +kernel
theorem dX11_init_66 : decode cX11_init 66 = .ok (.newarray .int, 2) := by decide +kernel
theorem dX11_init_68 : decode cX11_init 68 = .ok (.putfield 34, 3) := by decide +kernel
theorem dX11_init_71 : decode cX11_init 71 = .ok (.aload_n 0, 1) := by decide +kernel
theorem dX11_init_72 : decode cX11_init 72 = .ok (.bipush 24, 2) := by decide +kernel
theorem dX11_init_74 : decode cX11_init 74 = .ok (.newarray .int, 2) := by decide +kernel
theorem dX11_init_76 : decode cX11_init 76 = .ok (.putfield 37, 3) := by decide +kernel
theorem dX11_init_79 : decode cX11_init 79 = .ok (.aload_n 0, 1) := by decide +kernel
theorem dX11_init_80 : decode cX11_init 80 = .ok (.bipush 24, 2) := by decide +kernel
theorem dX11_init_82 : decode cX11_init 82 = .ok (.newarray .int, 2) := by decide +kernel
theorem dX11_init_84 : decode cX11_init 84 = .ok (.putfield 40, 3) := by decide +kernel
theorem dX11_init_87 : decode cX11_init 87 = .ok (.aload_n 0, 1) := by decide +kernel
theorem dX11_init_88 : decode cX11_init 88 = .ok (.new 43, 3) := by decide +kernel
theorem dX11_init_91 : decode cX11_init 91 = .ok (.dup, 1) := by decide +kernel
theorem dX11_init_92 : decode cX11_init 92 = .ok (.invokespecial 45, 3) := by decide +kernel
theorem dX11_init_95 : decode cX11_init 95 = .ok (.putfield 46, 3) := by decide +kernel
theorem dX11_init_98 : decode cX11_init 98 = .ok (.aload_n 0, 1) := by decide +kernel
theorem dX11_init_99 : decode cX11_init 99 = .ok (.iconst 0, 1) := by decide +kernel
theorem dX11_init_100 : decode cX11_init 100 = .ok (.newarray .int, 2) := by decide +kernel
theorem dX11_init_102 : decode cX11_init 102 = .ok (.putfield 50, 3) := by decide +kernel
theorem dX11_init_105 : decode cX11_init 105 = .ok (.aload_n 0, 1) := by decide +kernel
theorem dX11_init_106 : decode cX11_init 106 = .ok (.iconst 0, 1) := by decide +kernel
theorem dX11_init_107 : decode cX11_init 107 = .ok (.newarray .int, 2) := by decide +kernel
theorem dX11_init_109 : decode cX11_init 109 = .ok (.putfield 53, 3) := by decide +kernel
theorem dX11_init_112 : decode cX11_init 112 = .ok (.return_, 1) := by decide +kernel
theorem dX11_intEntry_0 : decode cX11_intEntry 0 = .ok (.aload_n 0, 1) := by decide +kernel
theorem dX11_intEntry_1 : decode cX11_intEntry 1 = .ok (.iconst 3, 1) := by decide +kernel
theorem dX11_intEntry_2 : decode cX11_intEntry 2 = .ok (.invokevirtual 147, 3) := by decide +kernel
theorem dX11_intEntry_5 : decode cX11_intEntry 5 = .ok (.aload_n 0, 1) := by decide +kernel
theorem dX11_intEntry_6 : decode cX11_intEntry 6 = .ok (.getfield 21, 3) := by decide +kernel
theorem dX11_intEntry_9 : decode cX11_intEntry 9 = .ok (.iload_n 1, 1) := by decide +kernel
theorem dX11_intEntry_10 : decode cX11_intEntry 10 = .ok (.invokevirtual 167, 3) := by decide +kernel
theorem dX11_intEntry_13 : decode cX11_intEntry 13 = .ok (.aload_n 0, 1) := by decide +kernel
theorem dX11_intEntry_14 : decode cX11_intEntry 14 = .ok (.invokevirtual 160, 3) := by decide +kernel
theorem dX11_intEntry_17 : decode cX11_intEntry 17 = .ok (.ireturn, 1) := by decide +kernel
theorem dX11_isByte_0 : decode cX11_isByte 0 = .ok (.lload_n 0, 1) := by decide +kernel
theorem dX11_isByte_1 : decode cX11_isByte 1 = .ok (.lload_n 0, 1) := by decide +kernel
theorem dX11_isByte_2 : decode cX11_isByte 2 = .ok (.l2i, 1) := by decide +kernel
theorem dX11_isByte_3 : decode cX11_isByte 3 = .ok (.i2b, 1) := by decide +kernel
theorem dX11_isByte_4 : decode cX11_isByte 4 = .ok (.i2l, 1) := by decide +kernel
theorem dX11_isByte_5 : decode cX11_isByte 5 = .ok (.lcmp, 1) := by decide +kernel
theorem dX11_isByte_6 : decode cX11_isByte 6 = .ok (.ifCond .ne 7, 3) := by decide +kernel
theorem dX11_isByte_9 : decode cX11_isByte 9 = .ok (.iconst 1, 1) := by decide +kernel
theorem dX11_isByte_10 : decode cX11_isByte 10 = .ok (.goto 4, 3) := by decide +kernel
theorem dX11_isByte_13 : decode cX11_isByte 13 = .ok (.iconst 0, 1) := by decide +kernel
theorem dX11_isByte_14 : decode cX11_isByte 14 = .ok (.ireturn, 1) := by decide +kernel
theorem dX11_isWanted_0 : decode cX11_isWanted 0 = .ok (.aload_n 0, 1) := by decide +kernel
theorem dX11_isWanted_1 : decode cX11_isWanted 1 = .ok (.getfield 24, 3) := by decide +kernel
theorem dX11_isWanted_4 : decode cX11_isWanted 4 = .ok (.iload_n 1, 1) := by decide +kernel
theorem dX11_isWanted_5 : decode cX11_isWanted 5 = .ok (.iaload, 1) := by decide +kernel
theorem dX11_isWanted_6 : decode cX11_isWanted 6 = .ok (.istore_n 2, 1) := by decide +kernel
theorem dX11_isWanted_7 : decode cX11_isWanted 7 = .ok (.aload_n 0, 1) := by decide +kernel
theorem dX11_isWanted_8 : decode cX11_isWanted 8 = .ok (.getfield 28, 3) := by decide +kernel
theorem dX11_isWanted_11 : decode cX11_isWanted 11 = .ok (.iload_n 1, 1) := by decide +kernel
theorem dX11_isWanted_12 : decode cX11_isWanted 12 = .ok (.iaload, 1) := by decide +kernel
theorem dX11_isWanted_13 : decode cX11_isWanted 13 = .ok (.iload_n 2, 1) := by decide +kernel
theorem dX11_isWanted_14 : decode cX11_isWanted 14 = .ok (.isub, 1) := by decide +kernel
theorem dX11_isWanted_15 : decode cX11_isWanted 15 = .ok (.istore_n 3, 1) := by decide +kernel
theorem dX11_isWanted_16 : decode cX11_isWanted 16 = .ok (.iload_n 3, 1) := by decide +kernel
theorem dX11_isWanted_17 : decode cX11_isWanted 17 = .ok (.aload_n 0, 1) := by decide +kernel
theorem dX11_isWanted_18 : decode cX11_isWanted 18 = .ok (.getfield 21, 3) := by decide +kernel
theorem dX11_isWanted_21 : decode cX11_isWanted 21 = .ok (.getfield 60, 3) := by decide +kernel
theorem dX11_isWanted_24 : decode cX11_isWanted 24 = .ok (.if_icmp .ne 24, 3) := by decide +kernel
theorem dX11_isWanted_27 : decode cX11_isWanted 27 = .ok (.iload_n 2, 1) := by decide +kernel
theorem dX11_isWanted_28 : decode cX11_isWanted 28 = .ok (.ifCond .lt 20, 3) := by decide +kernel
theorem dX11_isWanted_31 : decode cX11_isWanted 31 = .ok (.aload_n 0, 1) := by decide +kernel
theorem dX11_isWanted_32 : decode cX11_isWanted 32 = .ok (.getfield 28, 3) := by decide +kernel
theorem dX11_isWanted_35 : decode cX11_isWanted 35 = .ok (.iload_n 1, 1) := by decide +kernel
theorem dX11_isWanted_36 : decode cX11_isWanted 36 = .ok (.iaload, 1) := by decide +kernel
theorem dX11_isWanted_37 : decode cX11_isWanted 37 = .ok (.aload_n 0, 1) := by decide +kernel
theorem dX11_isWanted_38 : decode cX11_isWanted 38 = .ok (.getfield 12, 3) := by decide +kernel
theorem dX11_isWanted_41 : decode cX11_isWanted 41 = .ok (.getfield 143, 3) := by decide +kernel
theorem dX11_isWanted_44 : decode cX11_isWanted 44 = .ok (.arraylength, 1) := by decide +kernel
theorem dX11_isWanted_45 : decode cX11_isWanted 45 = .ok (.if_icmp .le 5, 3) := by decide +kernel
theorem dX11_isWanted_48 : decode cX11_isWanted 48 = .ok (.iconst 0, 1) := by decide +kernel
theorem dX11_isWanted_49 : decode cX11_isWanted 49 = .ok (.ireturn, 1) := by decide +kernel
theorem dX11_isWanted_50 : decode cX11_isWanted 50 = .ok (.iconst 0, 1) := by decide +kernel
theorem dX11_isWanted_51 : decode cX11_isWanted 51 = .ok (.istore 4, 2) := by decide +kernel
theorem dX11_isWanted_53 : decode cX11_isWanted 53 = .ok (.iload 4, 2) := by decide +kernel
theorem dX11_isWanted_55 : decode cX11_isWanted 55 = .ok (.iload_n 3, 1) := by decide +kernel
theorem dX11_isWanted_56 : decode cX11_isWanted 56 = .ok (.if_icmp .ge 49, 3) := by decide +kernel
theorem dX11_isWanted_59 : decode cX11_isWanted 59 = .ok (.iload 4, 2) := by decide +kernel
theorem dX11_isWanted_61 : decode cX11_isWanted 61 = .ok (.aload_n 0, 1) := by decide +kernel
theorem dX11_isWanted_62 : decode cX11_isWanted 62 = .ok (.getfield 21, 3) := by decide +kernel

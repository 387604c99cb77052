theorem dX11_entryOfWanted_139 : decode cX11_entryOfWanted 139 = .ok (.isub, 1) := by decide +kernel
theorem dX11_entryOfWanted_140 : decode cX11_entryOfWanted 140 = .ok (.aload_n 0, 1) := by decide +kernel
theorem dX11_entryOfWanted_141 : decode cX11_entryOfWanted 141 = .ok (.getfield 12, 3) := by decide +kernel
theorem dX11_entryOfWanted_144 : decode cX11_entryOfWanted 144 = .ok (.getfield 60, 3) := by decide +kernel
theorem dX11_entryOfWanted_147 : decode cX11_entryOfWanted 147 = .ok (.iastore, 1) := by decide +kernel
theorem dX11_entryOfWanted_148 : decode cX11_entryOfWanted 148 = .ok (.aload_n 0, 1) := by decide +kernel
theorem dX11_entryOfWanted_149 : decode cX11_entryOfWanted 149 = .ok (.getfield 28, 3) := by decide +kernel
theorem dX11_entryOfWanted_152 : decode cX11_entryOfWanted 152 = .ok (.aload_n 0, 1) := by decide +kernel
theorem dX11_entryOfWanted_153 : decode cX11_entryOfWanted 153 = .ok (.getfield 64, 3) := by decide +kernel
theorem dX11_entryOfWanted_156 : decode cX11_entryOfWanted 156 = .ok (.iconst 1, 1) := by decide +kernel
theorem dX11_entryOfWanted_157 : decode cX11_entryOfWanted 157 = .ok (.isub, 1) := by decide +kernel
theorem dX11_entryOfWanted_158 : decode cX11_entryOfWanted 158 = .ok (.aload_n 0, 1) := by decide +kernel
theorem dX11_entryOfWanted_159 : decode cX11_entryOfWanted 159 = .ok (.getfield 12, 3) := by decide +kernel
theorem dX11_entryOfWanted_162 : decode cX11_entryOfWanted 162 = .ok (.getfield 60, 3) := by decide +kernel
theorem dX11_entryOfWanted_165 : decode cX11_entryOfWanted 165 = .ok (.iastore, 1) := by decide +kernel
theorem dX11_entryOfWanted_166 : decode cX11_entryOfWanted 166 = .ok (.aload_n 0, 1) := by decide +kernel
theorem dX11_entryOfWanted_167 : decode cX11_entryOfWanted 167 = .ok (.getfield 64, 3) := by decide +kernel
theorem dX11_entryOfWanted_170 : decode cX11_entryOfWanted 170 = .ok (.iload_n 1, 1) := by decide +kernel
theorem dX11_entryOfWanted_171 : decode cX11_entryOfWanted 171 = .ok (.isub, 1) := by decide +kernel
theorem dX11_entryOfWanted_172 : decode cX11_entryOfWanted 172 = .ok (.ireturn, 1) := by decide +kernel
theorem dX11_fieldEntryOf_0 : decode cX11_fieldEntryOf 0 = .ok (.iload_n 1, 1) := by decide +kernel
theorem dX11_fieldEntryOf_1 : decode cX11_fieldEntryOf 1 = .ok (.ifCond .lt 12, 3) := by decide +kernel
theorem dX11_fieldEntryOf_4 : decode cX11_fieldEntryOf 4 = .ok (.iload_n 1, 1) := by decide +kernel
theorem dX11_fieldEntryOf_5 : decode cX11_fieldEntryOf 5 = .ok (.aload_n 0, 1) := by decide +kernel
theorem dX11_fieldEntryOf_6 : decode cX11_fieldEntryOf 6 = .ok (.getfield 37, 3) := by decide +kernel
theorem dX11_fieldEntryOf_9 : decode cX11_fieldEntryOf 9 = .ok (.arraylength, 1) := by decide +kernel
theorem dX11_fieldEntryOf_10 : decode cX11_fieldEntryOf 10 = .ok (.if_icmp .lt 5, 3) := by decide +kernel
theorem dX11_fieldEntryOf_13 : decode cX11_fieldEntryOf 13 = .ok (.iconst 0, 1) := by decide +kernel
theorem dX11_fieldEntryOf_14 : decode cX11_fieldEntryOf 14 = .ok (.ireturn, 1) := by decide +kernel
theorem dX11_fieldEntryOf_15 : decode cX11_fieldEntryOf 15 = .ok (.aload_n 0, 1) := by decide +kernel
theorem dX11_fieldEntryOf_16 : decode cX11_fieldEntryOf 16 = .ok (.getfield 37, 3) := by decide +kernel
theorem dX11_fieldEntryOf_19 : decode cX11_fieldEntryOf 19 = .ok (.iload_n 1, 1) := by decide +kernel
theorem dX11_fieldEntryOf_20 : decode cX11_fieldEntryOf 20 = .ok (.iaload, 1) := by decide +kernel
theorem dX11_fieldEntryOf_21 : decode cX11_fieldEntryOf 21 = .ok (.ifCond .ne 39, 3) := by decide +kernel
theorem dX11_fieldEntryOf_24 : decode cX11_fieldEntryOf 24 = .ok (.aload_n 0, 1) := by decide +kernel
theorem dX11_fieldEntryOf_25 : decode cX11_fieldEntryOf 25 = .ok (.bipush 12, 2) := by decide +kernel
theorem dX11_fieldEntryOf_27 : decode cX11_fieldEntryOf 27 = .ok (.aload_n 0, 1) := by decide +kernel
theorem dX11_fieldEntryOf_28 : decode cX11_fieldEntryOf 28 = .ok (.getfield 31, 3) := by decide +kernel
theorem dX11_fieldEntryOf_31 : decode cX11_fieldEntryOf 31 = .ok (.iload_n 1, 1) := by decide +kernel
theorem dX11_fieldEntryOf_32 : decode cX11_fieldEntryOf 32 = .ok (.iaload, 1) := by decide +kernel
theorem dX11_fieldEntryOf_33 : decode cX11_fieldEntryOf 33 = .ok (.aload_n 0, 1) := by decide +kernel
theorem dX11_fieldEntryOf_34 : decode cX11_fieldEntryOf 34 = .ok (.getfield 34, 3) := by decide +kernel
theorem dX11_fieldEntryOf_37 : decode cX11_fieldEntryOf 37 = .ok (.iload_n 1, 1) := by decide +kernel
theorem dX11_fieldEntryOf_38 : decode cX11_fieldEntryOf 38 = .ok (.iaload, 1) := by decide +kernel
theorem dX11_fieldEntryOf_39 : decode cX11_fieldEntryOf 39 = .ok (.invokevirtual 170, 3) := by decide +kernel
theorem dX11_fieldEntryOf_42 : decode cX11_fieldEntryOf 42 = .ok (.istore_n 2, 1) := by decide +kernel
theorem dX11_fieldEntryOf_43 : decode cX11_fieldEntryOf 43 = .ok (.aload_n 0, 1) := by decide +kernel
theorem dX11_fieldEntryOf_44 : decode cX11_fieldEntryOf 44 = .ok (.getfield 37, 3) := by decide +kernel
theorem dX11_fieldEntryOf_47 : decode cX11_fieldEntryOf 47 = .ok (.iload_n 1, 1) := by decide +kernel
theorem dX11_fieldEntryOf_48 : decode cX11_fieldEntryOf 48 = .ok (.aload_n 0, 1) := by decide +kernel
theorem dX11_fieldEntryOf_49 : decode cX11_fieldEntryOf 49 = .ok (.bipush 9, 2) := by decide +kernel
theorem dX11_fieldEntryOf_51 : decode cX11_fieldEntryOf 51 = .ok (.aload_n 0, 1) := by decide +kernel
theorem dX11_fieldEntryOf_52 : decode cX11_fieldEntryOf 52 = .ok (.getfield 99, 3) := by decide +kernel
theorem dX11_fieldEntryOf_55 : decode cX11_fieldEntryOf 55 = .ok (.iload_n 2, 1) := by decide +kernel
theorem dX11_fieldEntryOf_56 : decode cX11_fieldEntryOf 56 = .ok (.invokevirtual 170, 3) := by decide +kernel
theorem dX11_fieldEntryOf_59 : decode cX11_fieldEntryOf 59 = .ok (.iastore, 1) := by decide +kernel
theorem dX11_fieldEntryOf_60 : decode cX11_fieldEntryOf 60 = .ok (.aload_n 0, 1) := by decide +kernel
theorem dX11_fieldEntryOf_61 : decode cX11_fieldEntryOf 61 = .ok (.getfield 37, 3) := by decide +kernel
theorem dX11_fieldEntryOf_64 : decode cX11_fieldEntryOf 64 = .ok (.iload_n 1, 1) := by decide +kernel
theorem dX11_fieldEntryOf_65 : decode cX11_fieldEntryOf 65 = .ok (.iaload, 1) := by decide +kernel
theorem dX11_fieldEntryOf_66 : decode cX11_fieldEntryOf 66 = .ok (.ireturn, 1) := by decide +kernel
theorem dX11_finish_0 : decode cX11_finish 0 = .ok (.aload_n 0, 1) := by decide +kernel
theorem dX11_finish_1 : decode cX11_finish 1 = .ok (.getfield 18, 3) := by decide +kernel
theorem dX11_finish_4 : decode cX11_finish 4 = .ok (.iconst 0, 1) := by decide +kernel
theorem dX11_finish_5 : decode cX11_finish 5 = .ok (.invokevirtual 105, 3) := by decide +kernel
theorem dX11_finish_8 : decode cX11_finish 8 = .ok (.aload_n 1, 1) := by decide +kernel
theorem dX11_finish_9 : decode cX11_finish 9 = .ok (.iconst 0, 1) := by decide +kernel
theorem dX11_finish_10 : decode cX11_finish 10 = .ok (.putfield 60, 3) := by decide +kernel
theorem dX11_finish_13 : decode cX11_finish 13 = .ok (.iconst 0, 1) := by decide +kernel
theorem dX11_finish_14 : decode cX11_finish 14 = .ok (.istore_n 2, 1) := by decide +kernel
theorem dX11_finish_15 : decode cX11_finish 15 = .ok (.iload_n 2, 1) := by decide +kernel
theorem dX11_finish_16 : decode cX11_finish 16 = .ok (.getstatic 126, 3) := by decide +kernel
theorem dX11_finish_19 : decode cX11_finish 19 = .ok (.arraylength, 1) := by decide +kernel
theorem dX11_finish_20 : decode cX11_finish 20 = .ok (.if_icmp .ge 18, 3) := by decide +kernel
theorem dX11_finish_23 : decode cX11_finish 23 = .ok (.aload_n 1, 1) := by decide +kernel
theorem dX11_finish_24 : decode cX11_finish 24 = .ok (.getstatic 126, 3) := by decide +kernel
theorem dX11_finish_27 : decode cX11_finish 27 = .ok (.iload_n 2, 1) := by decide +kernel
theorem dX11_finish_28 : decode cX11_finish 28 = .ok (.iaload, 1) := by decide +kernel
theorem dX11_finish_29 : decode cX11_finish 29 = .ok (.invokevirtual 129, 3) := by decide +kernel
theorem dX11_finish_32 : decode cX11_finish 32 = .ok (.iinc 2 1, 3) := by decide +kernel
theorem dX11_finish_35 : decode cX11_finish 35 = .ok (.goto (-20), 3) := by decide +kernel
theorem dX11_finish_38 : decode cX11_finish 38 = .ok (.aload_n 1, 1) := by decide +kernel
theorem dX11_finish_39 : decode cX11_finish 39 = .ok (.aload_n 0, 1) := by decide +kernel
theorem dX11_finish_40 : decode cX11_finish 40 = .ok (.getfield 64, 3) := by decide +kernel
theorem dX11_finish_43 : decode cX11_finish 43 = .ok (.invokevirtual 105, 3) := by decide +kernel
theorem dX11_finish_46 : decode cX11_finish 46 = .ok (.aload_n 1, 1) := by decide +kernel
theorem dX11_finish_47 : decode cX11_finish 47 = .ok (.aload_n 0, 1) := by decide +kernel
theorem dX11_finish_48 : decode cX11_finish 48 = .ok (.getfield 12, 3) := by decide +kernel
theorem dX11_finish_51 : decode cX11_finish 51 = .ok (.invokevirtual 132, 3) := by decide +kernel
theorem dX11_finish_54 : decode cX11_finish 54 = .ok (.aload_n 1, 1) := by decide +kernel
theorem dX11_finish_55 : decode cX11_finish 55 = .ok (.aload_n 0, 1) := by decide +kernel
theorem dX11_finish_56 : decode cX11_finish 56 = .ok (.getfield 18, 3) := by decide +kernel
theorem dX11_finish_59 : decode cX11_finish 59 = .ok (.invokevirtual 132, 3) := by decide +kernel
theorem dX11_finish_62 : decode cX11_finish 62 = .ok (.return_, 1) := by decide +kernel
theorem dX11_fits_0 : decode cX11_fits 0 = .ok (.aload_n 0, 1) := by decide +kernel
theorem dX11_fits_1 : decode cX11_fits 1 = .ok (.getfield 67, 3) := by decide +kernel
theorem dX11_fits_4 : decode cX11_fits 4 = .ok (.ifCond .ne 7, 3) := by decide +kernel
theorem dX11_fits_7 : decode cX11_fits 7 = .ok (.iconst 1, 1) := by decide +kernel
theorem dX11_fits_8 : decode cX11_fits 8 = .ok (.goto 4, 3) := by decide +kernel
theorem dX11_fits_11 : decode cX11_fits 11 = .ok (.iconst 0, 1) := by decide +kernel
theorem dX11_fits_12 : decode cX11_fits 12 = .ok (.ireturn, 1) := by decide +kernel
theorem dX11_init_0 : decode cX11_init 0 = .ok (.aload_n 0, 1) := by decide +kernel
theorem dX11_init_1 : decode cX11_init 1 = .ok (.invokespecial 3, 3) := by decide +kernel
theorem dX11_init_4 : decode cX11_init 4 = .ok (.aload_n 0, 1) := by decide +kernel
theorem dX11_init_5 : decode cX11_init 5 = .ok (.new 9, 3) := by decide +kernel
theorem dX11_init_8 : decode cX11_init 8 = .ok (.dup, 1) := by decide +kernel
theorem dX11_init_9 : decode cX11_init 9 = .ok (.invokespecial 11, 3) := by decide +kernel
theorem dX11_init_12 : decode cX11_init 12 = .ok (.putfield 12, 3) := by decide +kernel
theorem dX11_init_15 : decode cX11_init 15 = .ok (.aload_n 0, 1) := by decide +kernel
theorem dX11_init_16 : decode cX11_init 16 = .ok (.new 9, 3) := by decide +kernel
theorem dX11_init_19 : decode cX11_init 19 = .ok (.dup, 1) := by decide +kernel
theorem dX11_init_20 : decode cX11_init 20 = .ok (.invokespecial 11, 3) := by decide +kernel
theorem dX11_init_23 : decode cX11_init 23 = .ok (.putfield 18, 3) := by decide +kernel
theorem dX11_init_26 : decode cX11_init 26 = .ok (.aload_n 0, 1) := by decide +kernel
theorem dX11_init_27 : decode cX11_init 27 = .ok (.new 9, 3) := by decide +kernel
theorem dX11_init_30 : decode cX11_init 30 = .ok (.dup, 1) := by decide +kernel
theorem dX11_init_31 : decode cX11_init 31 = .ok (.invokespecial 11, 3) := by decide +kernel
theorem dX11_init_34 : decode cX11_init 34 = .ok (.putfield 21, 3) := by decide +kernel
theorem dX11_init_37 : decode cX11_init 37 = .ok (.aload_n 0, 1) := by decide +kernel
theorem dX11_init_38 : decode cX11_init 38 = .ok (.sipush 500, 3) := by decide +kernel
theorem dX11_init_41 : decode cX11_init 41 = .ok (.newarray .int, 2) := by decide +kernel
theorem dX11_init_43 : decode cX11_init 43 = .ok (.putfield 24, 3) := by decide +kernel
theorem dX11_init_46 : decode cX11_init 46 = .ok (.aload_n 0, 1) := by decide +kernel
theorem dX11_init_47 : decode cX11_init 47 = .ok (.sipush 500, 3) := by decide +kernel
theorem dX11_init_50 : decode cX11_init 50 = .ok (.newarray .int, 2) := by decide +kernel
theorem dX11_init_52 : decode cX11_init 52 = .ok (.putfield 28, 3) := by decide +kernel
theorem dX11_init_55 : decode cX11_init 55 = .ok (.aload_n 0, 1) := by decide +kernel
theorem dX11_init_56 : decode cX11_init 56 = .ok (.bipush 24, 2) := by decide +kernel
theorem dX11_init_58 : decode cX11_init 58 = .ok (.newarray .int, 2) := by decide +kernel
theorem dX11_init_60 : decode cX11_init 60 = .ok (.putfield 31, 3) := by decide +kernel
theorem dX11_init_63 : decode cX11_init 63 = .ok (.aload_n 0, 1) := by decide +kernel
theorem dX11_init_64 : decode cX11_init 64 = .ok (.bipush 24, 2) := by decide +kernel
theorem dX11_init_66 : decode cX11_init 66 = .ok (.newarray .int, 2) := by decide +kernel
theorem dX11_init_68 : decode cX11_init 68 = .ok (.putfield 34, 3) := by decide +kernel
theorem dX11_init_71 : decode cX11_init 71 = .ok (.aload_n 0, 1) := by decide +kernel
theorem dX11_init_72 : decode cX11_init 72 = .ok (.bipush 24, 2) := by decide +kernel
theorem dX11_init_74 : decode cX11_init 74 = .ok (.newarray .int, 2) := by decide +kernel
theorem dX11_init_76 : decode cX11_init 76 = .ok (.putfield 37, 3) := by decide +kernel
theorem dX11_init_79 : decode cX11_init 79 = .ok (.aload_n 0, 1) := by decide +kernel
theorem dX11_init_80 : decode cX11_init 80 = .ok (.bipush 24, 2) := by decide +kernel
theorem dX11_init_82 : decode cX11_init 82 = .ok (.newarray .int, 2) := by decide +kernel
theorem dX11_init_84 : decode cX11_init 84 = .ok (.putfield 40, 3) := by decide +kernel
theorem dX11_init_87 : decode cX11_init 87 = .ok (.aload_n 0, 1) := by decide +kernel
theorem dX11_init_88 : decode cX11_init 88 = .ok (.new 43, 3) := by decide +kernel
theorem dX11_init_91 : decode cX11_init 91 = .ok (.dup, 1) := by decide +kernel
theorem dX11_init_92 : decode cX11_init 92 = .ok (.invokespecial 45, 3) := by decide +kernel
theorem dX11_init_95 : decode cX11_init 95 = .ok (.putfield 46, 3) := by decide +kernel
theorem dX11_init_98 : decode cX11_init 98 = .ok (.aload_n 0, 1) := by decide +kernel
theorem dX11_init_99 : decode cX11_init 99 = .ok (.iconst 0, 1) := by decide +kernel
theorem dX11_init_100 : decode cX11_init 100 = .ok (.newarray .int, 2) := by decide +kernel

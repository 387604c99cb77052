theorem dX9_goThrough_86 : decode cX9_goThrough 86 = .ok (.iaload, 1) := by decide +kernel
theorem dX9_goThrough_87 : decode cX9_goThrough 87 = .ok (.iconst 1, 1) := by decide +kernel
theorem dX9_goThrough_88 : decode cX9_goThrough 88 = .ok (.iadd, 1) := by decide +kernel
theorem dX9_goThrough_89 : decode cX9_goThrough 89 = .ok (.iastore, 1) := by decide +kernel
theorem dX9_goThrough_90 : decode cX9_goThrough 90 = .ok (.iconst 1, 1) := by decide +kernel
theorem dX9_goThrough_91 : decode cX9_goThrough 91 = .ok (.istore_n 2, 1) := by decide +kernel
theorem dX9_goThrough_92 : decode cX9_goThrough 92 = .ok (.goto 6, 3) := by decide +kernel
theorem dX9_goThrough_95 : decode cX9_goThrough 95 = .ok (.iinc 4 1, 3) := by decide +kernel
theorem dX9_goThrough_98 : decode cX9_goThrough 98 = .ok (.iinc 5 1, 3) := by decide +kernel
theorem dX9_goThrough_101 : decode cX9_goThrough 101 = .ok (.goto (-91), 3) := by decide +kernel
theorem dX9_goThrough_104 : decode cX9_goThrough 104 = .ok (.iload_n 2, 1) := by decide +kernel
theorem dX9_goThrough_105 : decode cX9_goThrough 105 = .ok (.ireturn, 1) := by decide +kernel
theorem dX9_init_0 : decode cX9_init 0 = .ok (.aload_n 0, 1) := by decide +kernel
theorem dX9_init_1 : decode cX9_init 1 = .ok (.invokespecial 3, 3) := by decide +kernel
theorem dX9_init_4 : decode cX9_init 4 = .ok (.aload_n 0, 1) := by decide +kernel
theorem dX9_init_5 : decode cX9_init 5 = .ok (.new 9, 3) := by decide +kernel
theorem dX9_init_8 : decode cX9_init 8 = .ok (.dup, 1) := by decide +kernel
theorem dX9_init_9 : decode cX9_init 9 = .ok (.iconst 0, 1) := by decide +kernel
theorem dX9_init_10 : decode cX9_init 10 = .ok (.iconst 0, 1) := by decide +kernel
theorem dX9_init_11 : decode cX9_init 11 = .ok (.iconst 0, 1) := by decide +kernel
theorem dX9_init_12 : decode cX9_init 12 = .ok (.invokespecial 11, 3) := by decide +kernel
theorem dX9_init_15 : decode cX9_init 15 = .ok (.putfield 14, 3) := by decide +kernel
theorem dX9_init_18 : decode cX9_init 18 = .ok (.aload_n 0, 1) := by decide +kernel
theorem dX9_init_19 : decode cX9_init 19 = .ok (.bipush 12, 2) := by decide +kernel
theorem dX9_init_21 : decode cX9_init 21 = .ok (.newarray .int, 2) := by decide +kernel
theorem dX9_init_23 : decode cX9_init 23 = .ok (.putfield 20, 3) := by decide +kernel
theorem dX9_init_26 : decode cX9_init 26 = .ok (.aload_n 0, 1) := by decide +kernel
theorem dX9_init_27 : decode cX9_init 27 = .ok (.iconst 0, 1) := by decide +kernel
theorem dX9_init_28 : decode cX9_init 28 = .ok (.newarray .boolean, 2) := by decide +kernel
theorem dX9_init_30 : decode cX9_init 30 = .ok (.putfield 24, 3) := by decide +kernel
theorem dX9_init_33 : decode cX9_init 33 = .ok (.aload_n 0, 1) := by decide +kernel
theorem dX9_init_34 : decode cX9_init 34 = .ok (.iconst 0, 1) := by decide +kernel
theorem dX9_init_35 : decode cX9_init 35 = .ok (.newarray .boolean, 2) := by decide +kernel
theorem dX9_init_37 : decode cX9_init 37 = .ok (.putfield 28, 3) := by decide +kernel
theorem dX9_init_40 : decode cX9_init 40 = .ok (.aload_n 0, 1) := by decide +kernel
theorem dX9_init_41 : decode cX9_init 41 = .ok (.iconst 0, 1) := by decide +kernel
theorem dX9_init_42 : decode cX9_init 42 = .ok (.newarray .int, 2) := by decide +kernel
theorem dX9_init_44 : decode cX9_init 44 = .ok (.putfield 31, 3) := by decide +kernel
theorem dX9_init_47 : decode cX9_init 47 = .ok (.aload_n 0, 1) := by decide +kernel
theorem dX9_init_48 : decode cX9_init 48 = .ok (.iconst 0, 1) := by decide +kernel
theorem dX9_init_49 : decode cX9_init 49 = .ok (.newarray .int, 2) := by decide +kernel
theorem dX9_init_51 : decode cX9_init 51 = .ok (.putfield 34, 3) := by decide +kernel
theorem dX9_init_54 : decode cX9_init 54 = .ok (.return_, 1) := by decide +kernel
theorem dX9_isDeadStoreDone_0 : decode cX9_isDeadStoreDone 0 = .ok (.aload_n 0, 1) := by decide +kernel
theorem dX9_isDeadStoreDone_1 : decode cX9_isDeadStoreDone 1 = .ok (.getfield 14, 3) := by decide +kernel
theorem dX9_isDeadStoreDone_4 : decode cX9_isDeadStoreDone 4 = .ok (.iload_n 1, 1) := by decide +kernel
theorem dX9_isDeadStoreDone_5 : decode cX9_isDeadStoreDone 5 = .ok (.invokevirtual 71, 3) := by decide +kernel
theorem dX9_isDeadStoreDone_8 : decode cX9_isDeadStoreDone 8 = .ok (.istore_n 2, 1) := by decide +kernel
theorem dX9_isDeadStoreDone_9 : decode cX9_isDeadStoreDone 9 = .ok (.iload_n 2, 1) := by decide +kernel
theorem dX9_isDeadStoreDone_10 : decode cX9_isDeadStoreDone 10 = .ok (.sipush 132, 3) := by decide +kernel
theorem dX9_isDeadStoreDone_13 : decode cX9_isDeadStoreDone 13 = .ok (.if_icmp .eq 10, 3) := by decide +kernel
theorem dX9_isDeadStoreDone_16 : decode cX9_isDeadStoreDone 16 = .ok (.iload_n 2, 1) := by decide +kernel
theorem dX9_isDeadStoreDone_17 : decode cX9_isDeadStoreDone 17 = .ok (.invokestatic 257, 3) := by decide +kernel
theorem dX9_isDeadStoreDone_20 : decode cX9_isDeadStoreDone 20 = .ok (.ifCond .eq 17, 3) := by decide +kernel
theorem dX9_isDeadStoreDone_23 : decode cX9_isDeadStoreDone 23 = .ok (.aload_n 0, 1) := by decide +kernel
theorem dX9_isDeadStoreDone_24 : decode cX9_isDeadStoreDone 24 = .ok (.iload_n 1, 1) := by decide +kernel
theorem dX9_isDeadStoreDone_25 : decode cX9_isDeadStoreDone 25 = .ok (.invokevirtual 251, 3) := by decide +kernel
theorem dX9_isDeadStoreDone_28 : decode cX9_isDeadStoreDone 28 = .ok (.aload_n 0, 1) := by decide +kernel
theorem dX9_isDeadStoreDone_29 : decode cX9_isDeadStoreDone 29 = .ok (.iload_n 1, 1) := by decide +kernel
theorem dX9_isDeadStoreDone_30 : decode cX9_isDeadStoreDone 30 = .ok (.invokevirtual 254, 3) := by decide +kernel
theorem dX9_isDeadStoreDone_33 : decode cX9_isDeadStoreDone 33 = .ok (.iand, 1) := by decide +kernel
theorem dX9_isDeadStoreDone_34 : decode cX9_isDeadStoreDone 34 = .ok (.ifCond .eq 5, 3) := by decide +kernel
theorem dX9_isDeadStoreDone_37 : decode cX9_isDeadStoreDone 37 = .ok (.iconst 0, 1) := by decide +kernel
theorem dX9_isDeadStoreDone_38 : decode cX9_isDeadStoreDone 38 = .ok (.ireturn, 1) := by decide +kernel
theorem dX9_isDeadStoreDone_39 : decode cX9_isDeadStoreDone 39 = .ok (.iload_n 2, 1) := by decide +kernel
theorem dX9_isDeadStoreDone_40 : decode cX9_isDeadStoreDone 40 = .ok (.sipush 132, 3) := by decide +kernel
theorem dX9_isDeadStoreDone_43 : decode cX9_isDeadStoreDone 43 = .ok (.if_icmp .ne 15, 3) := by decide +kernel
theorem dX9_isDeadStoreDone_46 : decode cX9_isDeadStoreDone 46 = .ok (.aload_n 0, 1) := by decide +kernel
theorem dX9_isDeadStoreDone_47 : decode cX9_isDeadStoreDone 47 = .ok (.getfield 14, 3) := by decide +kernel
theorem dX9_isDeadStoreDone_50 : decode cX9_isDeadStoreDone 50 = .ok (.iload_n 1, 1) := by decide +kernel
theorem dX9_isDeadStoreDone_51 : decode cX9_isDeadStoreDone 51 = .ok (.iconst 1, 1) := by decide +kernel
theorem dX9_isDeadStoreDone_52 : decode cX9_isDeadStoreDone 52 = .ok (.invokevirtual 176, 3) := by decide +kernel
theorem dX9_isDeadStoreDone_55 : decode cX9_isDeadStoreDone 55 = .ok (.goto 25, 3) := by decide +kernel
theorem dX9_isDeadStoreDone_58 : decode cX9_isDeadStoreDone 58 = .ok (.aload_n 0, 1) := by decide +kernel
theorem dX9_isDeadStoreDone_59 : decode cX9_isDeadStoreDone 59 = .ok (.getfield 14, 3) := by decide +kernel
theorem dX9_isDeadStoreDone_62 : decode cX9_isDeadStoreDone 62 = .ok (.iload_n 1, 1) := by decide +kernel
theorem dX9_isDeadStoreDone_63 : decode cX9_isDeadStoreDone 63 = .ok (.iload_n 2, 1) := by decide +kernel
theorem dX9_isDeadStoreDone_64 : decode cX9_isDeadStoreDone 64 = .ok (.bipush 55, 2) := by decide +kernel
theorem dX9_isDeadStoreDone_66 : decode cX9_isDeadStoreDone 66 = .ok (.if_icmp .ne 8, 3) := by decide +kernel
theorem dX9_isDeadStoreDone_69 : decode cX9_isDeadStoreDone 69 = .ok (.bipush 88, 2) := by decide +kernel
theorem dX9_isDeadStoreDone_71 : decode cX9_isDeadStoreDone 71 = .ok (.goto 5, 3) := by decide +kernel
theorem dX9_isDeadStoreDone_74 : decode cX9_isDeadStoreDone 74 = .ok (.bipush 87, 2) := by decide +kernel
theorem dX9_isDeadStoreDone_76 : decode cX9_isDeadStoreDone 76 = .ok (.lconst 0, 1) := by decide +kernel
theorem dX9_isDeadStoreDone_77 : decode cX9_isDeadStoreDone 77 = .ok (.invokevirtual 200, 3) := by decide +kernel
theorem dX9_isDeadStoreDone_80 : decode cX9_isDeadStoreDone 80 = .ok (.iconst 1, 1) := by decide +kernel
theorem dX9_isDeadStoreDone_81 : decode cX9_isDeadStoreDone 81 = .ok (.ireturn, 1) := by decide +kernel
theorem dX9_isDone_0 : decode cX9_isDone 0 = .ok (.iload_n 1, 1) := by decide +kernel
theorem dX9_isDone_1 : decode cX9_isDone 1 = .ok (.iconst 2, 1) := by decide +kernel
theorem dX9_isDone_2 : decode cX9_isDone 2 = .ok (.if_icmp .ne 9, 3) := by decide +kernel
theorem dX9_isDone_5 : decode cX9_isDone 5 = .ok (.aload_n 0, 1) := by decide +kernel
theorem dX9_isDone_6 : decode cX9_isDone 6 = .ok (.iload_n 2, 1) := by decide +kernel
theorem dX9_isDone_7 : decode cX9_isDone 7 = .ok (.invokevirtual 146, 3) := by decide +kernel
theorem dX9_isDone_10 : decode cX9_isDone 10 = .ok (.ireturn, 1) := by decide +kernel
theorem dX9_isDone_11 : decode cX9_isDone 11 = .ok (.iload_n 2, 1) := by decide +kernel
theorem dX9_isDone_12 : decode cX9_isDone 12 = .ok (.aload_n 0, 1) := by decide +kernel
theorem dX9_isDone_13 : decode cX9_isDone 13 = .ok (.getfield 14, 3) := by decide +kernel
theorem dX9_isDone_16 : decode cX9_isDone 16 = .ok (.getfield 54, 3) := by decide +kernel
theorem dX9_isDone_19 : decode cX9_isDone 19 = .ok (.iconst 1, 1) := by decide +kernel
theorem dX9_isDone_20 : decode cX9_isDone 20 = .ok (.isub, 1) := by decide +kernel
theorem dX9_isDone_21 : decode cX9_isDone 21 = .ok (.if_icmp .lt 5, 3) := by decide +kernel
theorem dX9_isDone_24 : decode cX9_isDone 24 = .ok (.iconst 0, 1) := by decide +kernel
theorem dX9_isDone_25 : decode cX9_isDone 25 = .ok (.ireturn, 1) := by decide +kernel
theorem dX9_isDone_26 : decode cX9_isDone 26 = .ok (.iload_n 1, 1) := by decide +kernel
theorem dX9_isDone_27 : decode cX9_isDone 27 = .ok (.tableswitch 230 3 10 #[45, 90, 116, 122, 128, 134, 166, 198], 45) := by decide +kernel
theorem dX9_isDone_72 : decode cX9_isDone 72 = .ok (.aload_n 0, 1) := by decide +kernel
theorem dX9_isDone_73 : decode cX9_isDone 73 = .ok (.getfield 14, 3) := by decide +kernel
theorem dX9_isDone_76 : decode cX9_isDone 76 = .ok (.iload_n 2, 1) := by decide +kernel
theorem dX9_isDone_77 : decode cX9_isDone 77 = .ok (.invokevirtual 71, 3) := by decide +kernel
theorem dX9_isDone_80 : decode cX9_isDone 80 = .ok (.sipush 167, 3) := by decide +kernel
theorem dX9_isDone_83 : decode cX9_isDone 83 = .ok (.if_icmp .ne 32, 3) := by decide +kernel
theorem dX9_isDone_86 : decode cX9_isDone 86 = .ok (.aload_n 0, 1) := by decide +kernel
theorem dX9_isDone_87 : decode cX9_isDone 87 = .ok (.getfield 14, 3) := by decide +kernel
theorem dX9_isDone_90 : decode cX9_isDone 90 = .ok (.iload_n 2, 1) := by decide +kernel
theorem dX9_isDone_91 : decode cX9_isDone 91 = .ok (.invokevirtual 74, 3) := by decide +kernel
theorem dX9_isDone_94 : decode cX9_isDone 94 = .ok (.iload_n 2, 1) := by decide +kernel
theorem dX9_isDone_95 : decode cX9_isDone 95 = .ok (.iconst 1, 1) := by decide +kernel
theorem dX9_isDone_96 : decode cX9_isDone 96 = .ok (.iadd, 1) := by decide +kernel
theorem dX9_isDone_97 : decode cX9_isDone 97 = .ok (.i2l, 1) := by decide +kernel
theorem dX9_isDone_98 : decode cX9_isDone 98 = .ok (.lcmp, 1) := by decide +kernel
theorem dX9_isDone_99 : decode cX9_isDone 99 = .ok (.ifCond .ne 16, 3) := by decide +kernel
theorem dX9_isDone_102 : decode cX9_isDone 102 = .ok (.aload_n 0, 1) := by decide +kernel
theorem dX9_isDone_103 : decode cX9_isDone 103 = .ok (.iload_n 2, 1) := by decide +kernel
theorem dX9_isDone_104 : decode cX9_isDone 104 = .ok (.iconst 1, 1) := by decide +kernel
theorem dX9_isDone_105 : decode cX9_isDone 105 = .ok (.invokevirtual 149, 3) := by decide +kernel
theorem dX9_isDone_108 : decode cX9_isDone 108 = .ok (.ifCond .eq 7, 3) := by decide +kernel
theorem dX9_isDone_111 : decode cX9_isDone 111 = .ok (.iconst 1, 1) := by decide +kernel
theorem dX9_isDone_112 : decode cX9_isDone 112 = .ok (.goto 4, 3) := by decide +kernel
theorem dX9_isDone_115 : decode cX9_isDone 115 = .ok (.iconst 0, 1) := by decide +kernel
theorem dX9_isDone_116 : decode cX9_isDone 116 = .ok (.ireturn, 1) := by decide +kernel
theorem dX9_isDone_117 : decode cX9_isDone 117 = .ok (.aload_n 0, 1) := by decide +kernel
theorem dX9_isDone_118 : decode cX9_isDone 118 = .ok (.getfield 14, 3) := by decide +kernel
theorem dX9_isDone_121 : decode cX9_isDone 121 = .ok (.iload_n 2, 1) := by decide +kernel
theorem dX9_isDone_122 : decode cX9_isDone 122 = .ok (.invokevirtual 71, 3) := by decide +kernel
theorem dX9_isDone_125 : decode cX9_isDone 125 = .ok (.ifCond .ne 16, 3) := by decide +kernel
theorem dX9_isDone_128 : decode cX9_isDone 128 = .ok (.aload_n 0, 1) := by decide +kernel
theorem dX9_isDone_129 : decode cX9_isDone 129 = .ok (.iload_n 2, 1) := by decide +kernel
theorem dX9_isDone_130 : decode cX9_isDone 130 = .ok (.iconst 1, 1) := by decide +kernel
theorem dX9_isDone_131 : decode cX9_isDone 131 = .ok (.invokevirtual 149, 3) := by decide +kernel
theorem dX9_isDone_134 : decode cX9_isDone 134 = .ok (.ifCond .eq 7, 3) := by decide +kernel
theorem dX9_isDone_137 : decode cX9_isDone 137 = .ok (.iconst 1, 1) := by decide +kernel
theorem dX9_isDone_138 : decode cX9_isDone 138 = .ok (.goto 4, 3) := by decide +kernel
theorem dX9_isDone_141 : decode cX9_isDone 141 = .ok (.iconst 0, 1) := by decide +kernel
theorem dX9_isDone_142 : decode cX9_isDone 142 = .ok (.ireturn, 1) := by decide +kernel
theorem dX9_isDone_143 : decode cX9_isDone 143 = .ok (.aload_n 0, 1) := by decide +kernel
theorem dX9_isDone_144 : decode cX9_isDone 144 = .ok (.iload_n 2, 1) := by decide +kernel
theorem dX9_isDone_145 : decode cX9_isDone 145 = .ok (.invokevirtual 152, 3) := by decide +kernel
theorem dX9_isDone_148 : decode cX9_isDone 148 = .ok (.ireturn, 1) := by decide +kernel
theorem dX9_isDone_149 : decode cX9_isDone 149 = .ok (.aload_n 0, 1) := by decide +kernel
theorem dX9_isDone_150 : decode cX9_isDone 150 = .ok (.iload_n 2, 1) := by decide +kernel
theorem dX9_isDone_151 : decode cX9_isDone 151 = .ok (.invokevirtual 155, 3) := by decide +kernel

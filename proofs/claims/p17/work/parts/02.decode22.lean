theorem dX1_firstFault_166 : decode cX1_firstFault 166 = .ok (.goto (-35), 3) := by decide +kernel
theorem dX1_firstFault_169 : decode cX1_firstFault 169 = .ok (.aload_n 0, 1) := by decide +kernel
theorem dX1_firstFault_170 : decode cX1_firstFault 170 = .ok (.invokevirtual 75, 3) := by decide +kernel
theorem dX1_firstFault_173 : decode cX1_firstFault 173 = .ok (.iconst (-1), 1) := by decide +kernel
theorem dX1_firstFault_174 : decode cX1_firstFault 174 = .ok (.ireturn, 1) := by decide +kernel
theorem dX1_flowFrom_0 : decode cX1_flowFrom 0 = .ok (.aload_n 0, 1) := by decide +kernel
theorem dX1_flowFrom_1 : decode cX1_flowFrom 1 = .ok (.getfield 36, 3) := by decide +kernel
theorem dX1_flowFrom_4 : decode cX1_flowFrom 4 = .ok (.iload_n 1, 1) := by decide +kernel
theorem dX1_flowFrom_5 : decode cX1_flowFrom 5 = .ok (.invokevirtual 129, 3) := by decide +kernel
theorem dX1_flowFrom_8 : decode cX1_flowFrom 8 = .ok (.ifCond .eq 64, 3) := by decide +kernel
theorem dX1_flowFrom_11 : decode cX1_flowFrom 11 = .ok (.aload_n 0, 1) := by decide +kernel
theorem dX1_flowFrom_12 : decode cX1_flowFrom 12 = .ok (.iload_n 1, 1) := by decide +kernel
theorem dX1_flowFrom_13 : decode cX1_flowFrom 13 = .ok (.invokevirtual 132, 3) := by decide +kernel
theorem dX1_flowFrom_16 : decode cX1_flowFrom 16 = .ok (.aload_n 0, 1) := by decide +kernel
theorem dX1_flowFrom_17 : decode cX1_flowFrom 17 = .ok (.iconst 1, 1) := by decide +kernel
theorem dX1_flowFrom_18 : decode cX1_flowFrom 18 = .ok (.putfield 103, 3) := by decide +kernel
theorem dX1_flowFrom_21 : decode cX1_flowFrom 21 = .ok (.aload_n 0, 1) := by decide +kernel
theorem dX1_flowFrom_22 : decode cX1_flowFrom 22 = .ok (.bipush 24, 2) := by decide +kernel
theorem dX1_flowFrom_24 : decode cX1_flowFrom 24 = .ok (.iconst 5, 1) := by decide +kernel
theorem dX1_flowFrom_25 : decode cX1_flowFrom 25 = .ok (.invokevirtual 99, 3) := by decide +kernel
theorem dX1_flowFrom_28 : decode cX1_flowFrom 28 = .ok (.iconst 0, 1) := by decide +kernel
theorem dX1_flowFrom_29 : decode cX1_flowFrom 29 = .ok (.istore_n 2, 1) := by decide +kernel
theorem dX1_flowFrom_30 : decode cX1_flowFrom 30 = .ok (.iload_n 2, 1) := by decide +kernel
theorem dX1_flowFrom_31 : decode cX1_flowFrom 31 = .ok (.aload_n 0, 1) := by decide +kernel
theorem dX1_flowFrom_32 : decode cX1_flowFrom 32 = .ok (.getfield 36, 3) := by decide +kernel
theorem dX1_flowFrom_35 : decode cX1_flowFrom 35 = .ok (.getfield 135, 3) := by decide +kernel
theorem dX1_flowFrom_38 : decode cX1_flowFrom 38 = .ok (.if_icmp .ge 34, 3) := by decide +kernel
theorem dX1_flowFrom_41 : decode cX1_flowFrom 41 = .ok (.aload_n 0, 1) := by decide +kernel
theorem dX1_flowFrom_42 : decode cX1_flowFrom 42 = .ok (.getfield 36, 3) := by decide +kernel
theorem dX1_flowFrom_45 : decode cX1_flowFrom 45 = .ok (.iload_n 2, 1) := by decide +kernel
theorem dX1_flowFrom_46 : decode cX1_flowFrom 46 = .ok (.iload_n 1, 1) := by decide +kernel
theorem dX1_flowFrom_47 : decode cX1_flowFrom 47 = .ok (.invokevirtual 138, 3) := by decide +kernel
theorem dX1_flowFrom_50 : decode cX1_flowFrom 50 = .ok (.ifCond .eq 16, 3) := by decide +kernel
theorem dX1_flowFrom_53 : decode cX1_flowFrom 53 = .ok (.aload_n 0, 1) := by decide +kernel
theorem dX1_flowFrom_54 : decode cX1_flowFrom 54 = .ok (.aload_n 0, 1) := by decide +kernel
theorem dX1_flowFrom_55 : decode cX1_flowFrom 55 = .ok (.getfield 36, 3) := by decide +kernel
theorem dX1_flowFrom_58 : decode cX1_flowFrom 58 = .ok (.getfield 142, 3) := by decide +kernel
theorem dX1_flowFrom_61 : decode cX1_flowFrom 61 = .ok (.iload_n 2, 1) := by decide +kernel
theorem dX1_flowFrom_62 : decode cX1_flowFrom 62 = .ok (.iaload, 1) := by decide +kernel
theorem dX1_flowFrom_63 : decode cX1_flowFrom 63 = .ok (.invokevirtual 106, 3) := by decide +kernel
theorem dX1_flowFrom_66 : decode cX1_flowFrom 66 = .ok (.iinc 2 1, 3) := by decide +kernel
theorem dX1_flowFrom_69 : decode cX1_flowFrom 69 = .ok (.goto (-39), 3) := by decide +kernel
theorem dX1_flowFrom_72 : decode cX1_flowFrom 72 = .ok (.aload_n 0, 1) := by decide +kernel
theorem dX1_flowFrom_73 : decode cX1_flowFrom 73 = .ok (.iload_n 1, 1) := by decide +kernel
theorem dX1_flowFrom_74 : decode cX1_flowFrom 74 = .ok (.invokevirtual 132, 3) := by decide +kernel
theorem dX1_flowFrom_77 : decode cX1_flowFrom 77 = .ok (.aload_n 0, 1) := by decide +kernel
theorem dX1_flowFrom_78 : decode cX1_flowFrom 78 = .ok (.iload_n 1, 1) := by decide +kernel
theorem dX1_flowFrom_79 : decode cX1_flowFrom 79 = .ok (.invokevirtual 146, 3) := by decide +kernel
theorem dX1_flowFrom_82 : decode cX1_flowFrom 82 = .ok (.aload_n 0, 1) := by decide +kernel
theorem dX1_flowFrom_83 : decode cX1_flowFrom 83 = .ok (.getfield 36, 3) := by decide +kernel
theorem dX1_flowFrom_86 : decode cX1_flowFrom 86 = .ok (.iload_n 1, 1) := by decide +kernel
theorem dX1_flowFrom_87 : decode cX1_flowFrom 87 = .ok (.invokevirtual 149, 3) := by decide +kernel
theorem dX1_flowFrom_90 : decode cX1_flowFrom 90 = .ok (.invokestatic 152, 3) := by decide +kernel
theorem dX1_flowFrom_93 : decode cX1_flowFrom 93 = .ok (.ifCond .eq 10, 3) := by decide +kernel
theorem dX1_flowFrom_96 : decode cX1_flowFrom 96 = .ok (.aload_n 0, 1) := by decide +kernel
theorem dX1_flowFrom_97 : decode cX1_flowFrom 97 = .ok (.iload_n 1, 1) := by decide +kernel
theorem dX1_flowFrom_98 : decode cX1_flowFrom 98 = .ok (.iconst 1, 1) := by decide +kernel
theorem dX1_flowFrom_99 : decode cX1_flowFrom 99 = .ok (.iadd, 1) := by decide +kernel
theorem dX1_flowFrom_100 : decode cX1_flowFrom 100 = .ok (.invokevirtual 106, 3) := by decide +kernel
theorem dX1_flowFrom_103 : decode cX1_flowFrom 103 = .ok (.aload_n 0, 1) := by decide +kernel
theorem dX1_flowFrom_104 : decode cX1_flowFrom 104 = .ok (.getfield 36, 3) := by decide +kernel
theorem dX1_flowFrom_107 : decode cX1_flowFrom 107 = .ok (.iload_n 1, 1) := by decide +kernel
theorem dX1_flowFrom_108 : decode cX1_flowFrom 108 = .ok (.invokevirtual 155, 3) := by decide +kernel
theorem dX1_flowFrom_111 : decode cX1_flowFrom 111 = .ok (.istore_n 2, 1) := by decide +kernel
theorem dX1_flowFrom_112 : decode cX1_flowFrom 112 = .ok (.iconst 0, 1) := by decide +kernel
theorem dX1_flowFrom_113 : decode cX1_flowFrom 113 = .ok (.istore_n 3, 1) := by decide +kernel
theorem dX1_flowFrom_114 : decode cX1_flowFrom 114 = .ok (.iload_n 3, 1) := by decide +kernel
theorem dX1_flowFrom_115 : decode cX1_flowFrom 115 = .ok (.iload_n 2, 1) := by decide +kernel
theorem dX1_flowFrom_116 : decode cX1_flowFrom 116 = .ok (.if_icmp .ge 22, 3) := by decide +kernel
theorem dX1_flowFrom_119 : decode cX1_flowFrom 119 = .ok (.aload_n 0, 1) := by decide +kernel
theorem dX1_flowFrom_120 : decode cX1_flowFrom 120 = .ok (.aload_n 0, 1) := by decide +kernel
theorem dX1_flowFrom_121 : decode cX1_flowFrom 121 = .ok (.getfield 36, 3) := by decide +kernel
theorem dX1_flowFrom_124 : decode cX1_flowFrom 124 = .ok (.iload_n 1, 1) := by decide +kernel
theorem dX1_flowFrom_125 : decode cX1_flowFrom 125 = .ok (.iload_n 3, 1) := by decide +kernel
theorem dX1_flowFrom_126 : decode cX1_flowFrom 126 = .ok (.invokevirtual 158, 3) := by decide +kernel
theorem dX1_flowFrom_129 : decode cX1_flowFrom 129 = .ok (.invokevirtual 106, 3) := by decide +kernel
theorem dX1_flowFrom_132 : decode cX1_flowFrom 132 = .ok (.iinc 3 1, 3) := by decide +kernel
theorem dX1_flowFrom_135 : decode cX1_flowFrom 135 = .ok (.goto (-21), 3) := by decide +kernel
theorem dX1_flowFrom_138 : decode cX1_flowFrom 138 = .ok (.return_, 1) := by decide +kernel
theorem dX1_give_0 : decode cX1_give 0 = .ok (.iload_n 1, 1) := by decide +kernel
theorem dX1_give_1 : decode cX1_give 1 = .ok (.ifCond .eq 11, 3) := by decide +kernel
theorem dX1_give_4 : decode cX1_give 4 = .ok (.aload_n 0, 1) := by decide +kernel
theorem dX1_give_5 : decode cX1_give 5 = .ok (.iload_n 1, 1) := by decide +kernel
theorem dX1_give_6 : decode cX1_give 6 = .ok (.invokestatic 96, 3) := by decide +kernel
theorem dX1_give_9 : decode cX1_give 9 = .ok (.invokevirtual 211, 3) := by decide +kernel
theorem dX1_give_12 : decode cX1_give 12 = .ok (.iload_n 1, 1) := by decide +kernel
theorem dX1_give_13 : decode cX1_give 13 = .ok (.iconst 2, 1) := by decide +kernel
theorem dX1_give_14 : decode cX1_give 14 = .ok (.if_icmp .ne 8, 3) := by decide +kernel
theorem dX1_give_17 : decode cX1_give 17 = .ok (.aload_n 0, 1) := by decide +kernel
theorem dX1_give_18 : decode cX1_give 18 = .ok (.iconst 3, 1) := by decide +kernel
theorem dX1_give_19 : decode cX1_give 19 = .ok (.invokevirtual 211, 3) := by decide +kernel
theorem dX1_give_22 : decode cX1_give 22 = .ok (.return_, 1) := by decide +kernel
theorem dX1_goThrough_0 : decode cX1_goThrough 0 = .ok (.aload_n 0, 1) := by decide +kernel
theorem dX1_goThrough_1 : decode cX1_goThrough 1 = .ok (.getfield 36, 3) := by decide +kernel
theorem dX1_goThrough_4 : decode cX1_goThrough 4 = .ok (.iload_n 1, 1) := by decide +kernel
theorem dX1_goThrough_5 : decode cX1_goThrough 5 = .ok (.invokevirtual 149, 3) := by decide +kernel
theorem dX1_goThrough_8 : decode cX1_goThrough 8 = .ok (.istore_n 2, 1) := by decide +kernel
theorem dX1_goThrough_9 : decode cX1_goThrough 9 = .ok (.iload_n 2, 1) := by decide +kernel
theorem dX1_goThrough_10 : decode cX1_goThrough 10 = .ok (.bipush 87, 2) := by decide +kernel
theorem dX1_goThrough_12 : decode cX1_goThrough 12 = .ok (.if_icmp .lt 17, 3) := by decide +kernel
theorem dX1_goThrough_15 : decode cX1_goThrough 15 = .ok (.iload_n 2, 1) := by decide +kernel
theorem dX1_goThrough_16 : decode cX1_goThrough 16 = .ok (.bipush 95, 2) := by decide +kernel
theorem dX1_goThrough_18 : decode cX1_goThrough 18 = .ok (.if_icmp .gt 11, 3) := by decide +kernel
theorem dX1_goThrough_21 : decode cX1_goThrough 21 = .ok (.aload_n 0, 1) := by decide +kernel
theorem dX1_goThrough_22 : decode cX1_goThrough 22 = .ok (.iload_n 2, 1) := by decide +kernel
theorem dX1_goThrough_23 : decode cX1_goThrough 23 = .ok (.invokevirtual 164, 3) := by decide +kernel
theorem dX1_goThrough_26 : decode cX1_goThrough 26 = .ok (.goto 191, 3) := by decide +kernel
theorem dX1_goThrough_29 : decode cX1_goThrough 29 = .ok (.iload_n 2, 1) := by decide +kernel
theorem dX1_goThrough_30 : decode cX1_goThrough 30 = .ok (.invokestatic 167, 3) := by decide +kernel
theorem dX1_goThrough_33 : decode cX1_goThrough 33 = .ok (.ifCond .eq 19, 3) := by decide +kernel
theorem dX1_goThrough_36 : decode cX1_goThrough 36 = .ok (.aload_n 0, 1) := by decide +kernel
theorem dX1_goThrough_37 : decode cX1_goThrough 37 = .ok (.iload_n 2, 1) := by decide +kernel
theorem dX1_goThrough_38 : decode cX1_goThrough 38 = .ok (.aload_n 0, 1) := by decide +kernel
theorem dX1_goThrough_39 : decode cX1_goThrough 39 = .ok (.getfield 36, 3) := by decide +kernel
theorem dX1_goThrough_42 : decode cX1_goThrough 42 = .ok (.iload_n 1, 1) := by decide +kernel
theorem dX1_goThrough_43 : decode cX1_goThrough 43 = .ok (.invokevirtual 170, 3) := by decide +kernel
theorem dX1_goThrough_46 : decode cX1_goThrough 46 = .ok (.invokevirtual 173, 3) := by decide +kernel
theorem dX1_goThrough_49 : decode cX1_goThrough 49 = .ok (.goto 168, 3) := by decide +kernel
theorem dX1_goThrough_52 : decode cX1_goThrough 52 = .ok (.iload_n 2, 1) := by decide +kernel
theorem dX1_goThrough_53 : decode cX1_goThrough 53 = .ok (.invokestatic 176, 3) := by decide +kernel
theorem dX1_goThrough_56 : decode cX1_goThrough 56 = .ok (.ifCond .eq 19, 3) := by decide +kernel
theorem dX1_goThrough_59 : decode cX1_goThrough 59 = .ok (.aload_n 0, 1) := by decide +kernel
theorem dX1_goThrough_60 : decode cX1_goThrough 60 = .ok (.iload_n 2, 1) := by decide +kernel
theorem dX1_goThrough_61 : decode cX1_goThrough 61 = .ok (.aload_n 0, 1) := by decide +kernel
theorem dX1_goThrough_62 : decode cX1_goThrough 62 = .ok (.getfield 36, 3) := by decide +kernel
theorem dX1_goThrough_65 : decode cX1_goThrough 65 = .ok (.iload_n 1, 1) := by decide +kernel
theorem dX1_goThrough_66 : decode cX1_goThrough 66 = .ok (.invokevirtual 170, 3) := by decide +kernel
theorem dX1_goThrough_69 : decode cX1_goThrough 69 = .ok (.invokevirtual 179, 3) := by decide +kernel
theorem dX1_goThrough_72 : decode cX1_goThrough 72 = .ok (.goto 145, 3) := by decide +kernel
theorem dX1_goThrough_75 : decode cX1_goThrough 75 = .ok (.iload_n 2, 1) := by decide +kernel
theorem dX1_goThrough_76 : decode cX1_goThrough 76 = .ok (.sipush 132, 3) := by decide +kernel
theorem dX1_goThrough_79 : decode cX1_goThrough 79 = .ok (.if_icmp .ne 36, 3) := by decide +kernel
theorem dX1_goThrough_82 : decode cX1_goThrough 82 = .ok (.aload_n 0, 1) := by decide +kernel
theorem dX1_goThrough_83 : decode cX1_goThrough 83 = .ok (.dup, 1) := by decide +kernel
theorem dX1_goThrough_84 : decode cX1_goThrough 84 = .ok (.getfield 161, 3) := by decide +kernel
theorem dX1_goThrough_87 : decode cX1_goThrough 87 = .ok (.aload_n 0, 1) := by decide +kernel
theorem dX1_goThrough_88 : decode cX1_goThrough 88 = .ok (.aload_n 0, 1) := by decide +kernel
theorem dX1_goThrough_89 : decode cX1_goThrough 89 = .ok (.getfield 36, 3) := by decide +kernel
theorem dX1_goThrough_92 : decode cX1_goThrough 92 = .ok (.iload_n 1, 1) := by decide +kernel
theorem dX1_goThrough_93 : decode cX1_goThrough 93 = .ok (.invokevirtual 170, 3) := by decide +kernel
theorem dX1_goThrough_96 : decode cX1_goThrough 96 = .ok (.invokevirtual 182, 3) := by decide +kernel
theorem dX1_goThrough_99 : decode cX1_goThrough 99 = .ok (.iconst 1, 1) := by decide +kernel
theorem dX1_goThrough_100 : decode cX1_goThrough 100 = .ok (.if_icmp .eq 7, 3) := by decide +kernel
theorem dX1_goThrough_103 : decode cX1_goThrough 103 = .ok (.iconst 1, 1) := by decide +kernel
theorem dX1_goThrough_104 : decode cX1_goThrough 104 = .ok (.goto 4, 3) := by decide +kernel
theorem dX1_goThrough_107 : decode cX1_goThrough 107 = .ok (.iconst 0, 1) := by decide +kernel
theorem dX1_goThrough_108 : decode cX1_goThrough 108 = .ok (.ior, 1) := by decide +kernel
theorem dX1_goThrough_109 : decode cX1_goThrough 109 = .ok (.putfield 161, 3) := by decide +kernel
theorem dX1_goThrough_112 : decode cX1_goThrough 112 = .ok (.goto 105, 3) := by decide +kernel
theorem dX1_goThrough_115 : decode cX1_goThrough 115 = .ok (.aload_n 0, 1) := by decide +kernel

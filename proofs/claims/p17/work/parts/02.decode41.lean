theorem dX3_addEdge_38 : decode cX3_addEdge 38 = .ok (.if_icmp .lt 21, 3) := by decide +kernel
theorem dX3_addEdge_41 : decode cX3_addEdge 41 = .ok (.aload_n 0, 1) := by decide +kernel
theorem dX3_addEdge_42 : decode cX3_addEdge 42 = .ok (.aload_n 0, 1) := by decide +kernel
theorem dX3_addEdge_43 : decode cX3_addEdge 43 = .ok (.getfield 21, 3) := by decide +kernel
theorem dX3_addEdge_46 : decode cX3_addEdge 46 = .ok (.iconst 2, 1) := by decide +kernel
theorem dX3_addEdge_47 : decode cX3_addEdge 47 = .ok (.aload_n 0, 1) := by decide +kernel
theorem dX3_addEdge_48 : decode cX3_addEdge 48 = .ok (.getfield 21, 3) := by decide +kernel
theorem dX3_addEdge_51 : decode cX3_addEdge 51 = .ok (.arraylength, 1) := by decide +kernel
theorem dX3_addEdge_52 : decode cX3_addEdge 52 = .ok (.imul, 1) := by decide +kernel
theorem dX3_addEdge_53 : decode cX3_addEdge 53 = .ok (.invokestatic 138, 3) := by decide +kernel
theorem dX3_addEdge_56 : decode cX3_addEdge 56 = .ok (.putfield 21, 3) := by decide +kernel
theorem dX3_addEdge_59 : decode cX3_addEdge 59 = .ok (.aload_n 0, 1) := by decide +kernel
theorem dX3_addEdge_60 : decode cX3_addEdge 60 = .ok (.getfield 47, 3) := by decide +kernel
theorem dX3_addEdge_63 : decode cX3_addEdge 63 = .ok (.aload_n 0, 1) := by decide +kernel
theorem dX3_addEdge_64 : decode cX3_addEdge 64 = .ok (.getfield 15, 3) := by decide +kernel
theorem dX3_addEdge_67 : decode cX3_addEdge 67 = .ok (.iload_n 2, 1) := by decide +kernel
theorem dX3_addEdge_68 : decode cX3_addEdge 68 = .ok (.iaload, 1) := by decide +kernel
theorem dX3_addEdge_69 : decode cX3_addEdge 69 = .ok (.iload_n 1, 1) := by decide +kernel
theorem dX3_addEdge_70 : decode cX3_addEdge 70 = .ok (.iastore, 1) := by decide +kernel
theorem dX3_addEdge_71 : decode cX3_addEdge 71 = .ok (.aload_n 0, 1) := by decide +kernel
theorem dX3_addEdge_72 : decode cX3_addEdge 72 = .ok (.getfield 21, 3) := by decide +kernel
theorem dX3_addEdge_75 : decode cX3_addEdge 75 = .ok (.iload_n 3, 1) := by decide +kernel
theorem dX3_addEdge_76 : decode cX3_addEdge 76 = .ok (.aload_n 0, 1) := by decide +kernel
theorem dX3_addEdge_77 : decode cX3_addEdge 77 = .ok (.getfield 15, 3) := by decide +kernel
theorem dX3_addEdge_80 : decode cX3_addEdge 80 = .ok (.iload_n 2, 1) := by decide +kernel
theorem dX3_addEdge_81 : decode cX3_addEdge 81 = .ok (.iaload, 1) := by decide +kernel
theorem dX3_addEdge_82 : decode cX3_addEdge 82 = .ok (.iastore, 1) := by decide +kernel
theorem dX3_addEdge_83 : decode cX3_addEdge 83 = .ok (.iload_n 3, 1) := by decide +kernel
theorem dX3_addEdge_84 : decode cX3_addEdge 84 = .ok (.iconst 1, 1) := by decide +kernel
theorem dX3_addEdge_85 : decode cX3_addEdge 85 = .ok (.iadd, 1) := by decide +kernel
theorem dX3_addEdge_86 : decode cX3_addEdge 86 = .ok (.ireturn, 1) := by decide +kernel
theorem dX3_addLoop_0 : decode cX3_addLoop 0 = .ok (.aload_n 0, 1) := by decide +kernel
theorem dX3_addLoop_1 : decode cX3_addLoop 1 = .ok (.getfield 47, 3) := by decide +kernel
theorem dX3_addLoop_4 : decode cX3_addLoop 4 = .ok (.iload_n 1, 1) := by decide +kernel
theorem dX3_addLoop_5 : decode cX3_addLoop 5 = .ok (.iload_n 1, 1) := by decide +kernel
theorem dX3_addLoop_6 : decode cX3_addLoop 6 = .ok (.iastore, 1) := by decide +kernel
theorem dX3_addLoop_7 : decode cX3_addLoop 7 = .ok (.aload_n 0, 1) := by decide +kernel
theorem dX3_addLoop_8 : decode cX3_addLoop 8 = .ok (.getfield 44, 3) := by decide +kernel
theorem dX3_addLoop_11 : decode cX3_addLoop 11 = .ok (.iload_n 1, 1) := by decide +kernel
theorem dX3_addLoop_12 : decode cX3_addLoop 12 = .ok (.dup2, 1) := by decide +kernel
theorem dX3_addLoop_13 : decode cX3_addLoop 13 = .ok (.iaload, 1) := by decide +kernel
theorem dX3_addLoop_14 : decode cX3_addLoop 14 = .ok (.iconst 1, 1) := by decide +kernel
theorem dX3_addLoop_15 : decode cX3_addLoop 15 = .ok (.iadd, 1) := by decide +kernel
theorem dX3_addLoop_16 : decode cX3_addLoop 16 = .ok (.iastore, 1) := by decide +kernel
theorem dX3_addLoop_17 : decode cX3_addLoop 17 = .ok (.iconst 0, 1) := by decide +kernel
theorem dX3_addLoop_18 : decode cX3_addLoop 18 = .ok (.istore_n 2, 1) := by decide +kernel
theorem dX3_addLoop_19 : decode cX3_addLoop 19 = .ok (.aload_n 0, 1) := by decide +kernel
theorem dX3_addLoop_20 : decode cX3_addLoop 20 = .ok (.getfield 24, 3) := by decide +kernel
theorem dX3_addLoop_23 : decode cX3_addLoop 23 = .ok (.iload_n 1, 1) := by decide +kernel
theorem dX3_addLoop_24 : decode cX3_addLoop 24 = .ok (.iaload, 1) := by decide +kernel
theorem dX3_addLoop_25 : decode cX3_addLoop 25 = .ok (.istore_n 3, 1) := by decide +kernel
theorem dX3_addLoop_26 : decode cX3_addLoop 26 = .ok (.iload_n 3, 1) := by decide +kernel
theorem dX3_addLoop_27 : decode cX3_addLoop 27 = .ok (.aload_n 0, 1) := by decide +kernel
theorem dX3_addLoop_28 : decode cX3_addLoop 28 = .ok (.getfield 24, 3) := by decide +kernel
theorem dX3_addLoop_31 : decode cX3_addLoop 31 = .ok (.iload_n 1, 1) := by decide +kernel
theorem dX3_addLoop_32 : decode cX3_addLoop 32 = .ok (.iconst 1, 1) := by decide +kernel
theorem dX3_addLoop_33 : decode cX3_addLoop 33 = .ok (.iadd, 1) := by decide +kernel
theorem dX3_addLoop_34 : decode cX3_addLoop 34 = .ok (.iaload, 1) := by decide +kernel
theorem dX3_addLoop_35 : decode cX3_addLoop 35 = .ok (.if_icmp .ge 50, 3) := by decide +kernel
theorem dX3_addLoop_38 : decode cX3_addLoop 38 = .ok (.aload_n 0, 1) := by decide +kernel
theorem dX3_addLoop_39 : decode cX3_addLoop 39 = .ok (.getfield 30, 3) := by decide +kernel
theorem dX3_addLoop_42 : decode cX3_addLoop 42 = .ok (.aload_n 0, 1) := by decide +kernel
theorem dX3_addLoop_43 : decode cX3_addLoop 43 = .ok (.getfield 27, 3) := by decide +kernel
theorem dX3_addLoop_46 : decode cX3_addLoop 46 = .ok (.iload_n 3, 1) := by decide +kernel
theorem dX3_addLoop_47 : decode cX3_addLoop 47 = .ok (.iaload, 1) := by decide +kernel
theorem dX3_addLoop_48 : decode cX3_addLoop 48 = .ok (.baload, 1) := by decide +kernel
theorem dX3_addLoop_49 : decode cX3_addLoop 49 = .ok (.ifCond .eq 30, 3) := by decide +kernel
theorem dX3_addLoop_52 : decode cX3_addLoop 52 = .ok (.aload_n 0, 1) := by decide +kernel
theorem dX3_addLoop_53 : decode cX3_addLoop 53 = .ok (.iload_n 1, 1) := by decide +kernel
theorem dX3_addLoop_54 : decode cX3_addLoop 54 = .ok (.aload_n 0, 1) := by decide +kernel
theorem dX3_addLoop_55 : decode cX3_addLoop 55 = .ok (.getfield 27, 3) := by decide +kernel
theorem dX3_addLoop_58 : decode cX3_addLoop 58 = .ok (.iload_n 3, 1) := by decide +kernel
theorem dX3_addLoop_59 : decode cX3_addLoop 59 = .ok (.iaload, 1) := by decide +kernel
theorem dX3_addLoop_60 : decode cX3_addLoop 60 = .ok (.invokevirtual 169, 3) := by decide +kernel
theorem dX3_addLoop_63 : decode cX3_addLoop 63 = .ok (.ifCond .eq 16, 3) := by decide +kernel
theorem dX3_addLoop_66 : decode cX3_addLoop 66 = .ok (.aload_n 0, 1) := by decide +kernel
theorem dX3_addLoop_67 : decode cX3_addLoop 67 = .ok (.iload_n 1, 1) := by decide +kernel
theorem dX3_addLoop_68 : decode cX3_addLoop 68 = .ok (.aload_n 0, 1) := by decide +kernel
theorem dX3_addLoop_69 : decode cX3_addLoop 69 = .ok (.getfield 27, 3) := by decide +kernel
theorem dX3_addLoop_72 : decode cX3_addLoop 72 = .ok (.iload_n 3, 1) := by decide +kernel
theorem dX3_addLoop_73 : decode cX3_addLoop 73 = .ok (.iaload, 1) := by decide +kernel
theorem dX3_addLoop_74 : decode cX3_addLoop 74 = .ok (.iload_n 2, 1) := by decide +kernel
theorem dX3_addLoop_75 : decode cX3_addLoop 75 = .ok (.invokevirtual 175, 3) := by decide +kernel
theorem dX3_addLoop_78 : decode cX3_addLoop 78 = .ok (.istore_n 2, 1) := by decide +kernel
theorem dX3_addLoop_79 : decode cX3_addLoop 79 = .ok (.iinc 3 1, 3) := by decide +kernel
theorem dX3_addLoop_82 : decode cX3_addLoop 82 = .ok (.goto (-56), 3) := by decide +kernel
theorem dX3_addLoop_85 : decode cX3_addLoop 85 = .ok (.iconst 0, 1) := by decide +kernel
theorem dX3_addLoop_86 : decode cX3_addLoop 86 = .ok (.istore_n 3, 1) := by decide +kernel
theorem dX3_addLoop_87 : decode cX3_addLoop 87 = .ok (.iload_n 2, 1) := by decide +kernel
theorem dX3_addLoop_88 : decode cX3_addLoop 88 = .ok (.ifCond .le 71, 3) := by decide +kernel
theorem dX3_addLoop_91 : decode cX3_addLoop 91 = .ok (.iload_n 3, 1) := by decide +kernel
theorem dX3_addLoop_92 : decode cX3_addLoop 92 = .ok (.aload_n 0, 1) := by decide +kernel
theorem dX3_addLoop_93 : decode cX3_addLoop 93 = .ok (.getfield 78, 3) := by decide +kernel
theorem dX3_addLoop_96 : decode cX3_addLoop 96 = .ok (.if_icmp .ge 63, 3) := by decide +kernel
theorem dX3_addLoop_99 : decode cX3_addLoop 99 = .ok (.iinc 2 (-1), 3) := by decide +kernel
theorem dX3_addLoop_102 : decode cX3_addLoop 102 = .ok (.aload_n 0, 1) := by decide +kernel
theorem dX3_addLoop_103 : decode cX3_addLoop 103 = .ok (.getfield 50, 3) := by decide +kernel
theorem dX3_addLoop_106 : decode cX3_addLoop 106 = .ok (.iload_n 2, 1) := by decide +kernel
theorem dX3_addLoop_107 : decode cX3_addLoop 107 = .ok (.iaload, 1) := by decide +kernel
theorem dX3_addLoop_108 : decode cX3_addLoop 108 = .ok (.istore 4, 2) := by decide +kernel
theorem dX3_addLoop_110 : decode cX3_addLoop 110 = .ok (.aload_n 0, 1) := by decide +kernel
theorem dX3_addLoop_111 : decode cX3_addLoop 111 = .ok (.getfield 24, 3) := by decide +kernel
theorem dX3_addLoop_114 : decode cX3_addLoop 114 = .ok (.iload 4, 2) := by decide +kernel
theorem dX3_addLoop_116 : decode cX3_addLoop 116 = .ok (.iaload, 1) := by decide +kernel
theorem dX3_addLoop_117 : decode cX3_addLoop 117 = .ok (.istore 5, 2) := by decide +kernel
theorem dX3_addLoop_119 : decode cX3_addLoop 119 = .ok (.iload 5, 2) := by decide +kernel
theorem dX3_addLoop_121 : decode cX3_addLoop 121 = .ok (.aload_n 0, 1) := by decide +kernel
theorem dX3_addLoop_122 : decode cX3_addLoop 122 = .ok (.getfield 24, 3) := by decide +kernel
theorem dX3_addLoop_125 : decode cX3_addLoop 125 = .ok (.iload 4, 2) := by decide +kernel
theorem dX3_addLoop_127 : decode cX3_addLoop 127 = .ok (.iconst 1, 1) := by decide +kernel
theorem dX3_addLoop_128 : decode cX3_addLoop 128 = .ok (.iadd, 1) := by decide +kernel
theorem dX3_addLoop_129 : decode cX3_addLoop 129 = .ok (.iaload, 1) := by decide +kernel
theorem dX3_addLoop_130 : decode cX3_addLoop 130 = .ok (.if_icmp .ge 23, 3) := by decide +kernel
theorem dX3_addLoop_133 : decode cX3_addLoop 133 = .ok (.aload_n 0, 1) := by decide +kernel
theorem dX3_addLoop_134 : decode cX3_addLoop 134 = .ok (.iload_n 1, 1) := by decide +kernel
theorem dX3_addLoop_135 : decode cX3_addLoop 135 = .ok (.aload_n 0, 1) := by decide +kernel
theorem dX3_addLoop_136 : decode cX3_addLoop 136 = .ok (.getfield 27, 3) := by decide +kernel
theorem dX3_addLoop_139 : decode cX3_addLoop 139 = .ok (.iload 5, 2) := by decide +kernel
theorem dX3_addLoop_141 : decode cX3_addLoop 141 = .ok (.iaload, 1) := by decide +kernel
theorem dX3_addLoop_142 : decode cX3_addLoop 142 = .ok (.iload_n 2, 1) := by decide +kernel
theorem dX3_addLoop_143 : decode cX3_addLoop 143 = .ok (.invokevirtual 175, 3) := by decide +kernel
theorem dX3_addLoop_146 : decode cX3_addLoop 146 = .ok (.istore_n 2, 1) := by decide +kernel
theorem dX3_addLoop_147 : decode cX3_addLoop 147 = .ok (.iinc 5 1, 3) := by decide +kernel
theorem dX3_addLoop_150 : decode cX3_addLoop 150 = .ok (.goto (-31), 3) := by decide +kernel
theorem dX3_addLoop_153 : decode cX3_addLoop 153 = .ok (.iinc 3 1, 3) := by decide +kernel
theorem dX3_addLoop_156 : decode cX3_addLoop 156 = .ok (.goto (-69), 3) := by decide +kernel
theorem dX3_addLoop_159 : decode cX3_addLoop 159 = .ok (.return_, 1) := by decide +kernel
theorem dX3_addToLoop_0 : decode cX3_addToLoop 0 = .ok (.aload_n 0, 1) := by decide +kernel
theorem dX3_addToLoop_1 : decode cX3_addToLoop 1 = .ok (.getfield 30, 3) := by decide +kernel
theorem dX3_addToLoop_4 : decode cX3_addToLoop 4 = .ok (.iload_n 2, 1) := by decide +kernel
theorem dX3_addToLoop_5 : decode cX3_addToLoop 5 = .ok (.baload, 1) := by decide +kernel
theorem dX3_addToLoop_6 : decode cX3_addToLoop 6 = .ok (.ifCond .eq 22, 3) := by decide +kernel
theorem dX3_addToLoop_9 : decode cX3_addToLoop 9 = .ok (.aload_n 0, 1) := by decide +kernel
theorem dX3_addToLoop_10 : decode cX3_addToLoop 10 = .ok (.getfield 47, 3) := by decide +kernel
theorem dX3_addToLoop_13 : decode cX3_addToLoop 13 = .ok (.iload_n 2, 1) := by decide +kernel
theorem dX3_addToLoop_14 : decode cX3_addToLoop 14 = .ok (.iaload, 1) := by decide +kernel
theorem dX3_addToLoop_15 : decode cX3_addToLoop 15 = .ok (.iload_n 1, 1) := by decide +kernel
theorem dX3_addToLoop_16 : decode cX3_addToLoop 16 = .ok (.if_icmp .eq 12, 3) := by decide +kernel
theorem dX3_addToLoop_19 : decode cX3_addToLoop 19 = .ok (.iload_n 3, 1) := by decide +kernel
theorem dX3_addToLoop_20 : decode cX3_addToLoop 20 = .ok (.aload_n 0, 1) := by decide +kernel
theorem dX3_addToLoop_21 : decode cX3_addToLoop 21 = .ok (.getfield 50, 3) := by decide +kernel
theorem dX3_addToLoop_24 : decode cX3_addToLoop 24 = .ok (.arraylength, 1) := by decide +kernel
theorem dX3_addToLoop_25 : decode cX3_addToLoop 25 = .ok (.if_icmp .lt 5, 3) := by decide +kernel
theorem dX3_addToLoop_28 : decode cX3_addToLoop 28 = .ok (.iload_n 3, 1) := by decide +kernel
theorem dX3_addToLoop_29 : decode cX3_addToLoop 29 = .ok (.ireturn, 1) := by decide +kernel
theorem dX3_addToLoop_30 : decode cX3_addToLoop 30 = .ok (.aload_n 0, 1) := by decide +kernel
theorem dX3_addToLoop_31 : decode cX3_addToLoop 31 = .ok (.getfield 47, 3) := by decide +kernel
theorem dX3_addToLoop_34 : decode cX3_addToLoop 34 = .ok (.iload_n 2, 1) := by decide +kernel
theorem dX3_addToLoop_35 : decode cX3_addToLoop 35 = .ok (.iload_n 1, 1) := by decide +kernel
theorem dX3_addToLoop_36 : decode cX3_addToLoop 36 = .ok (.iastore, 1) := by decide +kernel

theorem dX12_improve_14 : decode cX12_improve 14 = .ok (.ifnull 14, 3) := by decide +kernel
theorem dX12_improve_17 : decode cX12_improve 17 = .ok (.iload_n 2, 1) := by decide +kernel
theorem dX12_improve_18 : decode cX12_improve 18 = .ok (.ifCond .lt 10, 3) := by decide +kernel
theorem dX12_improve_21 : decode cX12_improve 21 = .ok (.iload_n 2, 1) := by decide +kernel
theorem dX12_improve_22 : decode cX12_improve 22 = .ok (.sipush 2047, 3) := by decide +kernel
theorem dX12_improve_25 : decode cX12_improve 25 = .ok (.if_icmp .le 5, 3) := by decide +kernel
theorem dX12_improve_28 : decode cX12_improve 28 = .ok (.iconst (-1), 1) := by decide +kernel
theorem dX12_improve_29 : decode cX12_improve 29 = .ok (.ireturn, 1) := by decide +kernel
theorem dX12_improve_30 : decode cX12_improve 30 = .ok (.aload_n 0, 1) := by decide +kernel
theorem dX12_improve_31 : decode cX12_improve 31 = .ok (.getfield 94, 3) := by decide +kernel
theorem dX12_improve_34 : decode cX12_improve 34 = .ok (.bipush 12, 2) := by decide +kernel
theorem dX12_improve_36 : decode cX12_improve 36 = .ok (.if_icmp .ge 12, 3) := by decide +kernel
theorem dX12_improve_39 : decode cX12_improve 39 = .ok (.aload_n 0, 1) := by decide +kernel
theorem dX12_improve_40 : decode cX12_improve 40 = .ok (.getfield 229, 3) := by decide +kernel
theorem dX12_improve_43 : decode cX12_improve 43 = .ok (.bipush 16, 2) := by decide +kernel
theorem dX12_improve_45 : decode cX12_improve 45 = .ok (.if_icmp .lt 6, 3) := by decide +kernel
theorem dX12_improve_48 : decode cX12_improve 48 = .ok (.bipush (-2), 2) := by decide +kernel
theorem dX12_improve_50 : decode cX12_improve 50 = .ok (.ireturn, 1) := by decide +kernel
theorem dX12_improve_51 : decode cX12_improve 51 = .ok (.aload_n 0, 1) := by decide +kernel
theorem dX12_improve_52 : decode cX12_improve 52 = .ok (.dup, 1) := by decide +kernel
theorem dX12_improve_53 : decode cX12_improve 53 = .ok (.getfield 229, 3) := by decide +kernel
theorem dX12_improve_56 : decode cX12_improve 56 = .ok (.iconst 1, 1) := by decide +kernel
theorem dX12_improve_57 : decode cX12_improve 57 = .ok (.iadd, 1) := by decide +kernel
theorem dX12_improve_58 : decode cX12_improve 58 = .ok (.putfield 229, 3) := by decide +kernel
theorem dX12_improve_61 : decode cX12_improve 61 = .ok (.aload_n 0, 1) := by decide +kernel
theorem dX12_improve_62 : decode cX12_improve 62 = .ok (.getfield 45, 3) := by decide +kernel
theorem dX12_improve_65 : decode cX12_improve 65 = .ok (.aload_n 3, 1) := by decide +kernel
theorem dX12_improve_66 : decode cX12_improve 66 = .ok (.iconst 0, 1) := by decide +kernel
theorem dX12_improve_67 : decode cX12_improve 67 = .ok (.invokevirtual 163, 3) := by decide +kernel
theorem dX12_improve_70 : decode cX12_improve 70 = .ok (.iconst 0, 1) := by decide +kernel
theorem dX12_improve_71 : decode cX12_improve 71 = .ok (.istore 4, 2) := by decide +kernel
theorem dX12_improve_73 : decode cX12_improve 73 = .ok (.iload 4, 2) := by decide +kernel
theorem dX12_improve_75 : decode cX12_improve 75 = .ok (.aload_n 3, 1) := by decide +kernel
theorem dX12_improve_76 : decode cX12_improve 76 = .ok (.getfield 123, 3) := by decide +kernel
theorem dX12_improve_79 : decode cX12_improve 79 = .ok (.if_icmp .ge 37, 3) := by decide +kernel
theorem dX12_improve_82 : decode cX12_improve 82 = .ok (.aload_n 0, 1) := by decide +kernel
theorem dX12_improve_83 : decode cX12_improve 83 = .ok (.getfield 66, 3) := by decide +kernel
theorem dX12_improve_86 : decode cX12_improve 86 = .ok (.aload_n 3, 1) := by decide +kernel
theorem dX12_improve_87 : decode cX12_improve 87 = .ok (.iload 4, 2) := by decide +kernel
theorem dX12_improve_89 : decode cX12_improve 89 = .ok (.invokevirtual 144, 3) := by decide +kernel
theorem dX12_improve_92 : decode cX12_improve 92 = .ok (.iload_n 2, 1) := by decide +kernel
theorem dX12_improve_93 : decode cX12_improve 93 = .ok (.invokevirtual 232, 3) := by decide +kernel
theorem dX12_improve_96 : decode cX12_improve 96 = .ok (.aload_n 0, 1) := by decide +kernel
theorem dX12_improve_97 : decode cX12_improve 97 = .ok (.getfield 45, 3) := by decide +kernel
theorem dX12_improve_100 : decode cX12_improve 100 = .ok (.aload_n 0, 1) := by decide +kernel
theorem dX12_improve_101 : decode cX12_improve 101 = .ok (.getfield 66, 3) := by decide +kernel
theorem dX12_improve_104 : decode cX12_improve 104 = .ok (.getfield 236, 3) := by decide +kernel
theorem dX12_improve_107 : decode cX12_improve 107 = .ok (.invokevirtual 167, 3) := by decide +kernel
theorem dX12_improve_110 : decode cX12_improve 110 = .ok (.iinc 4 1, 3) := by decide +kernel
theorem dX12_improve_113 : decode cX12_improve 113 = .ok (.goto (-40), 3) := by decide +kernel
theorem dX12_improve_116 : decode cX12_improve 116 = .ok (.aload_n 0, 1) := by decide +kernel
theorem dX12_improve_117 : decode cX12_improve 117 = .ok (.getfield 45, 3) := by decide +kernel
theorem dX12_improve_120 : decode cX12_improve 120 = .ok (.invokevirtual 240, 3) := by decide +kernel
theorem dX12_improve_123 : decode cX12_improve 123 = .ok (.ifCond .ne 6, 3) := by decide +kernel
theorem dX12_improve_126 : decode cX12_improve 126 = .ok (.bipush (-3), 2) := by decide +kernel
theorem dX12_improve_128 : decode cX12_improve 128 = .ok (.ireturn, 1) := by decide +kernel
theorem dX12_improve_129 : decode cX12_improve 129 = .ok (.aload_n 0, 1) := by decide +kernel
theorem dX12_improve_130 : decode cX12_improve 130 = .ok (.getfield 45, 3) := by decide +kernel
theorem dX12_improve_133 : decode cX12_improve 133 = .ok (.aload_n 0, 1) := by decide +kernel
theorem dX12_improve_134 : decode cX12_improve 134 = .ok (.getfield 19, 3) := by decide +kernel
theorem dX12_improve_137 : decode cX12_improve 137 = .ok (.invokevirtual 171, 3) := by decide +kernel
theorem dX12_improve_140 : decode cX12_improve 140 = .ok (.aload_n 0, 1) := by decide +kernel
theorem dX12_improve_141 : decode cX12_improve 141 = .ok (.aload_n 0, 1) := by decide +kernel
theorem dX12_improve_142 : decode cX12_improve 142 = .ok (.getfield 31, 3) := by decide +kernel
theorem dX12_improve_145 : decode cX12_improve 145 = .ok (.aload_n 0, 1) := by decide +kernel
theorem dX12_improve_146 : decode cX12_improve 146 = .ok (.getfield 19, 3) := by decide +kernel
theorem dX12_improve_149 : decode cX12_improve 149 = .ok (.invokevirtual 97, 3) := by decide +kernel
theorem dX12_improve_152 : decode cX12_improve 152 = .ok (.bipush (-3), 2) := by decide +kernel
theorem dX12_improve_154 : decode cX12_improve 154 = .ok (.invokevirtual 112, 3) := by decide +kernel
theorem dX12_improve_157 : decode cX12_improve 157 = .ok (.ireturn, 1) := by decide +kernel
theorem dX12_init_0 : decode cX12_init 0 = .ok (.aload_n 0, 1) := by decide +kernel
theorem dX12_init_1 : decode cX12_init 1 = .ok (.invokespecial 1, 3) := by decide +kernel
theorem dX12_init_4 : decode cX12_init 4 = .ok (.aload_n 0, 1) := by decide +kernel
theorem dX12_init_5 : decode cX12_init 5 = .ok (.new 7, 3) := by decide +kernel
theorem dX12_init_8 : decode cX12_init 8 = .ok (.dup, 1) := by decide +kernel
theorem dX12_init_9 : decode cX12_init 9 = .ok (.invokespecial 9, 3) := by decide +kernel
theorem dX12_init_12 : decode cX12_init 12 = .ok (.putfield 10, 3) := by decide +kernel
theorem dX12_init_15 : decode cX12_init 15 = .ok (.aload_n 0, 1) := by decide +kernel
theorem dX12_init_16 : decode cX12_init 16 = .ok (.new 7, 3) := by decide +kernel
theorem dX12_init_19 : decode cX12_init 19 = .ok (.dup, 1) := by decide +kernel
theorem dX12_init_20 : decode cX12_init 20 = .ok (.invokespecial 9, 3) := by decide +kernel
theorem dX12_init_23 : decode cX12_init 23 = .ok (.putfield 16, 3) := by decide +kernel
theorem dX12_init_26 : decode cX12_init 26 = .ok (.aload_n 0, 1) := by decide +kernel
theorem dX12_init_27 : decode cX12_init 27 = .ok (.new 7, 3) := by decide +kernel
theorem dX12_init_30 : decode cX12_init 30 = .ok (.dup, 1) := by decide +kernel
theorem dX12_init_31 : decode cX12_init 31 = .ok (.invokespecial 9, 3) := by decide +kernel
theorem dX12_init_34 : decode cX12_init 34 = .ok (.putfield 19, 3) := by decide +kernel
theorem dX12_init_37 : decode cX12_init 37 = .ok (.aload_n 0, 1) := by decide +kernel
theorem dX12_init_38 : decode cX12_init 38 = .ok (.bipush 12, 2) := by decide +kernel
theorem dX12_init_40 : decode cX12_init 40 = .ok (.anewarray 22, 3) := by decide +kernel
theorem dX12_init_43 : decode cX12_init 43 = .ok (.putfield 24, 3) := by decide +kernel
theorem dX12_init_46 : decode cX12_init 46 = .ok (.aload_n 0, 1) := by decide +kernel
theorem dX12_init_47 : decode cX12_init 47 = .ok (.new 28, 3) := by decide +kernel
theorem dX12_init_50 : decode cX12_init 50 = .ok (.dup, 1) := by decide +kernel
theorem dX12_init_51 : decode cX12_init 51 = .ok (.invokespecial 30, 3) := by decide +kernel
theorem dX12_init_54 : decode cX12_init 54 = .ok (.putfield 31, 3) := by decide +kernel
theorem dX12_init_57 : decode cX12_init 57 = .ok (.aload_n 0, 1) := by decide +kernel
theorem dX12_init_58 : decode cX12_init 58 = .ok (.new 35, 3) := by decide +kernel
theorem dX12_init_61 : decode cX12_init 61 = .ok (.dup, 1) := by decide +kernel
theorem dX12_init_62 : decode cX12_init 62 = .ok (.invokespecial 37, 3) := by decide +kernel
theorem dX12_init_65 : decode cX12_init 65 = .ok (.putfield 38, 3) := by decide +kernel
theorem dX12_init_68 : decode cX12_init 68 = .ok (.aload_n 0, 1) := by decide +kernel
theorem dX12_init_69 : decode cX12_init 69 = .ok (.new 42, 3) := by decide +kernel
theorem dX12_init_72 : decode cX12_init 72 = .ok (.dup, 1) := by decide +kernel
theorem dX12_init_73 : decode cX12_init 73 = .ok (.invokespecial 44, 3) := by decide +kernel
theorem dX12_init_76 : decode cX12_init 76 = .ok (.putfield 45, 3) := by decide +kernel
theorem dX12_init_79 : decode cX12_init 79 = .ok (.aload_n 0, 1) := by decide +kernel
theorem dX12_init_80 : decode cX12_init 80 = .ok (.new 49, 3) := by decide +kernel
theorem dX12_init_83 : decode cX12_init 83 = .ok (.dup, 1) := by decide +kernel
theorem dX12_init_84 : decode cX12_init 84 = .ok (.invokespecial 51, 3) := by decide +kernel
theorem dX12_init_87 : decode cX12_init 87 = .ok (.putfield 52, 3) := by decide +kernel
theorem dX12_init_90 : decode cX12_init 90 = .ok (.aload_n 0, 1) := by decide +kernel
theorem dX12_init_91 : decode cX12_init 91 = .ok (.new 56, 3) := by decide +kernel
theorem dX12_init_94 : decode cX12_init 94 = .ok (.dup, 1) := by decide +kernel
theorem dX12_init_95 : decode cX12_init 95 = .ok (.invokespecial 58, 3) := by decide +kernel
theorem dX12_init_98 : decode cX12_init 98 = .ok (.putfield 59, 3) := by decide +kernel
theorem dX12_init_101 : decode cX12_init 101 = .ok (.aload_n 0, 1) := by decide +kernel
theorem dX12_init_102 : decode cX12_init 102 = .ok (.new 63, 3) := by decide +kernel
theorem dX12_init_105 : decode cX12_init 105 = .ok (.dup, 1) := by decide +kernel
theorem dX12_init_106 : decode cX12_init 106 = .ok (.invokespecial 65, 3) := by decide +kernel
theorem dX12_init_109 : decode cX12_init 109 = .ok (.putfield 66, 3) := by decide +kernel
theorem dX12_init_112 : decode cX12_init 112 = .ok (.aload_n 0, 1) := by decide +kernel
theorem dX12_init_113 : decode cX12_init 113 = .ok (.iconst (-1), 1) := by decide +kernel
theorem dX12_init_114 : decode cX12_init 114 = .ok (.putfield 70, 3) := by decide +kernel
theorem dX12_init_117 : decode cX12_init 117 = .ok (.aload_n 0, 1) := by decide +kernel
theorem dX12_init_118 : decode cX12_init 118 = .ok (.iconst (-1), 1) := by decide +kernel
theorem dX12_init_119 : decode cX12_init 119 = .ok (.putfield 74, 3) := by decide +kernel
theorem dX12_init_122 : decode cX12_init 122 = .ok (.aload_n 0, 1) := by decide +kernel
theorem dX12_init_123 : decode cX12_init 123 = .ok (.iconst (-1), 1) := by decide +kernel
theorem dX12_init_124 : decode cX12_init 124 = .ok (.putfield 77, 3) := by decide +kernel
theorem dX12_init_127 : decode cX12_init 127 = .ok (.aload_n 0, 1) := by decide +kernel
theorem dX12_init_128 : decode cX12_init 128 = .ok (.iconst (-1), 1) := by decide +kernel
theorem dX12_init_129 : decode cX12_init 129 = .ok (.putfield 80, 3) := by decide +kernel
theorem dX12_init_132 : decode cX12_init 132 = .ok (.return_, 1) := by decide +kernel
theorem dX12_keep_0 : decode cX12_keep 0 = .ok (.aload_n 1, 1) := by decide +kernel
theorem dX12_keep_1 : decode cX12_keep 1 = .ok (.ifnull 12, 3) := by decide +kernel
theorem dX12_keep_4 : decode cX12_keep 4 = .ok (.aload_n 0, 1) := by decide +kernel
theorem dX12_keep_5 : decode cX12_keep 5 = .ok (.getfield 94, 3) := by decide +kernel
theorem dX12_keep_8 : decode cX12_keep 8 = .ok (.bipush 12, 2) := by decide +kernel
theorem dX12_keep_10 : decode cX12_keep 10 = .ok (.if_icmp .lt 5, 3) := by decide +kernel
theorem dX12_keep_13 : decode cX12_keep 13 = .ok (.iload_n 2, 1) := by decide +kernel
theorem dX12_keep_14 : decode cX12_keep 14 = .ok (.ireturn, 1) := by decide +kernel
theorem dX12_keep_15 : decode cX12_keep 15 = .ok (.aload_n 0, 1) := by decide +kernel
theorem dX12_keep_16 : decode cX12_keep 16 = .ok (.getfield 24, 3) := by decide +kernel
theorem dX12_keep_19 : decode cX12_keep 19 = .ok (.aload_n 0, 1) := by decide +kernel
theorem dX12_keep_20 : decode cX12_keep 20 = .ok (.getfield 94, 3) := by decide +kernel
theorem dX12_keep_23 : decode cX12_keep 23 = .ok (.aload_n 1, 1) := by decide +kernel
theorem dX12_keep_24 : decode cX12_keep 24 = .ok (.aastore, 1) := by decide +kernel
theorem dX12_keep_25 : decode cX12_keep 25 = .ok (.aload_n 0, 1) := by decide +kernel
theorem dX12_keep_26 : decode cX12_keep 26 = .ok (.dup, 1) := by decide +kernel

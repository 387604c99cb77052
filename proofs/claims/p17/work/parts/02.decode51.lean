theorem dX4_seek_15 : decode cX4_seek 15 = .ok (.aload_n 0, 1) := by decide +kernel
theorem dX4_seek_16 : decode cX4_seek 16 = .ok (.iconst 0, 1) := by decide +kernel
theorem dX4_seek_17 : decode cX4_seek 17 = .ok (.putfield 34, 3) := by decide +kernel
theorem dX4_seek_20 : decode cX4_seek 20 = .ok (.aload_n 0, 1) := by decide +kernel
theorem dX4_seek_21 : decode cX4_seek 21 = .ok (.aload_n 0, 1) := by decide +kernel
theorem dX4_seek_22 : decode cX4_seek 22 = .ok (.getfield 26, 3) := by decide +kernel
theorem dX4_seek_25 : decode cX4_seek 25 = .ok (.getfield 37, 3) := by decide +kernel
theorem dX4_seek_28 : decode cX4_seek 28 = .ok (.invokevirtual 42, 3) := by decide +kernel
theorem dX4_seek_31 : decode cX4_seek 31 = .ok (.aload_n 0, 1) := by decide +kernel
theorem dX4_seek_32 : decode cX4_seek 32 = .ok (.iconst 0, 1) := by decide +kernel
theorem dX4_seek_33 : decode cX4_seek 33 = .ok (.iconst 0, 1) := by decide +kernel
theorem dX4_seek_34 : decode cX4_seek 34 = .ok (.invokevirtual 46, 3) := by decide +kernel
theorem dX4_seek_37 : decode cX4_seek 37 = .ok (.aload_n 0, 1) := by decide +kernel
theorem dX4_seek_38 : decode cX4_seek 38 = .ok (.iconst 1, 1) := by decide +kernel
theorem dX4_seek_39 : decode cX4_seek 39 = .ok (.putfield 50, 3) := by decide +kernel
theorem dX4_seek_42 : decode cX4_seek 42 = .ok (.iconst 0, 1) := by decide +kernel
theorem dX4_seek_43 : decode cX4_seek 43 = .ok (.istore 4, 2) := by decide +kernel
theorem dX4_seek_45 : decode cX4_seek 45 = .ok (.aload_n 0, 1) := by decide +kernel
theorem dX4_seek_46 : decode cX4_seek 46 = .ok (.getfield 50, 3) := by decide +kernel
theorem dX4_seek_49 : decode cX4_seek 49 = .ok (.ifCond .eq 111, 3) := by decide +kernel
theorem dX4_seek_52 : decode cX4_seek 52 = .ok (.iload 4, 2) := by decide +kernel
theorem dX4_seek_54 : decode cX4_seek 54 = .ok (.ldc 54, 2) := by decide +kernel
theorem dX4_seek_56 : decode cX4_seek 56 = .ok (.if_icmp .ge 104, 3) := by decide +kernel
theorem dX4_seek_59 : decode cX4_seek 59 = .ok (.aload_n 0, 1) := by decide +kernel
theorem dX4_seek_60 : decode cX4_seek 60 = .ok (.iconst 0, 1) := by decide +kernel
theorem dX4_seek_61 : decode cX4_seek 61 = .ok (.putfield 50, 3) := by decide +kernel
theorem dX4_seek_64 : decode cX4_seek 64 = .ok (.iconst 0, 1) := by decide +kernel
theorem dX4_seek_65 : decode cX4_seek 65 = .ok (.istore 5, 2) := by decide +kernel
theorem dX4_seek_67 : decode cX4_seek 67 = .ok (.iload 5, 2) := by decide +kernel
theorem dX4_seek_69 : decode cX4_seek 69 = .ok (.aload_n 0, 1) := by decide +kernel
theorem dX4_seek_70 : decode cX4_seek 70 = .ok (.getfield 26, 3) := by decide +kernel
theorem dX4_seek_73 : decode cX4_seek 73 = .ok (.getfield 37, 3) := by decide +kernel
theorem dX4_seek_76 : decode cX4_seek 76 = .ok (.if_icmp .ge 78, 3) := by decide +kernel
theorem dX4_seek_79 : decode cX4_seek 79 = .ok (.iload 5, 2) := by decide +kernel
theorem dX4_seek_81 : decode cX4_seek 81 = .ok (.aload_n 0, 1) := by decide +kernel
theorem dX4_seek_82 : decode cX4_seek 82 = .ok (.getfield 15, 3) := by decide +kernel
theorem dX4_seek_85 : decode cX4_seek 85 = .ok (.arraylength, 1) := by decide +kernel
theorem dX4_seek_86 : decode cX4_seek 86 = .ok (.if_icmp .ge 68, 3) := by decide +kernel
theorem dX4_seek_89 : decode cX4_seek 89 = .ok (.aload_n 0, 1) := by decide +kernel
theorem dX4_seek_90 : decode cX4_seek 90 = .ok (.getfield 15, 3) := by decide +kernel
theorem dX4_seek_93 : decode cX4_seek 93 = .ok (.iload 5, 2) := by decide +kernel
theorem dX4_seek_95 : decode cX4_seek 95 = .ok (.iaload, 1) := by decide +kernel
theorem dX4_seek_96 : decode cX4_seek 96 = .ok (.istore 6, 2) := by decide +kernel
theorem dX4_seek_98 : decode cX4_seek 98 = .ok (.aload_n 0, 1) := by decide +kernel
theorem dX4_seek_99 : decode cX4_seek 99 = .ok (.getfield 15, 3) := by decide +kernel
theorem dX4_seek_102 : decode cX4_seek 102 = .ok (.iload 5, 2) := by decide +kernel
theorem dX4_seek_104 : decode cX4_seek 104 = .ok (.iconst 0, 1) := by decide +kernel
theorem dX4_seek_105 : decode cX4_seek 105 = .ok (.iastore, 1) := by decide +kernel
theorem dX4_seek_106 : decode cX4_seek 106 = .ok (.iconst 0, 1) := by decide +kernel
theorem dX4_seek_107 : decode cX4_seek 107 = .ok (.istore 7, 2) := by decide +kernel
theorem dX4_seek_109 : decode cX4_seek 109 = .ok (.iload 6, 2) := by decide +kernel
theorem dX4_seek_111 : decode cX4_seek 111 = .ok (.iload 7, 2) := by decide +kernel
theorem dX4_seek_113 : decode cX4_seek 113 = .ok (.iushr, 1) := by decide +kernel
theorem dX4_seek_114 : decode cX4_seek 114 = .ok (.ifCond .le 34, 3) := by decide +kernel
theorem dX4_seek_117 : decode cX4_seek 117 = .ok (.iload 7, 2) := by decide +kernel
theorem dX4_seek_119 : decode cX4_seek 119 = .ok (.bipush 31, 2) := by decide +kernel
theorem dX4_seek_121 : decode cX4_seek 121 = .ok (.if_icmp .ge 27, 3) := by decide +kernel
theorem dX4_seek_124 : decode cX4_seek 124 = .ok (.iload 6, 2) := by decide +kernel
theorem dX4_seek_126 : decode cX4_seek 126 = .ok (.iload 7, 2) := by decide +kernel
theorem dX4_seek_128 : decode cX4_seek 128 = .ok (.ishr, 1) := by decide +kernel
theorem dX4_seek_129 : decode cX4_seek 129 = .ok (.iconst 1, 1) := by decide +kernel
theorem dX4_seek_130 : decode cX4_seek 130 = .ok (.iand, 1) := by decide +kernel
theorem dX4_seek_131 : decode cX4_seek 131 = .ok (.ifCond .eq 11, 3) := by decide +kernel
theorem dX4_seek_134 : decode cX4_seek 134 = .ok (.aload_n 0, 1) := by decide +kernel
theorem dX4_seek_135 : decode cX4_seek 135 = .ok (.iload 5, 2) := by decide +kernel
theorem dX4_seek_137 : decode cX4_seek 137 = .ok (.iload 7, 2) := by decide +kernel
theorem dX4_seek_139 : decode cX4_seek 139 = .ok (.invokevirtual 55, 3) := by decide +kernel
theorem dX4_seek_142 : decode cX4_seek 142 = .ok (.iinc 7 1, 3) := by decide +kernel
theorem dX4_seek_145 : decode cX4_seek 145 = .ok (.goto (-36), 3) := by decide +kernel
theorem dX4_seek_148 : decode cX4_seek 148 = .ok (.iinc 5 1, 3) := by decide +kernel
theorem dX4_seek_151 : decode cX4_seek 151 = .ok (.goto (-84), 3) := by decide +kernel
theorem dX4_seek_154 : decode cX4_seek 154 = .ok (.iinc 4 1, 3) := by decide +kernel
theorem dX4_seek_157 : decode cX4_seek 157 = .ok (.goto (-112), 3) := by decide +kernel
theorem dX4_seek_160 : decode cX4_seek 160 = .ok (.return_, 1) := by decide +kernel
theorem dX4_spread_0 : decode cX4_spread 0 = .ok (.aload_n 0, 1) := by decide +kernel
theorem dX4_spread_1 : decode cX4_spread 1 = .ok (.getfield 22, 3) := by decide +kernel
theorem dX4_spread_4 : decode cX4_spread 4 = .ok (.aload_n 0, 1) := by decide +kernel
theorem dX4_spread_5 : decode cX4_spread 5 = .ok (.getfield 26, 3) := by decide +kernel
theorem dX4_spread_8 : decode cX4_spread 8 = .ok (.iload_n 1, 1) := by decide +kernel
theorem dX4_spread_9 : decode cX4_spread 9 = .ok (.invokevirtual 64, 3) := by decide +kernel
theorem dX4_spread_12 : decode cX4_spread 12 = .ok (.invokestatic 70, 3) := by decide +kernel
theorem dX4_spread_15 : decode cX4_spread 15 = .ok (.istore_n 3, 1) := by decide +kernel
theorem dX4_spread_16 : decode cX4_spread 16 = .ok (.iload_n 2, 1) := by decide +kernel
theorem dX4_spread_17 : decode cX4_spread 17 = .ok (.iload_n 3, 1) := by decide +kernel
theorem dX4_spread_18 : decode cX4_spread 18 = .ok (.isub, 1) := by decide +kernel
theorem dX4_spread_19 : decode cX4_spread 19 = .ok (.aload_n 0, 1) := by decide +kernel
theorem dX4_spread_20 : decode cX4_spread 20 = .ok (.getfield 22, 3) := by decide +kernel
theorem dX4_spread_23 : decode cX4_spread 23 = .ok (.aload_n 0, 1) := by decide +kernel
theorem dX4_spread_24 : decode cX4_spread 24 = .ok (.getfield 26, 3) := by decide +kernel
theorem dX4_spread_27 : decode cX4_spread 27 = .ok (.iload_n 1, 1) := by decide +kernel
theorem dX4_spread_28 : decode cX4_spread 28 = .ok (.invokevirtual 76, 3) := by decide +kernel
theorem dX4_spread_31 : decode cX4_spread 31 = .ok (.iadd, 1) := by decide +kernel
theorem dX4_spread_32 : decode cX4_spread 32 = .ok (.istore 4, 2) := by decide +kernel
theorem dX4_spread_34 : decode cX4_spread 34 = .ok (.aload_n 0, 1) := by decide +kernel
theorem dX4_spread_35 : decode cX4_spread 35 = .ok (.getfield 26, 3) := by decide +kernel
theorem dX4_spread_38 : decode cX4_spread 38 = .ok (.iload_n 1, 1) := by decide +kernel
theorem dX4_spread_39 : decode cX4_spread 39 = .ok (.invokevirtual 79, 3) := by decide +kernel
theorem dX4_spread_42 : decode cX4_spread 42 = .ok (.istore 5, 2) := by decide +kernel
theorem dX4_spread_44 : decode cX4_spread 44 = .ok (.aload_n 0, 1) := by decide +kernel
theorem dX4_spread_45 : decode cX4_spread 45 = .ok (.getfield 26, 3) := by decide +kernel
theorem dX4_spread_48 : decode cX4_spread 48 = .ok (.iload_n 1, 1) := by decide +kernel
theorem dX4_spread_49 : decode cX4_spread 49 = .ok (.invokevirtual 83, 3) := by decide +kernel
theorem dX4_spread_52 : decode cX4_spread 52 = .ok (.invokestatic 86, 3) := by decide +kernel
theorem dX4_spread_55 : decode cX4_spread 55 = .ok (.istore 6, 2) := by decide +kernel
theorem dX4_spread_57 : decode cX4_spread 57 = .ok (.iload_n 2, 1) := by decide +kernel
theorem dX4_spread_58 : decode cX4_spread 58 = .ok (.iload_n 3, 1) := by decide +kernel
theorem dX4_spread_59 : decode cX4_spread 59 = .ok (.if_icmp .lt 43, 3) := by decide +kernel
theorem dX4_spread_62 : decode cX4_spread 62 = .ok (.iload 4, 2) := by decide +kernel
theorem dX4_spread_64 : decode cX4_spread 64 = .ok (.aload_n 0, 1) := by decide +kernel
theorem dX4_spread_65 : decode cX4_spread 65 = .ok (.getfield 30, 3) := by decide +kernel
theorem dX4_spread_68 : decode cX4_spread 68 = .ok (.if_icmp .gt 34, 3) := by decide +kernel
theorem dX4_spread_71 : decode cX4_spread 71 = .ok (.iload 5, 2) := by decide +kernel
theorem dX4_spread_73 : decode cX4_spread 73 = .ok (.ifCond .eq 11, 3) := by decide +kernel
theorem dX4_spread_76 : decode cX4_spread 76 = .ok (.aload_n 0, 1) := by decide +kernel
theorem dX4_spread_77 : decode cX4_spread 77 = .ok (.getfield 30, 3) := by decide +kernel
theorem dX4_spread_80 : decode cX4_spread 80 = .ok (.iconst 1, 1) := by decide +kernel
theorem dX4_spread_81 : decode cX4_spread 81 = .ok (.if_icmp .lt 21, 3) := by decide +kernel
theorem dX4_spread_84 : decode cX4_spread 84 = .ok (.iload 6, 2) := by decide +kernel
theorem dX4_spread_86 : decode cX4_spread 86 = .ok (.ifCond .eq 24, 3) := by decide +kernel
theorem dX4_spread_89 : decode cX4_spread 89 = .ok (.iload_n 1, 1) := by decide +kernel
theorem dX4_spread_90 : decode cX4_spread 90 = .ok (.iconst 1, 1) := by decide +kernel
theorem dX4_spread_91 : decode cX4_spread 91 = .ok (.iadd, 1) := by decide +kernel
theorem dX4_spread_92 : decode cX4_spread 92 = .ok (.aload_n 0, 1) := by decide +kernel
theorem dX4_spread_93 : decode cX4_spread 93 = .ok (.getfield 26, 3) := by decide +kernel
theorem dX4_spread_96 : decode cX4_spread 96 = .ok (.getfield 37, 3) := by decide +kernel
theorem dX4_spread_99 : decode cX4_spread 99 = .ok (.if_icmp .lt 11, 3) := by decide +kernel
theorem dX4_spread_102 : decode cX4_spread 102 = .ok (.aload_n 0, 1) := by decide +kernel
theorem dX4_spread_103 : decode cX4_spread 103 = .ok (.getfield 18, 3) := by decide +kernel
theorem dX4_spread_106 : decode cX4_spread 106 = .ok (.iload_n 1, 1) := by decide +kernel
theorem dX4_spread_107 : decode cX4_spread 107 = .ok (.iconst 1, 1) := by decide +kernel
theorem dX4_spread_108 : decode cX4_spread 108 = .ok (.bastore, 1) := by decide +kernel
theorem dX4_spread_109 : decode cX4_spread 109 = .ok (.return_, 1) := by decide +kernel
theorem dX4_spread_110 : decode cX4_spread 110 = .ok (.aload_n 0, 1) := by decide +kernel
theorem dX4_spread_111 : decode cX4_spread 111 = .ok (.aload_n 0, 1) := by decide +kernel
theorem dX4_spread_112 : decode cX4_spread 112 = .ok (.getfield 34, 3) := by decide +kernel
theorem dX4_spread_115 : decode cX4_spread 115 = .ok (.iload 4, 2) := by decide +kernel
theorem dX4_spread_117 : decode cX4_spread 117 = .ok (.iload 5, 2) := by decide +kernel
theorem dX4_spread_119 : decode cX4_spread 119 = .ok (.ifCond .eq 7, 3) := by decide +kernel
theorem dX4_spread_122 : decode cX4_spread 122 = .ok (.iconst 1, 1) := by decide +kernel
theorem dX4_spread_123 : decode cX4_spread 123 = .ok (.goto 4, 3) := by decide +kernel
theorem dX4_spread_126 : decode cX4_spread 126 = .ok (.iconst 0, 1) := by decide +kernel
theorem dX4_spread_127 : decode cX4_spread 127 = .ok (.invokestatic 89, 3) := by decide +kernel
theorem dX4_spread_130 : decode cX4_spread 130 = .ok (.invokestatic 89, 3) := by decide +kernel
theorem dX4_spread_133 : decode cX4_spread 133 = .ok (.putfield 34, 3) := by decide +kernel
theorem dX4_spread_136 : decode cX4_spread 136 = .ok (.iload 6, 2) := by decide +kernel
theorem dX4_spread_138 : decode cX4_spread 138 = .ok (.ifCond .eq 12, 3) := by decide +kernel
theorem dX4_spread_141 : decode cX4_spread 141 = .ok (.aload_n 0, 1) := by decide +kernel
theorem dX4_spread_142 : decode cX4_spread 142 = .ok (.iload_n 1, 1) := by decide +kernel
theorem dX4_spread_143 : decode cX4_spread 143 = .ok (.iconst 1, 1) := by decide +kernel
theorem dX4_spread_144 : decode cX4_spread 144 = .ok (.iadd, 1) := by decide +kernel

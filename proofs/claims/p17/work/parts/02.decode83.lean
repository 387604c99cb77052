theorem dX9_isFolded_27 : decode cX9_isFolded 27 = .ok (.iload_n 1, 1) := by decide +kernel
theorem dX9_isFolded_28 : decode cX9_isFolded 28 = .ok (.iconst 1, 1) := by decide +kernel
theorem dX9_isFolded_29 : decode cX9_isFolded 29 = .ok (.iadd, 1) := by decide +kernel
theorem dX9_isFolded_30 : decode cX9_isFolded 30 = .ok (.invokevirtual 207, 3) := by decide +kernel
theorem dX9_isFolded_33 : decode cX9_isFolded 33 = .ok (.ifCond .eq 56, 3) := by decide +kernel
theorem dX9_isFolded_36 : decode cX9_isFolded 36 = .ok (.aload_n 0, 1) := by decide +kernel
theorem dX9_isFolded_37 : decode cX9_isFolded 37 = .ok (.iload_n 1, 1) := by decide +kernel
theorem dX9_isFolded_38 : decode cX9_isFolded 38 = .ok (.iconst 3, 1) := by decide +kernel
theorem dX9_isFolded_39 : decode cX9_isFolded 39 = .ok (.invokevirtual 161, 3) := by decide +kernel
theorem dX9_isFolded_42 : decode cX9_isFolded 42 = .ok (.ifCond .eq 47, 3) := by decide +kernel
theorem dX9_isFolded_45 : decode cX9_isFolded 45 = .ok (.iload_n 2, 1) := by decide +kernel
theorem dX9_isFolded_46 : decode cX9_isFolded 46 = .ok (.invokestatic 210, 3) := by decide +kernel
theorem dX9_isFolded_49 : decode cX9_isFolded 49 = .ok (.aload_n 0, 1) := by decide +kernel
theorem dX9_isFolded_50 : decode cX9_isFolded 50 = .ok (.iload_n 1, 1) := by decide +kernel
theorem dX9_isFolded_51 : decode cX9_isFolded 51 = .ok (.invokevirtual 207, 3) := by decide +kernel
theorem dX9_isFolded_54 : decode cX9_isFolded 54 = .ok (.iconst 4, 1) := by decide +kernel
theorem dX9_isFolded_55 : decode cX9_isFolded 55 = .ok (.ishl, 1) := by decide +kernel
theorem dX9_isFolded_56 : decode cX9_isFolded 56 = .ok (.aload_n 0, 1) := by decide +kernel
theorem dX9_isFolded_57 : decode cX9_isFolded 57 = .ok (.iload_n 1, 1) := by decide +kernel
theorem dX9_isFolded_58 : decode cX9_isFolded 58 = .ok (.iconst 1, 1) := by decide +kernel
theorem dX9_isFolded_59 : decode cX9_isFolded 59 = .ok (.iadd, 1) := by decide +kernel
theorem dX9_isFolded_60 : decode cX9_isFolded 60 = .ok (.invokevirtual 207, 3) := by decide +kernel
theorem dX9_isFolded_63 : decode cX9_isFolded 63 = .ok (.ior, 1) := by decide +kernel
theorem dX9_isFolded_64 : decode cX9_isFolded 64 = .ok (.if_icmp .ne 25, 3) := by decide +kernel
theorem dX9_isFolded_67 : decode cX9_isFolded 67 = .ok (.iload_n 2, 1) := by decide +kernel
theorem dX9_isFolded_68 : decode cX9_isFolded 68 = .ok (.invokestatic 213, 3) := by decide +kernel
theorem dX9_isFolded_71 : decode cX9_isFolded 71 = .ok (.ifCond .eq 20, 3) := by decide +kernel
theorem dX9_isFolded_74 : decode cX9_isFolded 74 = .ok (.aload_n 0, 1) := by decide +kernel
theorem dX9_isFolded_75 : decode cX9_isFolded 75 = .ok (.getfield 14, 3) := by decide +kernel
theorem dX9_isFolded_78 : decode cX9_isFolded 78 = .ok (.iload_n 1, 1) := by decide +kernel
theorem dX9_isFolded_79 : decode cX9_isFolded 79 = .ok (.iconst 1, 1) := by decide +kernel
theorem dX9_isFolded_80 : decode cX9_isFolded 80 = .ok (.iadd, 1) := by decide +kernel
theorem dX9_isFolded_81 : decode cX9_isFolded 81 = .ok (.invokevirtual 74, 3) := by decide +kernel
theorem dX9_isFolded_84 : decode cX9_isFolded 84 = .ok (.lconst 0, 1) := by decide +kernel
theorem dX9_isFolded_85 : decode cX9_isFolded 85 = .ok (.lcmp, 1) := by decide +kernel
theorem dX9_isFolded_86 : decode cX9_isFolded 86 = .ok (.ifCond .ne 5, 3) := by decide +kernel
theorem dX9_isFolded_89 : decode cX9_isFolded 89 = .ok (.iconst 0, 1) := by decide +kernel
theorem dX9_isFolded_90 : decode cX9_isFolded 90 = .ok (.ireturn, 1) := by decide +kernel
theorem dX9_isFolded_91 : decode cX9_isFolded 91 = .ok (.aload_n 0, 1) := by decide +kernel
theorem dX9_isFolded_92 : decode cX9_isFolded 92 = .ok (.iload_n 1, 1) := by decide +kernel
theorem dX9_isFolded_93 : decode cX9_isFolded 93 = .ok (.iload_n 2, 1) := by decide +kernel
theorem dX9_isFolded_94 : decode cX9_isFolded 94 = .ok (.invokestatic 216, 3) := by decide +kernel
theorem dX9_isFolded_97 : decode cX9_isFolded 97 = .ok (.iload_n 2, 1) := by decide +kernel
theorem dX9_isFolded_98 : decode cX9_isFolded 98 = .ok (.aload_n 0, 1) := by decide +kernel
theorem dX9_isFolded_99 : decode cX9_isFolded 99 = .ok (.getfield 14, 3) := by decide +kernel
theorem dX9_isFolded_102 : decode cX9_isFolded 102 = .ok (.iload_n 1, 1) := by decide +kernel
theorem dX9_isFolded_103 : decode cX9_isFolded 103 = .ok (.invokevirtual 74, 3) := by decide +kernel
theorem dX9_isFolded_106 : decode cX9_isFolded 106 = .ok (.aload_n 0, 1) := by decide +kernel
theorem dX9_isFolded_107 : decode cX9_isFolded 107 = .ok (.getfield 14, 3) := by decide +kernel
theorem dX9_isFolded_110 : decode cX9_isFolded 110 = .ok (.iload_n 1, 1) := by decide +kernel
theorem dX9_isFolded_111 : decode cX9_isFolded 111 = .ok (.iconst 1, 1) := by decide +kernel
theorem dX9_isFolded_112 : decode cX9_isFolded 112 = .ok (.iadd, 1) := by decide +kernel
theorem dX9_isFolded_113 : decode cX9_isFolded 113 = .ok (.invokevirtual 74, 3) := by decide +kernel
theorem dX9_isFolded_116 : decode cX9_isFolded 116 = .ok (.invokestatic 219, 3) := by decide +kernel
theorem dX9_isFolded_119 : decode cX9_isFolded 119 = .ok (.invokevirtual 223, 3) := by decide +kernel
theorem dX9_isFolded_122 : decode cX9_isFolded 122 = .ok (.aload_n 0, 1) := by decide +kernel
theorem dX9_isFolded_123 : decode cX9_isFolded 123 = .ok (.getfield 14, 3) := by decide +kernel
theorem dX9_isFolded_126 : decode cX9_isFolded 126 = .ok (.iload_n 1, 1) := by decide +kernel
theorem dX9_isFolded_127 : decode cX9_isFolded 127 = .ok (.iconst 1, 1) := by decide +kernel
theorem dX9_isFolded_128 : decode cX9_isFolded 128 = .ok (.iadd, 1) := by decide +kernel
theorem dX9_isFolded_129 : decode cX9_isFolded 129 = .ok (.iconst 2, 1) := by decide +kernel
theorem dX9_isFolded_130 : decode cX9_isFolded 130 = .ok (.invokevirtual 176, 3) := by decide +kernel
theorem dX9_isFolded_133 : decode cX9_isFolded 133 = .ok (.iconst 1, 1) := by decide +kernel
theorem dX9_isFolded_134 : decode cX9_isFolded 134 = .ok (.ireturn, 1) := by decide +kernel
theorem dX9_isJumpDecided_0 : decode cX9_isJumpDecided 0 = .ok (.aload_n 0, 1) := by decide +kernel
theorem dX9_isJumpDecided_1 : decode cX9_isJumpDecided 1 = .ok (.iload_n 1, 1) := by decide +kernel
theorem dX9_isJumpDecided_2 : decode cX9_isJumpDecided 2 = .ok (.invokevirtual 207, 3) := by decide +kernel
theorem dX9_isJumpDecided_5 : decode cX9_isJumpDecided 5 = .ok (.iconst 1, 1) := by decide +kernel
theorem dX9_isJumpDecided_6 : decode cX9_isJumpDecided 6 = .ok (.if_icmp .eq 5, 3) := by decide +kernel
theorem dX9_isJumpDecided_9 : decode cX9_isJumpDecided 9 = .ok (.iconst 0, 1) := by decide +kernel
theorem dX9_isJumpDecided_10 : decode cX9_isJumpDecided 10 = .ok (.ireturn, 1) := by decide +kernel
theorem dX9_isJumpDecided_11 : decode cX9_isJumpDecided 11 = .ok (.aload_n 0, 1) := by decide +kernel
theorem dX9_isJumpDecided_12 : decode cX9_isJumpDecided 12 = .ok (.iload_n 1, 1) := by decide +kernel
theorem dX9_isJumpDecided_13 : decode cX9_isJumpDecided 13 = .ok (.iconst 1, 1) := by decide +kernel
theorem dX9_isJumpDecided_14 : decode cX9_isJumpDecided 14 = .ok (.iadd, 1) := by decide +kernel
theorem dX9_isJumpDecided_15 : decode cX9_isJumpDecided 15 = .ok (.invokevirtual 207, 3) := by decide +kernel
theorem dX9_isJumpDecided_18 : decode cX9_isJumpDecided 18 = .ok (.iconst 1, 1) := by decide +kernel
theorem dX9_isJumpDecided_19 : decode cX9_isJumpDecided 19 = .ok (.if_icmp .ne 7, 3) := by decide +kernel
theorem dX9_isJumpDecided_22 : decode cX9_isJumpDecided 22 = .ok (.iconst 3, 1) := by decide +kernel
theorem dX9_isJumpDecided_23 : decode cX9_isJumpDecided 23 = .ok (.goto 4, 3) := by decide +kernel
theorem dX9_isJumpDecided_26 : decode cX9_isJumpDecided 26 = .ok (.iconst 2, 1) := by decide +kernel
theorem dX9_isJumpDecided_27 : decode cX9_isJumpDecided 27 = .ok (.istore_n 2, 1) := by decide +kernel
theorem dX9_isJumpDecided_28 : decode cX9_isJumpDecided 28 = .ok (.aload_n 0, 1) := by decide +kernel
theorem dX9_isJumpDecided_29 : decode cX9_isJumpDecided 29 = .ok (.getfield 14, 3) := by decide +kernel
theorem dX9_isJumpDecided_32 : decode cX9_isJumpDecided 32 = .ok (.iload_n 1, 1) := by decide +kernel
theorem dX9_isJumpDecided_33 : decode cX9_isJumpDecided 33 = .ok (.iload_n 2, 1) := by decide +kernel
theorem dX9_isJumpDecided_34 : decode cX9_isJumpDecided 34 = .ok (.iadd, 1) := by decide +kernel
theorem dX9_isJumpDecided_35 : decode cX9_isJumpDecided 35 = .ok (.iconst 1, 1) := by decide +kernel
theorem dX9_isJumpDecided_36 : decode cX9_isJumpDecided 36 = .ok (.isub, 1) := by decide +kernel
theorem dX9_isJumpDecided_37 : decode cX9_isJumpDecided 37 = .ok (.invokevirtual 71, 3) := by decide +kernel
theorem dX9_isJumpDecided_40 : decode cX9_isJumpDecided 40 = .ok (.istore_n 3, 1) := by decide +kernel
theorem dX9_isJumpDecided_41 : decode cX9_isJumpDecided 41 = .ok (.iload_n 2, 1) := by decide +kernel
theorem dX9_isJumpDecided_42 : decode cX9_isJumpDecided 42 = .ok (.iconst 3, 1) := by decide +kernel
theorem dX9_isJumpDecided_43 : decode cX9_isJumpDecided 43 = .ok (.if_icmp .ne 9, 3) := by decide +kernel
theorem dX9_isJumpDecided_46 : decode cX9_isJumpDecided 46 = .ok (.sipush 159, 3) := by decide +kernel
theorem dX9_isJumpDecided_49 : decode cX9_isJumpDecided 49 = .ok (.goto 6, 3) := by decide +kernel
theorem dX9_isJumpDecided_52 : decode cX9_isJumpDecided 52 = .ok (.sipush 153, 3) := by decide +kernel
theorem dX9_isJumpDecided_55 : decode cX9_isJumpDecided 55 = .ok (.istore 4, 2) := by decide +kernel
theorem dX9_isJumpDecided_57 : decode cX9_isJumpDecided 57 = .ok (.iload_n 3, 1) := by decide +kernel
theorem dX9_isJumpDecided_58 : decode cX9_isJumpDecided 58 = .ok (.iload 4, 2) := by decide +kernel
theorem dX9_isJumpDecided_60 : decode cX9_isJumpDecided 60 = .ok (.if_icmp .lt 21, 3) := by decide +kernel
theorem dX9_isJumpDecided_63 : decode cX9_isJumpDecided 63 = .ok (.iload_n 3, 1) := by decide +kernel
theorem dX9_isJumpDecided_64 : decode cX9_isJumpDecided 64 = .ok (.iload 4, 2) := by decide +kernel
theorem dX9_isJumpDecided_66 : decode cX9_isJumpDecided 66 = .ok (.bipush 6, 2) := by decide +kernel
theorem dX9_isJumpDecided_68 : decode cX9_isJumpDecided 68 = .ok (.iadd, 1) := by decide +kernel
theorem dX9_isJumpDecided_69 : decode cX9_isJumpDecided 69 = .ok (.if_icmp .ge 12, 3) := by decide +kernel
theorem dX9_isJumpDecided_72 : decode cX9_isJumpDecided 72 = .ok (.aload_n 0, 1) := by decide +kernel
theorem dX9_isJumpDecided_73 : decode cX9_isJumpDecided 73 = .ok (.iload_n 1, 1) := by decide +kernel
theorem dX9_isJumpDecided_74 : decode cX9_isJumpDecided 74 = .ok (.iload_n 2, 1) := by decide +kernel
theorem dX9_isJumpDecided_75 : decode cX9_isJumpDecided 75 = .ok (.invokevirtual 161, 3) := by decide +kernel
theorem dX9_isJumpDecided_78 : decode cX9_isJumpDecided 78 = .ok (.ifCond .ne 5, 3) := by decide +kernel
theorem dX9_isJumpDecided_81 : decode cX9_isJumpDecided 81 = .ok (.iconst 0, 1) := by decide +kernel
theorem dX9_isJumpDecided_82 : decode cX9_isJumpDecided 82 = .ok (.ireturn, 1) := by decide +kernel
theorem dX9_isJumpDecided_83 : decode cX9_isJumpDecided 83 = .ok (.iload_n 3, 1) := by decide +kernel
theorem dX9_isJumpDecided_84 : decode cX9_isJumpDecided 84 = .ok (.aload_n 0, 1) := by decide +kernel
theorem dX9_isJumpDecided_85 : decode cX9_isJumpDecided 85 = .ok (.getfield 14, 3) := by decide +kernel
theorem dX9_isJumpDecided_88 : decode cX9_isJumpDecided 88 = .ok (.iload_n 1, 1) := by decide +kernel
theorem dX9_isJumpDecided_89 : decode cX9_isJumpDecided 89 = .ok (.invokevirtual 74, 3) := by decide +kernel
theorem dX9_isJumpDecided_92 : decode cX9_isJumpDecided 92 = .ok (.l2i, 1) := by decide +kernel
theorem dX9_isJumpDecided_93 : decode cX9_isJumpDecided 93 = .ok (.iload_n 2, 1) := by decide +kernel
theorem dX9_isJumpDecided_94 : decode cX9_isJumpDecided 94 = .ok (.iconst 3, 1) := by decide +kernel
theorem dX9_isJumpDecided_95 : decode cX9_isJumpDecided 95 = .ok (.if_icmp .ne 17, 3) := by decide +kernel
theorem dX9_isJumpDecided_98 : decode cX9_isJumpDecided 98 = .ok (.aload_n 0, 1) := by decide +kernel
theorem dX9_isJumpDecided_99 : decode cX9_isJumpDecided 99 = .ok (.getfield 14, 3) := by decide +kernel
theorem dX9_isJumpDecided_102 : decode cX9_isJumpDecided 102 = .ok (.iload_n 1, 1) := by decide +kernel
theorem dX9_isJumpDecided_103 : decode cX9_isJumpDecided 103 = .ok (.iconst 1, 1) := by decide +kernel
theorem dX9_isJumpDecided_104 : decode cX9_isJumpDecided 104 = .ok (.iadd, 1) := by decide +kernel
theorem dX9_isJumpDecided_105 : decode cX9_isJumpDecided 105 = .ok (.invokevirtual 74, 3) := by decide +kernel
theorem dX9_isJumpDecided_108 : decode cX9_isJumpDecided 108 = .ok (.l2i, 1) := by decide +kernel
theorem dX9_isJumpDecided_109 : decode cX9_isJumpDecided 109 = .ok (.goto 4, 3) := by decide +kernel
theorem dX9_isJumpDecided_112 : decode cX9_isJumpDecided 112 = .ok (.iconst 0, 1) := by decide +kernel
theorem dX9_isJumpDecided_113 : decode cX9_isJumpDecided 113 = .ok (.invokestatic 233, 3) := by decide +kernel
theorem dX9_isJumpDecided_116 : decode cX9_isJumpDecided 116 = .ok (.ifCond .eq 42, 3) := by decide +kernel
theorem dX9_isJumpDecided_119 : decode cX9_isJumpDecided 119 = .ok (.aload_n 0, 1) := by decide +kernel
theorem dX9_isJumpDecided_120 : decode cX9_isJumpDecided 120 = .ok (.getfield 14, 3) := by decide +kernel
theorem dX9_isJumpDecided_123 : decode cX9_isJumpDecided 123 = .ok (.iload_n 1, 1) := by decide +kernel
theorem dX9_isJumpDecided_124 : decode cX9_isJumpDecided 124 = .ok (.sipush 167, 3) := by decide +kernel
theorem dX9_isJumpDecided_127 : decode cX9_isJumpDecided 127 = .ok (.aload_n 0, 1) := by decide +kernel
theorem dX9_isJumpDecided_128 : decode cX9_isJumpDecided 128 = .ok (.getfield 14, 3) := by decide +kernel
theorem dX9_isJumpDecided_131 : decode cX9_isJumpDecided 131 = .ok (.iload_n 1, 1) := by decide +kernel
theorem dX9_isJumpDecided_132 : decode cX9_isJumpDecided 132 = .ok (.iload_n 2, 1) := by decide +kernel
theorem dX9_isJumpDecided_133 : decode cX9_isJumpDecided 133 = .ok (.iadd, 1) := by decide +kernel
theorem dX9_isJumpDecided_134 : decode cX9_isJumpDecided 134 = .ok (.iconst 1, 1) := by decide +kernel
theorem dX9_isJumpDecided_135 : decode cX9_isJumpDecided 135 = .ok (.isub, 1) := by decide +kernel
theorem dX9_isJumpDecided_136 : decode cX9_isJumpDecided 136 = .ok (.invokevirtual 74, 3) := by decide +kernel
theorem dX9_isJumpDecided_139 : decode cX9_isJumpDecided 139 = .ok (.invokevirtual 200, 3) := by decide +kernel
theorem dX9_isJumpDecided_142 : decode cX9_isJumpDecided 142 = .ok (.aload_n 0, 1) := by decide +kernel
theorem dX9_isJumpDecided_143 : decode cX9_isJumpDecided 143 = .ok (.getfield 14, 3) := by decide +kernel
theorem dX9_isJumpDecided_146 : decode cX9_isJumpDecided 146 = .ok (.iload_n 1, 1) := by decide +kernel
theorem dX9_isJumpDecided_147 : decode cX9_isJumpDecided 147 = .ok (.iconst 1, 1) := by decide +kernel

theorem dX11_putLocal_92 : decode cX11_putLocal 92 = .ok (.iload_n 2, 1) := by decide +kernel
theorem dX11_putLocal_93 : decode cX11_putLocal 93 = .ok (.iadd, 1) := by decide +kernel
theorem dX11_putLocal_94 : decode cX11_putLocal 94 = .ok (.invokevirtual 129, 3) := by decide +kernel
theorem dX11_putLocal_97 : decode cX11_putLocal 97 = .ok (.goto 56, 3) := by decide +kernel
theorem dX11_putLocal_100 : decode cX11_putLocal 100 = .ok (.aload_n 0, 1) := by decide +kernel
theorem dX11_putLocal_101 : decode cX11_putLocal 101 = .ok (.getfield 18, 3) := by decide +kernel
theorem dX11_putLocal_104 : decode cX11_putLocal 104 = .ok (.bipush 42, 2) := by decide +kernel
theorem dX11_putLocal_106 : decode cX11_putLocal 106 = .ok (.iload_n 2, 1) := by decide +kernel
theorem dX11_putLocal_107 : decode cX11_putLocal 107 = .ok (.iadd, 1) := by decide +kernel
theorem dX11_putLocal_108 : decode cX11_putLocal 108 = .ok (.invokevirtual 129, 3) := by decide +kernel
theorem dX11_putLocal_111 : decode cX11_putLocal 111 = .ok (.goto 42, 3) := by decide +kernel
theorem dX11_putLocal_114 : decode cX11_putLocal 114 = .ok (.aload_n 0, 1) := by decide +kernel
theorem dX11_putLocal_115 : decode cX11_putLocal 115 = .ok (.getfield 18, 3) := by decide +kernel
theorem dX11_putLocal_118 : decode cX11_putLocal 118 = .ok (.bipush 59, 2) := by decide +kernel
theorem dX11_putLocal_120 : decode cX11_putLocal 120 = .ok (.iload_n 2, 1) := by decide +kernel
theorem dX11_putLocal_121 : decode cX11_putLocal 121 = .ok (.iadd, 1) := by decide +kernel
theorem dX11_putLocal_122 : decode cX11_putLocal 122 = .ok (.invokevirtual 129, 3) := by decide +kernel
theorem dX11_putLocal_125 : decode cX11_putLocal 125 = .ok (.goto 28, 3) := by decide +kernel
theorem dX11_putLocal_128 : decode cX11_putLocal 128 = .ok (.aload_n 0, 1) := by decide +kernel
theorem dX11_putLocal_129 : decode cX11_putLocal 129 = .ok (.getfield 18, 3) := by decide +kernel
theorem dX11_putLocal_132 : decode cX11_putLocal 132 = .ok (.bipush 63, 2) := by decide +kernel
theorem dX11_putLocal_134 : decode cX11_putLocal 134 = .ok (.iload_n 2, 1) := by decide +kernel
theorem dX11_putLocal_135 : decode cX11_putLocal 135 = .ok (.iadd, 1) := by decide +kernel
theorem dX11_putLocal_136 : decode cX11_putLocal 136 = .ok (.invokevirtual 129, 3) := by decide +kernel
theorem dX11_putLocal_139 : decode cX11_putLocal 139 = .ok (.goto 14, 3) := by decide +kernel
theorem dX11_putLocal_142 : decode cX11_putLocal 142 = .ok (.aload_n 0, 1) := by decide +kernel
theorem dX11_putLocal_143 : decode cX11_putLocal 143 = .ok (.getfield 18, 3) := by decide +kernel
theorem dX11_putLocal_146 : decode cX11_putLocal 146 = .ok (.bipush 75, 2) := by decide +kernel
theorem dX11_putLocal_148 : decode cX11_putLocal 148 = .ok (.iload_n 2, 1) := by decide +kernel
theorem dX11_putLocal_149 : decode cX11_putLocal 149 = .ok (.iadd, 1) := by decide +kernel
theorem dX11_putLocal_150 : decode cX11_putLocal 150 = .ok (.invokevirtual 129, 3) := by decide +kernel
theorem dX11_putLocal_153 : decode cX11_putLocal 153 = .ok (.return_, 1) := by decide +kernel
theorem dX11_putLong_0 : decode cX11_putLong 0 = .ok (.lload_n 1, 1) := by decide +kernel
theorem dX11_putLong_1 : decode cX11_putLong 1 = .ok (.lconst 0, 1) := by decide +kernel
theorem dX11_putLong_2 : decode cX11_putLong 2 = .ok (.lcmp, 1) := by decide +kernel
theorem dX11_putLong_3 : decode cX11_putLong 3 = .ok (.ifCond .eq 9, 3) := by decide +kernel
theorem dX11_putLong_6 : decode cX11_putLong 6 = .ok (.lload_n 1, 1) := by decide +kernel
theorem dX11_putLong_7 : decode cX11_putLong 7 = .ok (.lconst 1, 1) := by decide +kernel
theorem dX11_putLong_8 : decode cX11_putLong 8 = .ok (.lcmp, 1) := by decide +kernel
theorem dX11_putLong_9 : decode cX11_putLong 9 = .ok (.ifCond .ne 18, 3) := by decide +kernel
theorem dX11_putLong_12 : decode cX11_putLong 12 = .ok (.aload_n 0, 1) := by decide +kernel
theorem dX11_putLong_13 : decode cX11_putLong 13 = .ok (.getfield 18, 3) := by decide +kernel
theorem dX11_putLong_16 : decode cX11_putLong 16 = .ok (.bipush 9, 2) := by decide +kernel
theorem dX11_putLong_18 : decode cX11_putLong 18 = .ok (.lload_n 1, 1) := by decide +kernel
theorem dX11_putLong_19 : decode cX11_putLong 19 = .ok (.l2i, 1) := by decide +kernel
theorem dX11_putLong_20 : decode cX11_putLong 20 = .ok (.iadd, 1) := by decide +kernel
theorem dX11_putLong_21 : decode cX11_putLong 21 = .ok (.invokevirtual 129, 3) := by decide +kernel
theorem dX11_putLong_24 : decode cX11_putLong 24 = .ok (.goto 20, 3) := by decide +kernel
theorem dX11_putLong_27 : decode cX11_putLong 27 = .ok (.aload_n 0, 1) := by decide +kernel
theorem dX11_putLong_28 : decode cX11_putLong 28 = .ok (.getfield 18, 3) := by decide +kernel
theorem dX11_putLong_31 : decode cX11_putLong 31 = .ok (.bipush 20, 2) := by decide +kernel
theorem dX11_putLong_33 : decode cX11_putLong 33 = .ok (.invokevirtual 129, 3) := by decide +kernel
theorem dX11_putLong_36 : decode cX11_putLong 36 = .ok (.aload_n 0, 1) := by decide +kernel
theorem dX11_putLong_37 : decode cX11_putLong 37 = .ok (.getfield 18, 3) := by decide +kernel
theorem dX11_putLong_40 : decode cX11_putLong 40 = .ok (.iload_n 3, 1) := by decide +kernel
theorem dX11_putLong_41 : decode cX11_putLong 41 = .ok (.invokevirtual 105, 3) := by decide +kernel
theorem dX11_putLong_44 : decode cX11_putLong 44 = .ok (.return_, 1) := by decide +kernel
theorem dX11_putMember_0 : decode cX11_putMember 0 = .ok (.aload_n 0, 1) := by decide +kernel
theorem dX11_putMember_1 : decode cX11_putMember 1 = .ok (.getfield 18, 3) := by decide +kernel
theorem dX11_putMember_4 : decode cX11_putMember 4 = .ok (.bipush 9, 2) := by decide +kernel
theorem dX11_putMember_6 : decode cX11_putMember 6 = .ok (.invokevirtual 105, 3) := by decide +kernel
theorem dX11_putMember_9 : decode cX11_putMember 9 = .ok (.aload_n 0, 1) := by decide +kernel
theorem dX11_putMember_10 : decode cX11_putMember 10 = .ok (.getfield 18, 3) := by decide +kernel
theorem dX11_putMember_13 : decode cX11_putMember 13 = .ok (.iload_n 1, 1) := by decide +kernel
theorem dX11_putMember_14 : decode cX11_putMember 14 = .ok (.invokevirtual 105, 3) := by decide +kernel
theorem dX11_putMember_17 : decode cX11_putMember 17 = .ok (.aload_n 0, 1) := by decide +kernel
theorem dX11_putMember_18 : decode cX11_putMember 18 = .ok (.getfield 18, 3) := by decide +kernel
theorem dX11_putMember_21 : decode cX11_putMember 21 = .ok (.iload_n 2, 1) := by decide +kernel
theorem dX11_putMember_22 : decode cX11_putMember 22 = .ok (.invokevirtual 105, 3) := by decide +kernel
theorem dX11_putMember_25 : decode cX11_putMember 25 = .ok (.aload_n 0, 1) := by decide +kernel
theorem dX11_putMember_26 : decode cX11_putMember 26 = .ok (.getfield 18, 3) := by decide +kernel
theorem dX11_putMember_29 : decode cX11_putMember 29 = .ok (.iload_n 3, 1) := by decide +kernel
theorem dX11_putMember_30 : decode cX11_putMember 30 = .ok (.invokevirtual 105, 3) := by decide +kernel
theorem dX11_putMember_33 : decode cX11_putMember 33 = .ok (.return_, 1) := by decide +kernel
theorem dX11_putSwitch_0 : decode cX11_putSwitch 0 = .ok (.aload_n 0, 1) := by decide +kernel
theorem dX11_putSwitch_1 : decode cX11_putSwitch 1 = .ok (.getfield 180, 3) := by decide +kernel
theorem dX11_putSwitch_4 : decode cX11_putSwitch 4 = .ok (.iload_n 1, 1) := by decide +kernel
theorem dX11_putSwitch_5 : decode cX11_putSwitch 5 = .ok (.invokevirtual 263, 3) := by decide +kernel
theorem dX11_putSwitch_8 : decode cX11_putSwitch 8 = .ok (.l2i, 1) := by decide +kernel
theorem dX11_putSwitch_9 : decode cX11_putSwitch 9 = .ok (.istore_n 3, 1) := by decide +kernel
theorem dX11_putSwitch_10 : decode cX11_putSwitch 10 = .ok (.aload_n 0, 1) := by decide +kernel
theorem dX11_putSwitch_11 : decode cX11_putSwitch 11 = .ok (.getfield 180, 3) := by decide +kernel
theorem dX11_putSwitch_14 : decode cX11_putSwitch 14 = .ok (.iload_n 1, 1) := by decide +kernel
theorem dX11_putSwitch_15 : decode cX11_putSwitch 15 = .ok (.invokevirtual 302, 3) := by decide +kernel
theorem dX11_putSwitch_18 : decode cX11_putSwitch 18 = .ok (.iconst 1, 1) := by decide +kernel
theorem dX11_putSwitch_19 : decode cX11_putSwitch 19 = .ok (.isub, 1) := by decide +kernel
theorem dX11_putSwitch_20 : decode cX11_putSwitch 20 = .ok (.istore 4, 2) := by decide +kernel
theorem dX11_putSwitch_22 : decode cX11_putSwitch 22 = .ok (.aload_n 0, 1) := by decide +kernel
theorem dX11_putSwitch_23 : decode cX11_putSwitch 23 = .ok (.getfield 180, 3) := by decide +kernel
theorem dX11_putSwitch_26 : decode cX11_putSwitch 26 = .ok (.iload_n 1, 1) := by decide +kernel
theorem dX11_putSwitch_27 : decode cX11_putSwitch 27 = .ok (.invokevirtual 240, 3) := by decide +kernel
theorem dX11_putSwitch_30 : decode cX11_putSwitch 30 = .ok (.sipush 170, 3) := by decide +kernel
theorem dX11_putSwitch_33 : decode cX11_putSwitch 33 = .ok (.if_icmp .ne 7, 3) := by decide +kernel
theorem dX11_putSwitch_36 : decode cX11_putSwitch 36 = .ok (.iconst 1, 1) := by decide +kernel
theorem dX11_putSwitch_37 : decode cX11_putSwitch 37 = .ok (.goto 4, 3) := by decide +kernel
theorem dX11_putSwitch_40 : decode cX11_putSwitch 40 = .ok (.iconst 0, 1) := by decide +kernel
theorem dX11_putSwitch_41 : decode cX11_putSwitch 41 = .ok (.istore 5, 2) := by decide +kernel
theorem dX11_putSwitch_43 : decode cX11_putSwitch 43 = .ok (.aload_n 0, 1) := by decide +kernel
theorem dX11_putSwitch_44 : decode cX11_putSwitch 44 = .ok (.getfield 18, 3) := by decide +kernel
theorem dX11_putSwitch_47 : decode cX11_putSwitch 47 = .ok (.aload_n 0, 1) := by decide +kernel
theorem dX11_putSwitch_48 : decode cX11_putSwitch 48 = .ok (.getfield 180, 3) := by decide +kernel
theorem dX11_putSwitch_51 : decode cX11_putSwitch 51 = .ok (.iload_n 1, 1) := by decide +kernel
theorem dX11_putSwitch_52 : decode cX11_putSwitch 52 = .ok (.invokevirtual 240, 3) := by decide +kernel
theorem dX11_putSwitch_55 : decode cX11_putSwitch 55 = .ok (.invokevirtual 129, 3) := by decide +kernel
theorem dX11_putSwitch_58 : decode cX11_putSwitch 58 = .ok (.iconst 0, 1) := by decide +kernel
theorem dX11_putSwitch_59 : decode cX11_putSwitch 59 = .ok (.istore 6, 2) := by decide +kernel
theorem dX11_putSwitch_61 : decode cX11_putSwitch 61 = .ok (.iload 6, 2) := by decide +kernel
theorem dX11_putSwitch_63 : decode cX11_putSwitch 63 = .ok (.iconst 3, 1) := by decide +kernel
theorem dX11_putSwitch_64 : decode cX11_putSwitch 64 = .ok (.if_icmp .ge 31, 3) := by decide +kernel
theorem dX11_putSwitch_67 : decode cX11_putSwitch 67 = .ok (.aload_n 0, 1) := by decide +kernel
theorem dX11_putSwitch_68 : decode cX11_putSwitch 68 = .ok (.getfield 18, 3) := by decide +kernel
theorem dX11_putSwitch_71 : decode cX11_putSwitch 71 = .ok (.getfield 60, 3) := by decide +kernel
theorem dX11_putSwitch_74 : decode cX11_putSwitch 74 = .ok (.iload_n 2, 1) := by decide +kernel
theorem dX11_putSwitch_75 : decode cX11_putSwitch 75 = .ok (.isub, 1) := by decide +kernel
theorem dX11_putSwitch_76 : decode cX11_putSwitch 76 = .ok (.iconst 3, 1) := by decide +kernel
theorem dX11_putSwitch_77 : decode cX11_putSwitch 77 = .ok (.iand, 1) := by decide +kernel
theorem dX11_putSwitch_78 : decode cX11_putSwitch 78 = .ok (.ifCond .eq 17, 3) := by decide +kernel
theorem dX11_putSwitch_81 : decode cX11_putSwitch 81 = .ok (.aload_n 0, 1) := by decide +kernel
theorem dX11_putSwitch_82 : decode cX11_putSwitch 82 = .ok (.getfield 18, 3) := by decide +kernel
theorem dX11_putSwitch_85 : decode cX11_putSwitch 85 = .ok (.iconst 0, 1) := by decide +kernel
theorem dX11_putSwitch_86 : decode cX11_putSwitch 86 = .ok (.invokevirtual 129, 3) := by decide +kernel
theorem dX11_putSwitch_89 : decode cX11_putSwitch 89 = .ok (.iinc 6 1, 3) := by decide +kernel
theorem dX11_putSwitch_92 : decode cX11_putSwitch 92 = .ok (.goto (-31), 3) := by decide +kernel
theorem dX11_putSwitch_95 : decode cX11_putSwitch 95 = .ok (.aload_n 0, 1) := by decide +kernel
theorem dX11_putSwitch_96 : decode cX11_putSwitch 96 = .ok (.getfield 18, 3) := by decide +kernel
theorem dX11_putSwitch_99 : decode cX11_putSwitch 99 = .ok (.aload_n 0, 1) := by decide +kernel
theorem dX11_putSwitch_100 : decode cX11_putSwitch 100 = .ok (.aload_n 0, 1) := by decide +kernel
theorem dX11_putSwitch_101 : decode cX11_putSwitch 101 = .ok (.getfield 180, 3) := by decide +kernel
theorem dX11_putSwitch_104 : decode cX11_putSwitch 104 = .ok (.iload_n 1, 1) := by decide +kernel
theorem dX11_putSwitch_105 : decode cX11_putSwitch 105 = .ok (.iconst 0, 1) := by decide +kernel
theorem dX11_putSwitch_106 : decode cX11_putSwitch 106 = .ok (.invokevirtual 328, 3) := by decide +kernel
theorem dX11_putSwitch_109 : decode cX11_putSwitch 109 = .ok (.invokevirtual 213, 3) := by decide +kernel
theorem dX11_putSwitch_112 : decode cX11_putSwitch 112 = .ok (.aload_n 0, 1) := by decide +kernel
theorem dX11_putSwitch_113 : decode cX11_putSwitch 113 = .ok (.iload_n 1, 1) := by decide +kernel
theorem dX11_putSwitch_114 : decode cX11_putSwitch 114 = .ok (.invokevirtual 213, 3) := by decide +kernel
theorem dX11_putSwitch_117 : decode cX11_putSwitch 117 = .ok (.isub, 1) := by decide +kernel
theorem dX11_putSwitch_118 : decode cX11_putSwitch 118 = .ok (.invokevirtual 167, 3) := by decide +kernel
theorem dX11_putSwitch_121 : decode cX11_putSwitch 121 = .ok (.iload 5, 2) := by decide +kernel
theorem dX11_putSwitch_123 : decode cX11_putSwitch 123 = .ok (.ifCond .eq 45, 3) := by decide +kernel
theorem dX11_putSwitch_126 : decode cX11_putSwitch 126 = .ok (.aload_n 0, 1) := by decide +kernel
theorem dX11_putSwitch_127 : decode cX11_putSwitch 127 = .ok (.getfield 18, 3) := by decide +kernel
theorem dX11_putSwitch_130 : decode cX11_putSwitch 130 = .ok (.aload_n 0, 1) := by decide +kernel
theorem dX11_putSwitch_131 : decode cX11_putSwitch 131 = .ok (.getfield 180, 3) := by decide +kernel
theorem dX11_putSwitch_134 : decode cX11_putSwitch 134 = .ok (.iload_n 3, 1) := by decide +kernel
theorem dX11_putSwitch_135 : decode cX11_putSwitch 135 = .ok (.iconst 1, 1) := by decide +kernel
theorem dX11_putSwitch_136 : decode cX11_putSwitch 136 = .ok (.iadd, 1) := by decide +kernel
theorem dX11_putSwitch_137 : decode cX11_putSwitch 137 = .ok (.invokevirtual 331, 3) := by decide +kernel
theorem dX11_putSwitch_140 : decode cX11_putSwitch 140 = .ok (.invokevirtual 167, 3) := by decide +kernel
theorem dX11_putSwitch_143 : decode cX11_putSwitch 143 = .ok (.aload_n 0, 1) := by decide +kernel
theorem dX11_putSwitch_144 : decode cX11_putSwitch 144 = .ok (.getfield 18, 3) := by decide +kernel

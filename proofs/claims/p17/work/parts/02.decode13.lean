theorem dX11_putInstruction_232 : decode cX11_putInstruction 232 = .ok (.return_, 1) := by decide +kernel
theorem dX11_putInt_0 : decode cX11_putInt 0 = .ok (.iload_n 1, 1) := by decide +kernel
theorem dX11_putInt_1 : decode cX11_putInt 1 = .ok (.iconst (-1), 1) := by decide +kernel
theorem dX11_putInt_2 : decode cX11_putInt 2 = .ok (.if_icmp .lt 21, 3) := by decide +kernel
theorem dX11_putInt_5 : decode cX11_putInt 5 = .ok (.iload_n 1, 1) := by decide +kernel
theorem dX11_putInt_6 : decode cX11_putInt 6 = .ok (.iconst 5, 1) := by decide +kernel
theorem dX11_putInt_7 : decode cX11_putInt 7 = .ok (.if_icmp .gt 16, 3) := by decide +kernel
theorem dX11_putInt_10 : decode cX11_putInt 10 = .ok (.aload_n 0, 1) := by decide +kernel
theorem dX11_putInt_11 : decode cX11_putInt 11 = .ok (.getfield 18, 3) := by decide +kernel
theorem dX11_putInt_14 : decode cX11_putInt 14 = .ok (.iload_n 1, 1) := by decide +kernel
theorem dX11_putInt_15 : decode cX11_putInt 15 = .ok (.iconst 3, 1) := by decide +kernel
theorem dX11_putInt_16 : decode cX11_putInt 16 = .ok (.iadd, 1) := by decide +kernel
theorem dX11_putInt_17 : decode cX11_putInt 17 = .ok (.invokevirtual 129, 3) := by decide +kernel
theorem dX11_putInt_20 : decode cX11_putInt 20 = .ok (.goto 101, 3) := by decide +kernel
theorem dX11_putInt_23 : decode cX11_putInt 23 = .ok (.iload_n 1, 1) := by decide +kernel
theorem dX11_putInt_24 : decode cX11_putInt 24 = .ok (.i2l, 1) := by decide +kernel
theorem dX11_putInt_25 : decode cX11_putInt 25 = .ok (.invokestatic 298, 3) := by decide +kernel
theorem dX11_putInt_28 : decode cX11_putInt 28 = .ok (.ifCond .eq 23, 3) := by decide +kernel
theorem dX11_putInt_31 : decode cX11_putInt 31 = .ok (.aload_n 0, 1) := by decide +kernel
theorem dX11_putInt_32 : decode cX11_putInt 32 = .ok (.getfield 18, 3) := by decide +kernel
theorem dX11_putInt_35 : decode cX11_putInt 35 = .ok (.bipush 16, 2) := by decide +kernel
theorem dX11_putInt_37 : decode cX11_putInt 37 = .ok (.invokevirtual 129, 3) := by decide +kernel
theorem dX11_putInt_40 : decode cX11_putInt 40 = .ok (.aload_n 0, 1) := by decide +kernel
theorem dX11_putInt_41 : decode cX11_putInt 41 = .ok (.getfield 18, 3) := by decide +kernel
theorem dX11_putInt_44 : decode cX11_putInt 44 = .ok (.iload_n 1, 1) := by decide +kernel
theorem dX11_putInt_45 : decode cX11_putInt 45 = .ok (.invokevirtual 129, 3) := by decide +kernel
theorem dX11_putInt_48 : decode cX11_putInt 48 = .ok (.goto 73, 3) := by decide +kernel
theorem dX11_putInt_51 : decode cX11_putInt 51 = .ok (.iload_n 1, 1) := by decide +kernel
theorem dX11_putInt_52 : decode cX11_putInt 52 = .ok (.iload_n 1, 1) := by decide +kernel
theorem dX11_putInt_53 : decode cX11_putInt 53 = .ok (.i2s, 1) := by decide +kernel
theorem dX11_putInt_54 : decode cX11_putInt 54 = .ok (.if_icmp .ne 23, 3) := by decide +kernel
theorem dX11_putInt_57 : decode cX11_putInt 57 = .ok (.aload_n 0, 1) := by decide +kernel
theorem dX11_putInt_58 : decode cX11_putInt 58 = .ok (.getfield 18, 3) := by decide +kernel
theorem dX11_putInt_61 : decode cX11_putInt 61 = .ok (.bipush 17, 2) := by decide +kernel
theorem dX11_putInt_63 : decode cX11_putInt 63 = .ok (.invokevirtual 129, 3) := by decide +kernel
theorem dX11_putInt_66 : decode cX11_putInt 66 = .ok (.aload_n 0, 1) := by decide +kernel
theorem dX11_putInt_67 : decode cX11_putInt 67 = .ok (.getfield 18, 3) := by decide +kernel
theorem dX11_putInt_70 : decode cX11_putInt 70 = .ok (.iload_n 1, 1) := by decide +kernel
theorem dX11_putInt_71 : decode cX11_putInt 71 = .ok (.invokevirtual 105, 3) := by decide +kernel
theorem dX11_putInt_74 : decode cX11_putInt 74 = .ok (.goto 47, 3) := by decide +kernel
theorem dX11_putInt_77 : decode cX11_putInt 77 = .ok (.iload_n 2, 1) := by decide +kernel
theorem dX11_putInt_78 : decode cX11_putInt 78 = .ok (.sipush 256, 3) := by decide +kernel
theorem dX11_putInt_81 : decode cX11_putInt 81 = .ok (.if_icmp .ge 23, 3) := by decide +kernel
theorem dX11_putInt_84 : decode cX11_putInt 84 = .ok (.aload_n 0, 1) := by decide +kernel
theorem dX11_putInt_85 : decode cX11_putInt 85 = .ok (.getfield 18, 3) := by decide +kernel
theorem dX11_putInt_88 : decode cX11_putInt 88 = .ok (.bipush 18, 2) := by decide +kernel
theorem dX11_putInt_90 : decode cX11_putInt 90 = .ok (.invokevirtual 129, 3) := by decide +kernel
theorem dX11_putInt_93 : decode cX11_putInt 93 = .ok (.aload_n 0, 1) := by decide +kernel
theorem dX11_putInt_94 : decode cX11_putInt 94 = .ok (.getfield 18, 3) := by decide +kernel
theorem dX11_putInt_97 : decode cX11_putInt 97 = .ok (.iload_n 2, 1) := by decide +kernel
theorem dX11_putInt_98 : decode cX11_putInt 98 = .ok (.invokevirtual 129, 3) := by decide +kernel
theorem dX11_putInt_101 : decode cX11_putInt 101 = .ok (.goto 20, 3) := by decide +kernel
theorem dX11_putInt_104 : decode cX11_putInt 104 = .ok (.aload_n 0, 1) := by decide +kernel
theorem dX11_putInt_105 : decode cX11_putInt 105 = .ok (.getfield 18, 3) := by decide +kernel
theorem dX11_putInt_108 : decode cX11_putInt 108 = .ok (.bipush 19, 2) := by decide +kernel
theorem dX11_putInt_110 : decode cX11_putInt 110 = .ok (.invokevirtual 129, 3) := by decide +kernel
theorem dX11_putInt_113 : decode cX11_putInt 113 = .ok (.aload_n 0, 1) := by decide +kernel
theorem dX11_putInt_114 : decode cX11_putInt 114 = .ok (.getfield 18, 3) := by decide +kernel
theorem dX11_putInt_117 : decode cX11_putInt 117 = .ok (.iload_n 2, 1) := by decide +kernel
theorem dX11_putInt_118 : decode cX11_putInt 118 = .ok (.invokevirtual 105, 3) := by decide +kernel
theorem dX11_putInt_121 : decode cX11_putInt 121 = .ok (.return_, 1) := by decide +kernel
theorem dX11_putLocal_0 : decode cX11_putLocal 0 = .ok (.iload_n 2, 1) := by decide +kernel
theorem dX11_putLocal_1 : decode cX11_putLocal 1 = .ok (.iconst 3, 1) := by decide +kernel
theorem dX11_putLocal_2 : decode cX11_putLocal 2 = .ok (.if_icmp .le 20, 3) := by decide +kernel
theorem dX11_putLocal_5 : decode cX11_putLocal 5 = .ok (.aload_n 0, 1) := by decide +kernel
theorem dX11_putLocal_6 : decode cX11_putLocal 6 = .ok (.getfield 18, 3) := by decide +kernel
theorem dX11_putLocal_9 : decode cX11_putLocal 9 = .ok (.iload_n 1, 1) := by decide +kernel
theorem dX11_putLocal_10 : decode cX11_putLocal 10 = .ok (.invokevirtual 129, 3) := by decide +kernel
theorem dX11_putLocal_13 : decode cX11_putLocal 13 = .ok (.aload_n 0, 1) := by decide +kernel
theorem dX11_putLocal_14 : decode cX11_putLocal 14 = .ok (.getfield 18, 3) := by decide +kernel
theorem dX11_putLocal_17 : decode cX11_putLocal 17 = .ok (.iload_n 2, 1) := by decide +kernel
theorem dX11_putLocal_18 : decode cX11_putLocal 18 = .ok (.invokevirtual 129, 3) := by decide +kernel
theorem dX11_putLocal_21 : decode cX11_putLocal 21 = .ok (.return_, 1) := by decide +kernel
theorem dX11_putLocal_22 : decode cX11_putLocal 22 = .ok (.iload_n 1, 1) := by decide +kernel
theorem dX11_putLocal_23 : decode cX11_putLocal 23 = .ok (.lookupswitch 119 #[(21, 49), (22, 63), (25, 77), (54, 91), (55, 105)], 49) := by decide +kernel
theorem dX11_putLocal_72 : decode cX11_putLocal 72 = .ok (.aload_n 0, 1) := by decide +kernel
theorem dX11_putLocal_73 : decode cX11_putLocal 73 = .ok (.getfield 18, 3) := by decide +kernel
theorem dX11_putLocal_76 : decode cX11_putLocal 76 = .ok (.bipush 26, 2) := by decide +kernel
theorem dX11_putLocal_78 : decode cX11_putLocal 78 = .ok (.iload_n 2, 1) := by decide +kernel
theorem dX11_putLocal_79 : decode cX11_putLocal 79 = .ok (.iadd, 1) := by decide +kernel
theorem dX11_putLocal_80 : decode cX11_putLocal 80 = .ok (.invokevirtual 129, 3) := by decide +kernel
theorem dX11_putLocal_83 : decode cX11_putLocal 83 = .ok (.goto 70, 3) := by decide +kernel
theorem dX11_putLocal_86 : decode cX11_putLocal 86 = .ok (.aload_n 0, 1) := by decide +kernel
theorem dX11_putLocal_87 : decode cX11_putLocal 87 = .ok (.getfield 18, 3) := by decide +kernel
theorem dX11_putLocal_90 : decode cX11_putLocal 90 = .ok (.bipush 30, 2) := by decide +kernel
theorem dX11_putLocal_92 : decode cX11_putLocal 92 = .ok (.iload_n 2, 1) := by decide +kernel
theorem dX11_putLocal_93 : decode cX11_putLocal 93 = .ok (.iadd, 1) := by decide +kernel
theorem dX11_putLocal_94 : decode cX11_putLocal 94 = .ok (.invokevirtual 129, 3) := by decide +kernel
theorem dX11_putLocal_97 : decode cX11_putLocal 97 = .ok (.goto 56, 3) := by decide +kernel
theorem dX11_putLocal_100 : decode cX11_putLocal 100 = .ok (.aload_n 0, 1) := by decide +kernel
theorem dX11_putLocal_101 : decode cX11_putLocal 101 = .ok (.getfield 18, 3) := by decide +kernel
theorem dX11_putLocal_104 : decode cX11_putLocal 104 = .ok (.bipush 42, 2) := by decide +kernel
theorem dX11_putLocal_106 : decode cX11_putLocal 106 = .ok (.iload_n 2, 1) := by decide +kernel
theorem dX11_putLocal_107 : decode cX11_putLocal 107 = .ok (.iadd, 1) := by decide +kernel
theorem dX11_putLocal_108 : decode cX11_putLocal 108 = .ok (.invokevirtual 129, 3) := by decide +kernel
theorem dX11_putLocal_111 : decode cX11_putLocal 111 = .ok (.goto 42, 3) := by decide +kernel
theorem dX11_putLocal_114 : decode cX11_putLocal 114 = .ok (.aload_n 0, 1) := by decide +kernel
theorem dX11_putLocal_115 : decode cX11_putLocal 115 = .ok (.getfield 18, 3) := by decide +kernel
theorem dX11_putLocal_118 : decode cX11_putLocal 118 = .ok (.bipush 59, 2) := by decide +kernel
theorem dX11_putLocal_120 : decode cX11_putLocal 120 = .ok (.iload_n 2, 1) := by decide +kernel
theorem dX11_putLocal_121 : decode cX11_putLocal 121 = .ok (.iadd, 1) := by decide +kernel
theorem dX11_putLocal_122 : decode cX11_putLocal 122 = .ok (.invokevirtual 129, 3) := by decide +kernel
theorem dX11_putLocal_125 : decode cX11_putLocal 125 = .ok (.goto 28, 3) := by decide +kernel
theorem dX11_putLocal_128 : decode cX11_putLocal 128 = .ok (.aload_n 0, 1) := by decide +kernel
theorem dX11_putLocal_129 : decode cX11_putLocal 129 = .ok (.getfield 18, 3) := by decide +kernel
theorem dX11_putLocal_132 : decode cX11_putLocal 132 = .ok (.bipush 63, 2) := by decide +kernel
theorem dX11_putLocal_134 : decode cX11_putLocal 134 = .ok (.iload_n 2, 1) := by decide +kernel
theorem dX11_putLocal_135 : decode cX11_putLocal 135 = .ok (.iadd, 1) := by decide +kernel
theorem dX11_putLocal_136 : decode cX11_putLocal 136 = .ok (.invokevirtual 129, 3) := by decide +kernel
theorem dX11_putLocal_139 : decode cX11_putLocal 139 = .ok (.goto 14, 3) := by decide +kernel
theorem dX11_putLocal_142 : decode cX11_putLocal 142 = .ok (.aload_n 0, 1) := by decide +kernel
theorem dX11_putLocal_143 : decode cX11_putLocal 143 = .ok (.getfield 18, 3) := by decide +kernel
theorem dX11_putLocal_146 : decode cX11_putLocal 146 = .ok (.bipush 75, 2) := by decide +kernel
theorem dX11_putLocal_148 : decode cX11_putLocal 148 = .ok (.iload_n 2, 1) := by decide +kernel
theorem dX11_putLocal_149 : decode cX11_putLocal 149 = .ok (.iadd, 1) := by decide +kernel
theorem dX11_putLocal_150 : decode cX11_putLocal 150 = .ok (.invokevirtual 129, 3) := by decide +kernel
theorem dX11_putLocal_153 : decode cX11_putLocal 153 = .ok (.return_, 1) := by decide +kernel
theorem dX11_putLong_0 : decode cX11_putLong 0 = .ok (.lload_n 1, 1) := by decide +kernel
theorem dX11_putLong_1 : decode cX11_putLong 1 = .ok (.lconst 0, 1) := by decide +kernel
theorem dX11_putLong_2 : decode cX11_putLong 2 = .ok (.lcmp, 1) := by decide +kernel
theorem dX11_putLong_3 : decode cX11_putLong 3 = .ok (.ifCond .eq 9, 3) := by decide +kernel
theorem dX11_putLong_6 : decode cX11_putLong 6 = .ok (.lload_n 1, 1) := by decide +kernel
theorem dX11_putLong_7 : decode cX11_putLong 7 = .ok (.lconst 1, 1) := by decide +kernel
theorem dX11_putLong_8 : decode cX11_putLong 8 = .ok (.lcmp, 1) := by decide +kernel
theorem dX11_putLong_9 : decode cX11_putLong 9 = .ok (.ifCond .ne 18, 3) := by decide +kernel
theorem dX11_putLong_12 : decode cX11_putLong 12 = .ok (.aload_n 0, 1) := by decide +kernel
theorem dX11_putLong_13 : decode cX11_putLong 13 = .ok (.getfield 18, 3) := by decide +kernel
theorem dX11_putLong_16 : decode cX11_putLong 16 = .ok (.bipush 9, 2) := by decide +kernel
theorem dX11_putLong_18 : decode cX11_putLong 18 = .ok (.lload_n 1, 1) := by decide +kernel
theorem dX11_putLong_19 : decode cX11_putLong 19 = .ok (.l2i, 1) := by decide +kernel
theorem dX11_putLong_20 : decode cX11_putLong 20 = .ok (.iadd, 1) := by decide +kernel
theorem dX11_putLong_21 : decode cX11_putLong 21 = .ok (.invokevirtual 129, 3) := by decide +kernel
theorem dX11_putLong_24 : decode cX11_putLong 24 = .ok (.goto 20, 3) := by decide +kernel
theorem dX11_putLong_27 : decode cX11_putLong 27 = .ok (.aload_n 0, 1) := by decide +kernel
theorem dX11_putLong_28 : decode cX11_putLong 28 = .ok (.getfield 18, 3) := by decide +kernel
theorem dX11_putLong_31 : decode cX11_putLong 31 = .ok (.bipush 20, 2) := by decide +kernel
theorem dX11_putLong_33 : decode cX11_putLong 33 = .ok (.invokevirtual 129, 3) := by decide +kernel
theorem dX11_putLong_36 : decode cX11_putLong 36 = .ok (.aload_n 0, 1) := by decide +kernel
theorem dX11_putLong_37 : decode cX11_putLong 37 = .ok (.getfield 18, 3) := by decide +kernel
theorem dX11_putLong_40 : decode cX11_putLong 40 = .ok (.iload_n 3, 1) := by decide +kernel
theorem dX11_putLong_41 : decode cX11_putLong 41 = .ok (.invokevirtual 105, 3) := by decide +kernel
theorem dX11_putLong_44 : decode cX11_putLong 44 = .ok (.return_, 1) := by decide +kernel
theorem dX11_putMember_0 : decode cX11_putMember 0 = .ok (.aload_n 0, 1) := by decide +kernel
theorem dX11_putMember_1 : decode cX11_putMember 1 = .ok (.getfield 18, 3) := by decide +kernel
theorem dX11_putMember_4 : decode cX11_putMember 4 = .ok (.bipush 9, 2) := by decide +kernel
theorem dX11_putMember_6 : decode cX11_putMember 6 = .ok (.invokevirtual 105, 3) := by decide +kernel
theorem dX11_putMember_9 : decode cX11_putMember 9 = .ok (.aload_n 0, 1) := by decide +kernel
theorem dX11_putMember_10 : decode cX11_putMember 10 = .ok (.getfield 18, 3) := by decide +kernel
theorem dX11_putMember_13 : decode cX11_putMember 13 = .ok (.iload_n 1, 1) := by decide +kernel
theorem dX11_putMember_14 : decode cX11_putMember 14 = .ok (.invokevirtual 105, 3) := by decide +kernel

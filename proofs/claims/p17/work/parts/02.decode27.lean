theorem dX1_store_113 : decode cX1_store 113 = .ok (.invokevirtual 99, 3) := by decide +kernel
theorem dX1_store_116 : decode cX1_store 116 = .ok (.return_, 1) := by decide +kernel
theorem dX1_take_0 : decode cX1_take 0 = .ok (.aload_n 0, 1) := by decide +kernel
theorem dX1_take_1 : decode cX1_take 1 = .ok (.invokevirtual 201, 3) := by decide +kernel
theorem dX1_take_4 : decode cX1_take 4 = .ok (.istore_n 2, 1) := by decide +kernel
theorem dX1_take_5 : decode cX1_take 5 = .ok (.iload_n 1, 1) := by decide +kernel
theorem dX1_take_6 : decode cX1_take 6 = .ok (.tableswitch 172 1 5 #[34, 56, 92, 148, 120], 34) := by decide +kernel
theorem dX1_take_40 : decode cX1_take 40 = .ok (.aload_n 0, 1) := by decide +kernel
theorem dX1_take_41 : decode cX1_take 41 = .ok (.dup, 1) := by decide +kernel
theorem dX1_take_42 : decode cX1_take 42 = .ok (.getfield 161, 3) := by decide +kernel
theorem dX1_take_45 : decode cX1_take 45 = .ok (.iload_n 2, 1) := by decide +kernel
theorem dX1_take_46 : decode cX1_take 46 = .ok (.iconst 1, 1) := by decide +kernel
theorem dX1_take_47 : decode cX1_take 47 = .ok (.if_icmp .eq 7, 3) := by decide +kernel
theorem dX1_take_50 : decode cX1_take 50 = .ok (.iconst 1, 1) := by decide +kernel
theorem dX1_take_51 : decode cX1_take 51 = .ok (.goto 4, 3) := by decide +kernel
theorem dX1_take_54 : decode cX1_take 54 = .ok (.iconst 0, 1) := by decide +kernel
theorem dX1_take_55 : decode cX1_take 55 = .ok (.ior, 1) := by decide +kernel
theorem dX1_take_56 : decode cX1_take 56 = .ok (.putfield 161, 3) := by decide +kernel
theorem dX1_take_59 : decode cX1_take 59 = .ok (.goto 140, 3) := by decide +kernel
theorem dX1_take_62 : decode cX1_take 62 = .ok (.aload_n 0, 1) := by decide +kernel
theorem dX1_take_63 : decode cX1_take 63 = .ok (.dup, 1) := by decide +kernel
theorem dX1_take_64 : decode cX1_take 64 = .ok (.getfield 161, 3) := by decide +kernel
theorem dX1_take_67 : decode cX1_take 67 = .ok (.iload_n 2, 1) := by decide +kernel
theorem dX1_take_68 : decode cX1_take 68 = .ok (.iconst 3, 1) := by decide +kernel
theorem dX1_take_69 : decode cX1_take 69 = .ok (.if_icmp .eq 7, 3) := by decide +kernel
theorem dX1_take_72 : decode cX1_take 72 = .ok (.iconst 1, 1) := by decide +kernel
theorem dX1_take_73 : decode cX1_take 73 = .ok (.goto 4, 3) := by decide +kernel
theorem dX1_take_76 : decode cX1_take 76 = .ok (.iconst 0, 1) := by decide +kernel
theorem dX1_take_77 : decode cX1_take 77 = .ok (.aload_n 0, 1) := by decide +kernel
theorem dX1_take_78 : decode cX1_take 78 = .ok (.invokevirtual 201, 3) := by decide +kernel
theorem dX1_take_81 : decode cX1_take 81 = .ok (.iconst 2, 1) := by decide +kernel
theorem dX1_take_82 : decode cX1_take 82 = .ok (.if_icmp .eq 7, 3) := by decide +kernel
theorem dX1_take_85 : decode cX1_take 85 = .ok (.iconst 1, 1) := by decide +kernel
theorem dX1_take_86 : decode cX1_take 86 = .ok (.goto 4, 3) := by decide +kernel
theorem dX1_take_89 : decode cX1_take 89 = .ok (.iconst 0, 1) := by decide +kernel
theorem dX1_take_90 : decode cX1_take 90 = .ok (.ior, 1) := by decide +kernel
theorem dX1_take_91 : decode cX1_take 91 = .ok (.ior, 1) := by decide +kernel
theorem dX1_take_92 : decode cX1_take 92 = .ok (.putfield 161, 3) := by decide +kernel
theorem dX1_take_95 : decode cX1_take 95 = .ok (.goto 104, 3) := by decide +kernel
theorem dX1_take_98 : decode cX1_take 98 = .ok (.aload_n 0, 1) := by decide +kernel
theorem dX1_take_99 : decode cX1_take 99 = .ok (.dup, 1) := by decide +kernel
theorem dX1_take_100 : decode cX1_take 100 = .ok (.getfield 161, 3) := by decide +kernel
theorem dX1_take_103 : decode cX1_take 103 = .ok (.iload_n 2, 1) := by decide +kernel
theorem dX1_take_104 : decode cX1_take 104 = .ok (.iconst 4, 1) := by decide +kernel
theorem dX1_take_105 : decode cX1_take 105 = .ok (.if_icmp .eq 13, 3) := by decide +kernel
theorem dX1_take_108 : decode cX1_take 108 = .ok (.iload_n 2, 1) := by decide +kernel
theorem dX1_take_109 : decode cX1_take 109 = .ok (.bipush 6, 2) := by decide +kernel
theorem dX1_take_111 : decode cX1_take 111 = .ok (.if_icmp .eq 7, 3) := by decide +kernel
theorem dX1_take_114 : decode cX1_take 114 = .ok (.iconst 1, 1) := by decide +kernel
theorem dX1_take_115 : decode cX1_take 115 = .ok (.goto 4, 3) := by decide +kernel
theorem dX1_take_118 : decode cX1_take 118 = .ok (.iconst 0, 1) := by decide +kernel
theorem dX1_take_119 : decode cX1_take 119 = .ok (.ior, 1) := by decide +kernel
theorem dX1_take_120 : decode cX1_take 120 = .ok (.putfield 161, 3) := by decide +kernel
theorem dX1_take_123 : decode cX1_take 123 = .ok (.goto 76, 3) := by decide +kernel
theorem dX1_take_126 : decode cX1_take 126 = .ok (.aload_n 0, 1) := by decide +kernel
theorem dX1_take_127 : decode cX1_take 127 = .ok (.dup, 1) := by decide +kernel
theorem dX1_take_128 : decode cX1_take 128 = .ok (.getfield 161, 3) := by decide +kernel
theorem dX1_take_131 : decode cX1_take 131 = .ok (.iload_n 2, 1) := by decide +kernel
theorem dX1_take_132 : decode cX1_take 132 = .ok (.iconst 5, 1) := by decide +kernel
theorem dX1_take_133 : decode cX1_take 133 = .ok (.if_icmp .eq 13, 3) := by decide +kernel
theorem dX1_take_136 : decode cX1_take 136 = .ok (.iload_n 2, 1) := by decide +kernel
theorem dX1_take_137 : decode cX1_take 137 = .ok (.bipush 6, 2) := by decide +kernel
theorem dX1_take_139 : decode cX1_take 139 = .ok (.if_icmp .eq 7, 3) := by decide +kernel
theorem dX1_take_142 : decode cX1_take 142 = .ok (.iconst 1, 1) := by decide +kernel
theorem dX1_take_143 : decode cX1_take 143 = .ok (.goto 4, 3) := by decide +kernel
theorem dX1_take_146 : decode cX1_take 146 = .ok (.iconst 0, 1) := by decide +kernel
theorem dX1_take_147 : decode cX1_take 147 = .ok (.ior, 1) := by decide +kernel
theorem dX1_take_148 : decode cX1_take 148 = .ok (.putfield 161, 3) := by decide +kernel
theorem dX1_take_151 : decode cX1_take 151 = .ok (.goto 48, 3) := by decide +kernel
theorem dX1_take_154 : decode cX1_take 154 = .ok (.aload_n 0, 1) := by decide +kernel
theorem dX1_take_155 : decode cX1_take 155 = .ok (.dup, 1) := by decide +kernel
theorem dX1_take_156 : decode cX1_take 156 = .ok (.getfield 161, 3) := by decide +kernel
theorem dX1_take_159 : decode cX1_take 159 = .ok (.iload_n 2, 1) := by decide +kernel
theorem dX1_take_160 : decode cX1_take 160 = .ok (.invokestatic 205, 3) := by decide +kernel
theorem dX1_take_163 : decode cX1_take 163 = .ok (.ifCond .ne 7, 3) := by decide +kernel
theorem dX1_take_166 : decode cX1_take 166 = .ok (.iconst 1, 1) := by decide +kernel
theorem dX1_take_167 : decode cX1_take 167 = .ok (.goto 4, 3) := by decide +kernel
theorem dX1_take_170 : decode cX1_take 170 = .ok (.iconst 0, 1) := by decide +kernel
theorem dX1_take_171 : decode cX1_take 171 = .ok (.ior, 1) := by decide +kernel
theorem dX1_take_172 : decode cX1_take 172 = .ok (.putfield 161, 3) := by decide +kernel
theorem dX1_take_175 : decode cX1_take 175 = .ok (.goto 24, 3) := by decide +kernel
theorem dX1_take_178 : decode cX1_take 178 = .ok (.aload_n 0, 1) := by decide +kernel
theorem dX1_take_179 : decode cX1_take 179 = .ok (.dup, 1) := by decide +kernel
theorem dX1_take_180 : decode cX1_take 180 = .ok (.getfield 161, 3) := by decide +kernel
theorem dX1_take_183 : decode cX1_take 183 = .ok (.iload_n 2, 1) := by decide +kernel
theorem dX1_take_184 : decode cX1_take 184 = .ok (.invokestatic 208, 3) := by decide +kernel
theorem dX1_take_187 : decode cX1_take 187 = .ok (.ifCond .ne 7, 3) := by decide +kernel
theorem dX1_take_190 : decode cX1_take 190 = .ok (.iconst 1, 1) := by decide +kernel
theorem dX1_take_191 : decode cX1_take 191 = .ok (.goto 4, 3) := by decide +kernel
theorem dX1_take_194 : decode cX1_take 194 = .ok (.iconst 0, 1) := by decide +kernel
theorem dX1_take_195 : decode cX1_take 195 = .ok (.ior, 1) := by decide +kernel
theorem dX1_take_196 : decode cX1_take 196 = .ok (.putfield 161, 3) := by decide +kernel
theorem dX1_take_199 : decode cX1_take 199 = .ok (.iload_n 2, 1) := by decide +kernel
theorem dX1_take_200 : decode cX1_take 200 = .ok (.ireturn, 1) := by decide +kernel
theorem dX1_takeCopy_0 : decode cX1_takeCopy 0 = .ok (.aload_n 0, 1) := by decide +kernel
theorem dX1_takeCopy_1 : decode cX1_takeCopy 1 = .ok (.bipush 6, 2) := by decide +kernel
theorem dX1_takeCopy_3 : decode cX1_takeCopy 3 = .ok (.invokevirtual 189, 3) := by decide +kernel
theorem dX1_takeCopy_6 : decode cX1_takeCopy 6 = .ok (.istore_n 1, 1) := by decide +kernel
theorem dX1_takeCopy_7 : decode cX1_takeCopy 7 = .ok (.iload_n 1, 1) := by decide +kernel
theorem dX1_takeCopy_8 : decode cX1_takeCopy 8 = .ok (.invokestatic 208, 3) := by decide +kernel
theorem dX1_takeCopy_11 : decode cX1_takeCopy 11 = .ok (.ifCond .eq 7, 3) := by decide +kernel
theorem dX1_takeCopy_14 : decode cX1_takeCopy 14 = .ok (.iload_n 1, 1) := by decide +kernel
theorem dX1_takeCopy_15 : decode cX1_takeCopy 15 = .ok (.goto 4, 3) := by decide +kernel
theorem dX1_takeCopy_18 : decode cX1_takeCopy 18 = .ok (.iconst 0, 1) := by decide +kernel
theorem dX1_takeCopy_19 : decode cX1_takeCopy 19 = .ok (.ireturn, 1) := by decide +kernel
theorem dX1_takeUp_0 : decode cX1_takeUp 0 = .ok (.aload_n 0, 1) := by decide +kernel
theorem dX1_takeUp_1 : decode cX1_takeUp 1 = .ok (.iconst 0, 1) := by decide +kernel
theorem dX1_takeUp_2 : decode cX1_takeUp 2 = .ok (.aload_n 0, 1) := by decide +kernel
theorem dX1_takeUp_3 : decode cX1_takeUp 3 = .ok (.getfield 12, 3) := by decide +kernel
theorem dX1_takeUp_6 : decode cX1_takeUp 6 = .ok (.iload_n 1, 1) := by decide +kernel
theorem dX1_takeUp_7 : decode cX1_takeUp 7 = .ok (.invokevirtual 112, 3) := by decide +kernel
theorem dX1_takeUp_10 : decode cX1_takeUp 10 = .ok (.bipush 24, 2) := by decide +kernel
theorem dX1_takeUp_12 : decode cX1_takeUp 12 = .ok (.invokestatic 115, 3) := by decide +kernel
theorem dX1_takeUp_15 : decode cX1_takeUp 15 = .ok (.invokestatic 120, 3) := by decide +kernel
theorem dX1_takeUp_18 : decode cX1_takeUp 18 = .ok (.putfield 103, 3) := by decide +kernel
theorem dX1_takeUp_21 : decode cX1_takeUp 21 = .ok (.aload_n 0, 1) := by decide +kernel
theorem dX1_takeUp_22 : decode cX1_takeUp 22 = .ok (.getfield 18, 3) := by decide +kernel
theorem dX1_takeUp_25 : decode cX1_takeUp 25 = .ok (.iload_n 1, 1) := by decide +kernel
theorem dX1_takeUp_26 : decode cX1_takeUp 26 = .ok (.bipush 48, 2) := by decide +kernel
theorem dX1_takeUp_28 : decode cX1_takeUp 28 = .ok (.imul, 1) := by decide +kernel
theorem dX1_takeUp_29 : decode cX1_takeUp 29 = .ok (.aload_n 0, 1) := by decide +kernel
theorem dX1_takeUp_30 : decode cX1_takeUp 30 = .ok (.getfield 29, 3) := by decide +kernel
theorem dX1_takeUp_33 : decode cX1_takeUp 33 = .ok (.iconst 0, 1) := by decide +kernel
theorem dX1_takeUp_34 : decode cX1_takeUp 34 = .ok (.bipush 48, 2) := by decide +kernel
theorem dX1_takeUp_36 : decode cX1_takeUp 36 = .ok (.invokestatic 123, 3) := by decide +kernel
theorem dX1_takeUp_39 : decode cX1_takeUp 39 = .ok (.return_, 1) := by decide +kernel
theorem dX2_addSwitch_0 : decode cX2_addSwitch 0 = .ok (.aload_n 0, 1) := by decide +kernel
theorem dX2_addSwitch_1 : decode cX2_addSwitch 1 = .ok (.getfield 172, 3) := by decide +kernel
theorem dX2_addSwitch_4 : decode cX2_addSwitch 4 = .ok (.l2i, 1) := by decide +kernel
theorem dX2_addSwitch_5 : decode cX2_addSwitch 5 = .ok (.istore_n 2, 1) := by decide +kernel
theorem dX2_addSwitch_6 : decode cX2_addSwitch 6 = .ok (.aload_n 0, 1) := by decide +kernel
theorem dX2_addSwitch_7 : decode cX2_addSwitch 7 = .ok (.iload_n 2, 1) := by decide +kernel
theorem dX2_addSwitch_8 : decode cX2_addSwitch 8 = .ok (.invokevirtual 237, 3) := by decide +kernel
theorem dX2_addSwitch_11 : decode cX2_addSwitch 11 = .ok (.istore_n 3, 1) := by decide +kernel
theorem dX2_addSwitch_12 : decode cX2_addSwitch 12 = .ok (.aload_n 1, 1) := by decide +kernel
theorem dX2_addSwitch_13 : decode cX2_addSwitch 13 = .ok (.aload_n 0, 1) := by decide +kernel
theorem dX2_addSwitch_14 : decode cX2_addSwitch 14 = .ok (.getfield 169, 3) := by decide +kernel
theorem dX2_addSwitch_17 : decode cX2_addSwitch 17 = .ok (.aload_n 1, 1) := by decide +kernel
theorem dX2_addSwitch_18 : decode cX2_addSwitch 18 = .ok (.getfield 355, 3) := by decide +kernel
theorem dX2_addSwitch_21 : decode cX2_addSwitch 21 = .ok (.i2l, 1) := by decide +kernel
theorem dX2_addSwitch_22 : decode cX2_addSwitch 22 = .ok (.invokevirtual 346, 3) := by decide +kernel
theorem dX2_addSwitch_25 : decode cX2_addSwitch 25 = .ok (.aload_n 1, 1) := by decide +kernel
theorem dX2_addSwitch_26 : decode cX2_addSwitch 26 = .ok (.iload_n 3, 1) := by decide +kernel
theorem dX2_addSwitch_27 : decode cX2_addSwitch 27 = .ok (.iconst 1, 1) := by decide +kernel
theorem dX2_addSwitch_28 : decode cX2_addSwitch 28 = .ok (.iadd, 1) := by decide +kernel
theorem dX2_addSwitch_29 : decode cX2_addSwitch 29 = .ok (.invokevirtual 358, 3) := by decide +kernel
theorem dX2_addSwitch_32 : decode cX2_addSwitch 32 = .ok (.aload_n 1, 1) := by decide +kernel
theorem dX2_addSwitch_33 : decode cX2_addSwitch 33 = .ok (.aload_n 0, 1) := by decide +kernel
theorem dX2_addSwitch_34 : decode cX2_addSwitch 34 = .ok (.getfield 169, 3) := by decide +kernel
theorem dX2_addSwitch_37 : decode cX2_addSwitch 37 = .ok (.sipush 170, 3) := by decide +kernel

theorem dX1_take_184 : decode cX1_take 184 = .ok (.invokestatic 208, 3) := by decide +kernel
theorem dX1_take_187 : decode cX1_take 187 = .ok (.ifCond .ne 7, 3) := by decide +kernel
theorem dX1_take_190 : decode cX1_take 190 = .ok (.iconst 1, 1) := by decide +kernel
theorem dX1_take_191 : decode cX1_take 191 = .ok (.goto 4, 3) := by decide +kernel
theorem dX1_take_194 : decode cX1_take 194 = .ok (.iconst 0, 1) := by decide +kernel
theorem dX1_take_195 : decode cX1_take 195 = .ok (.ior, 1) := by decide +kernel
theorem dX1_take_196 : decode cX1_take 196 = .ok (.putfield 161, 3) := by decide +kernel
theorem dX1_take_199 : decode cX1_take 199 = .ok (.iload_n 2, 1) := by decide +kernel
theorem dX1_take_200 : decode cX1_take 200 = .ok (.ireturn, 1) := by decide +kernel
theorem dX1_takeCopy_0 : decode cX1_takeCopy 0 = .ok (.aload_n 0, 1) := by decide +kernel
theorem dX1_takeCopy_1 : decode cX1_takeCopy 1 = .ok (.bipush 6, 2) := by decide +kernel
theorem dX1_takeCopy_3 : decode cX1_takeCopy 3 = .ok (.invokevirtual 189, 3) := by decide +kernel
theorem dX1_takeCopy_6 : decode cX1_takeCopy 6 = .ok (.istore_n 1, 1) := by decide +kernel
theorem dX1_takeCopy_7 : decode cX1_takeCopy 7 = .ok (.iload_n 1, 1) := by decide +kernel
theorem dX1_takeCopy_8 : decode cX1_takeCopy 8 = .ok (.invokestatic 208, 3) := by decide +kernel
theorem dX1_takeCopy_11 : decode cX1_takeCopy 11 = .ok (.ifCond .eq 7, 3) := by decide +kernel
theorem dX1_takeCopy_14 : decode cX1_takeCopy 14 = .ok (.iload_n 1, 1) := by decide +kernel
theorem dX1_takeCopy_15 : decode cX1_takeCopy 15 = .ok (.goto 4, 3) := by decide +kernel
theorem dX1_takeCopy_18 : decode cX1_takeCopy 18 = .ok (.iconst 0, 1) := by decide +kernel
theorem dX1_takeCopy_19 : decode cX1_takeCopy 19 = .ok (.ireturn, 1) := by decide +kernel
theorem dX1_takeUp_0 : decode cX1_takeUp 0 = .ok (.aload_n 0, 1) := by decide +kernel
theorem dX1_takeUp_1 : decode cX1_takeUp 1 = .ok (.iconst 0, 1) := by decide +kernel
theorem dX1_takeUp_2 : decode cX1_takeUp 2 = .ok (.aload_n 0, 1) := by decide +kernel
theorem dX1_takeUp_3 : decode cX1_takeUp 3 = .ok (.getfield 12, 3) := by decide +kernel
theorem dX1_takeUp_6 : decode cX1_takeUp 6 = .ok (.iload_n 1, 1) := by decide +kernel
theorem dX1_takeUp_7 : decode cX1_takeUp 7 = .ok (.invokevirtual 112, 3) := by decide +kernel
theorem dX1_takeUp_10 : decode cX1_takeUp 10 = .ok (.bipush 24, 2) := by decide +kernel
theorem dX1_takeUp_12 : decode cX1_takeUp 12 = .ok (.invokestatic 115, 3) := by decide +kernel
theorem dX1_takeUp_15 : decode cX1_takeUp 15 = .ok (.invokestatic 120, 3) := by decide +kernel
theorem dX1_takeUp_18 : decode cX1_takeUp 18 = .ok (.putfield 103, 3) := by decide +kernel
theorem dX1_takeUp_21 : decode cX1_takeUp 21 = .ok (.aload_n 0, 1) := by decide +kernel
theorem dX1_takeUp_22 : decode cX1_takeUp 22 = .ok (.getfield 18, 3) := by decide +kernel
theorem dX1_takeUp_25 : decode cX1_takeUp 25 = .ok (.iload_n 1, 1) := by decide +kernel
theorem dX1_takeUp_26 : decode cX1_takeUp 26 = .ok (.bipush 48, 2) := by decide +kernel
theorem dX1_takeUp_28 : decode cX1_takeUp 28 = .ok (.imul, 1) := by decide +kernel
theorem dX1_takeUp_29 : decode cX1_takeUp 29 = .ok (.aload_n 0, 1) := by decide +kernel
theorem dX1_takeUp_30 : decode cX1_takeUp 30 = .ok (.getfield 29, 3) := by decide +kernel
theorem dX1_takeUp_33 : decode cX1_takeUp 33 = .ok (.iconst 0, 1) := by decide +kernel
theorem dX1_takeUp_34 : decode cX1_takeUp 34 = .ok (.bipush 48, 2) := by decide +kernel
theorem dX1_takeUp_36 : decode cX1_takeUp 36 = .ok (.invokestatic 123, 3) := by decide +kernel
theorem dX1_takeUp_39 : decode cX1_takeUp 39 = .ok (.return_, 1) := by decide +kernel
theorem dX2_addSwitch_0 : decode cX2_addSwitch 0 = .ok (.aload_n 0, 1) := by decide +kernel
theorem dX2_addSwitch_1 : decode cX2_addSwitch 1 = .ok (.getfield 172, 3) := by decide +kernel
theorem dX2_addSwitch_4 : decode cX2_addSwitch 4 = .ok (.l2i, 1) := by decide +kernel
theorem dX2_addSwitch_5 : decode cX2_addSwitch 5 = .ok (.istore_n 2, 1) := by decide +kernel
theorem dX2_addSwitch_6 : decode cX2_addSwitch 6 = .ok (.aload_n 0, 1) := by decide +kernel
theorem dX2_addSwitch_7 : decode cX2_addSwitch 7 = .ok (.iload_n 2, 1) := by decide +kernel
theorem dX2_addSwitch_8 : decode cX2_addSwitch 8 = .ok (.invokevirtual 237, 3) := by decide +kernel
theorem dX2_addSwitch_11 : decode cX2_addSwitch 11 = .ok (.istore_n 3, 1) := by decide +kernel
theorem dX2_addSwitch_12 : decode cX2_addSwitch 12 = .ok (.aload_n 1, 1) := by decide +kernel
theorem dX2_addSwitch_13 : decode cX2_addSwitch 13 = .ok (.aload_n 0, 1) := by decide +kernel
theorem dX2_addSwitch_14 : decode cX2_addSwitch 14 = .ok (.getfield 169, 3) := by decide +kernel
theorem dX2_addSwitch_17 : decode cX2_addSwitch 17 = .ok (.aload_n 1, 1) := by decide +kernel
theorem dX2_addSwitch_18 : decode cX2_addSwitch 18 = .ok (.getfield 355, 3) := by decide +kernel
theorem dX2_addSwitch_21 : decode cX2_addSwitch 21 = .ok (.i2l, 1) := by decide +kernel
theorem dX2_addSwitch_22 : decode cX2_addSwitch 22 = .ok (.invokevirtual 346, 3) := by decide +kernel
theorem dX2_addSwitch_25 : decode cX2_addSwitch 25 = .ok (.aload_n 1, 1) := by decide +kernel
theorem dX2_addSwitch_26 : decode cX2_addSwitch 26 = .ok (.iload_n 3, 1) := by decide +kernel
theorem dX2_addSwitch_27 : decode cX2_addSwitch 27 = .ok (.iconst 1, 1) := by decide +kernel
theorem dX2_addSwitch_28 : decode cX2_addSwitch 28 = .ok (.iadd, 1) := by decide +kernel
theorem dX2_addSwitch_29 : decode cX2_addSwitch 29 = .ok (.invokevirtual 358, 3) := by decide +kernel
theorem dX2_addSwitch_32 : decode cX2_addSwitch 32 = .ok (.aload_n 1, 1) := by decide +kernel
theorem dX2_addSwitch_33 : decode cX2_addSwitch 33 = .ok (.aload_n 0, 1) := by decide +kernel
theorem dX2_addSwitch_34 : decode cX2_addSwitch 34 = .ok (.getfield 169, 3) := by decide +kernel
theorem dX2_addSwitch_37 : decode cX2_addSwitch 37 = .ok (.sipush 170, 3) := by decide +kernel
theorem dX2_addSwitch_40 : decode cX2_addSwitch 40 = .ok (.if_icmp .ne 13, 3) := by decide +kernel
theorem dX2_addSwitch_43 : decode cX2_addSwitch 43 = .ok (.aload_n 0, 1) := by decide +kernel
theorem dX2_addSwitch_44 : decode cX2_addSwitch 44 = .ok (.iload_n 2, 1) := by decide +kernel
theorem dX2_addSwitch_45 : decode cX2_addSwitch 45 = .ok (.iconst 4, 1) := by decide +kernel
theorem dX2_addSwitch_46 : decode cX2_addSwitch 46 = .ok (.iadd, 1) := by decide +kernel
theorem dX2_addSwitch_47 : decode cX2_addSwitch 47 = .ok (.invokevirtual 163, 3) := by decide +kernel
theorem dX2_addSwitch_50 : decode cX2_addSwitch 50 = .ok (.goto 4, 3) := by decide +kernel
theorem dX2_addSwitch_53 : decode cX2_addSwitch 53 = .ok (.iconst 0, 1) := by decide +kernel
theorem dX2_addSwitch_54 : decode cX2_addSwitch 54 = .ok (.invokevirtual 358, 3) := by decide +kernel
theorem dX2_addSwitch_57 : decode cX2_addSwitch 57 = .ok (.iconst (-1), 1) := by decide +kernel
theorem dX2_addSwitch_58 : decode cX2_addSwitch 58 = .ok (.istore 4, 2) := by decide +kernel
theorem dX2_addSwitch_60 : decode cX2_addSwitch 60 = .ok (.iload 4, 2) := by decide +kernel
theorem dX2_addSwitch_62 : decode cX2_addSwitch 62 = .ok (.iload_n 3, 1) := by decide +kernel
theorem dX2_addSwitch_63 : decode cX2_addSwitch 63 = .ok (.if_icmp .ge 24, 3) := by decide +kernel
theorem dX2_addSwitch_66 : decode cX2_addSwitch 66 = .ok (.aload_n 1, 1) := by decide +kernel
theorem dX2_addSwitch_67 : decode cX2_addSwitch 67 = .ok (.aload_n 0, 1) := by decide +kernel
theorem dX2_addSwitch_68 : decode cX2_addSwitch 68 = .ok (.aload_n 0, 1) := by decide +kernel
theorem dX2_addSwitch_69 : decode cX2_addSwitch 69 = .ok (.iload_n 2, 1) := by decide +kernel
theorem dX2_addSwitch_70 : decode cX2_addSwitch 70 = .ok (.iload 4, 2) := by decide +kernel
theorem dX2_addSwitch_72 : decode cX2_addSwitch 72 = .ok (.invokevirtual 240, 3) := by decide +kernel
theorem dX2_addSwitch_75 : decode cX2_addSwitch 75 = .ok (.invokevirtual 217, 3) := by decide +kernel
theorem dX2_addSwitch_78 : decode cX2_addSwitch 78 = .ok (.invokevirtual 358, 3) := by decide +kernel
theorem dX2_addSwitch_81 : decode cX2_addSwitch 81 = .ok (.iinc 4 1, 3) := by decide +kernel
theorem dX2_addSwitch_84 : decode cX2_addSwitch 84 = .ok (.goto (-24), 3) := by decide +kernel
theorem dX2_addSwitch_87 : decode cX2_addSwitch 87 = .ok (.iconst 0, 1) := by decide +kernel
theorem dX2_addSwitch_88 : decode cX2_addSwitch 88 = .ok (.istore 4, 2) := by decide +kernel
theorem dX2_addSwitch_90 : decode cX2_addSwitch 90 = .ok (.aload_n 0, 1) := by decide +kernel
theorem dX2_addSwitch_91 : decode cX2_addSwitch 91 = .ok (.getfield 169, 3) := by decide +kernel
theorem dX2_addSwitch_94 : decode cX2_addSwitch 94 = .ok (.sipush 171, 3) := by decide +kernel
theorem dX2_addSwitch_97 : decode cX2_addSwitch 97 = .ok (.if_icmp .ne 33, 3) := by decide +kernel
theorem dX2_addSwitch_100 : decode cX2_addSwitch 100 = .ok (.iload 4, 2) := by decide +kernel
theorem dX2_addSwitch_102 : decode cX2_addSwitch 102 = .ok (.iload_n 3, 1) := by decide +kernel
theorem dX2_addSwitch_103 : decode cX2_addSwitch 103 = .ok (.if_icmp .ge 27, 3) := by decide +kernel
theorem dX2_addSwitch_106 : decode cX2_addSwitch 106 = .ok (.aload_n 1, 1) := by decide +kernel
theorem dX2_addSwitch_107 : decode cX2_addSwitch 107 = .ok (.aload_n 0, 1) := by decide +kernel
theorem dX2_addSwitch_108 : decode cX2_addSwitch 108 = .ok (.iload_n 2, 1) := by decide +kernel
theorem dX2_addSwitch_109 : decode cX2_addSwitch 109 = .ok (.bipush 8, 2) := by decide +kernel
theorem dX2_addSwitch_111 : decode cX2_addSwitch 111 = .ok (.iadd, 1) := by decide +kernel
theorem dX2_addSwitch_112 : decode cX2_addSwitch 112 = .ok (.bipush 8, 2) := by decide +kernel
theorem dX2_addSwitch_114 : decode cX2_addSwitch 114 = .ok (.iload 4, 2) := by decide +kernel
theorem dX2_addSwitch_116 : decode cX2_addSwitch 116 = .ok (.imul, 1) := by decide +kernel
theorem dX2_addSwitch_117 : decode cX2_addSwitch 117 = .ok (.iadd, 1) := by decide +kernel
theorem dX2_addSwitch_118 : decode cX2_addSwitch 118 = .ok (.invokevirtual 163, 3) := by decide +kernel
theorem dX2_addSwitch_121 : decode cX2_addSwitch 121 = .ok (.invokevirtual 358, 3) := by decide +kernel
theorem dX2_addSwitch_124 : decode cX2_addSwitch 124 = .ok (.iinc 4 1, 3) := by decide +kernel
theorem dX2_addSwitch_127 : decode cX2_addSwitch 127 = .ok (.goto (-37), 3) := by decide +kernel
theorem dX2_addSwitch_130 : decode cX2_addSwitch 130 = .ok (.return_, 1) := by decide +kernel
theorem dX2_addTo_0 : decode cX2_addTo 0 = .ok (.aload_n 0, 1) := by decide +kernel
theorem dX2_addTo_1 : decode cX2_addTo 1 = .ok (.getfield 169, 3) := by decide +kernel
theorem dX2_addTo_4 : decode cX2_addTo 4 = .ok (.invokestatic 181, 3) := by decide +kernel
theorem dX2_addTo_7 : decode cX2_addTo 7 = .ok (.ifCond .eq 21, 3) := by decide +kernel
theorem dX2_addTo_10 : decode cX2_addTo 10 = .ok (.aload_n 1, 1) := by decide +kernel
theorem dX2_addTo_11 : decode cX2_addTo 11 = .ok (.aload_n 0, 1) := by decide +kernel
theorem dX2_addTo_12 : decode cX2_addTo 12 = .ok (.getfield 169, 3) := by decide +kernel
theorem dX2_addTo_15 : decode cX2_addTo 15 = .ok (.aload_n 0, 1) := by decide +kernel
theorem dX2_addTo_16 : decode cX2_addTo 16 = .ok (.aload_n 0, 1) := by decide +kernel
theorem dX2_addTo_17 : decode cX2_addTo 17 = .ok (.getfield 172, 3) := by decide +kernel
theorem dX2_addTo_20 : decode cX2_addTo 20 = .ok (.invokevirtual 217, 3) := by decide +kernel
theorem dX2_addTo_23 : decode cX2_addTo 23 = .ok (.i2l, 1) := by decide +kernel
theorem dX2_addTo_24 : decode cX2_addTo 24 = .ok (.invokevirtual 346, 3) := by decide +kernel
theorem dX2_addTo_27 : decode cX2_addTo 27 = .ok (.return_, 1) := by decide +kernel
theorem dX2_addTo_28 : decode cX2_addTo 28 = .ok (.aload_n 0, 1) := by decide +kernel
theorem dX2_addTo_29 : decode cX2_addTo 29 = .ok (.getfield 169, 3) := by decide +kernel
theorem dX2_addTo_32 : decode cX2_addTo 32 = .ok (.invokestatic 184, 3) := by decide +kernel
theorem dX2_addTo_35 : decode cX2_addTo 35 = .ok (.ifCond .eq 9, 3) := by decide +kernel
theorem dX2_addTo_38 : decode cX2_addTo 38 = .ok (.aload_n 0, 1) := by decide +kernel
theorem dX2_addTo_39 : decode cX2_addTo 39 = .ok (.aload_n 1, 1) := by decide +kernel
theorem dX2_addTo_40 : decode cX2_addTo 40 = .ok (.invokevirtual 349, 3) := by decide +kernel
theorem dX2_addTo_43 : decode cX2_addTo 43 = .ok (.return_, 1) := by decide +kernel
theorem dX2_addTo_44 : decode cX2_addTo 44 = .ok (.aload_n 0, 1) := by decide +kernel
theorem dX2_addTo_45 : decode cX2_addTo 45 = .ok (.getfield 169, 3) := by decide +kernel
theorem dX2_addTo_48 : decode cX2_addTo 48 = .ok (.lookupswitch 177 #[(9, 60), (19, 73), (20, 104), (178, 131), (179, 131), (184, 154)], 60) := by decide +kernel
theorem dX2_addTo_108 : decode cX2_addTo 108 = .ok (.aload_n 1, 1) := by decide +kernel
theorem dX2_addTo_109 : decode cX2_addTo 109 = .ok (.bipush 20, 2) := by decide +kernel
theorem dX2_addTo_111 : decode cX2_addTo 111 = .ok (.aload_n 0, 1) := by decide +kernel
theorem dX2_addTo_112 : decode cX2_addTo 112 = .ok (.getfield 172, 3) := by decide +kernel
theorem dX2_addTo_115 : decode cX2_addTo 115 = .ok (.invokevirtual 346, 3) := by decide +kernel
theorem dX2_addTo_118 : decode cX2_addTo 118 = .ok (.goto 119, 3) := by decide +kernel
theorem dX2_addTo_121 : decode cX2_addTo 121 = .ok (.aload_n 1, 1) := by decide +kernel
theorem dX2_addTo_122 : decode cX2_addTo 122 = .ok (.bipush 17, 2) := by decide +kernel
theorem dX2_addTo_124 : decode cX2_addTo 124 = .ok (.aload_n 0, 1) := by decide +kernel
theorem dX2_addTo_125 : decode cX2_addTo 125 = .ok (.getfield 12, 3) := by decide +kernel
theorem dX2_addTo_128 : decode cX2_addTo 128 = .ok (.aload_n 0, 1) := by decide +kernel
theorem dX2_addTo_129 : decode cX2_addTo 129 = .ok (.getfield 12, 3) := by decide +kernel
theorem dX2_addTo_132 : decode cX2_addTo 132 = .ok (.aload_n 0, 1) := by decide +kernel

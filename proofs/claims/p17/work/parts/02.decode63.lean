theorem dX6_isJump_33 : decode cX6_isJump 33 = .ok (.ireturn, 1) := by decide +kernel
theorem dX6_isLoad_0 : decode cX6_isLoad 0 = .ok (.iload_n 0, 1) := by decide +kernel
theorem dX6_isLoad_1 : decode cX6_isLoad 1 = .ok (.bipush 21, 2) := by decide +kernel
theorem dX6_isLoad_3 : decode cX6_isLoad 3 = .ok (.if_icmp .eq 15, 3) := by decide +kernel
theorem dX6_isLoad_6 : decode cX6_isLoad 6 = .ok (.iload_n 0, 1) := by decide +kernel
theorem dX6_isLoad_7 : decode cX6_isLoad 7 = .ok (.bipush 22, 2) := by decide +kernel
theorem dX6_isLoad_9 : decode cX6_isLoad 9 = .ok (.if_icmp .eq 9, 3) := by decide +kernel
theorem dX6_isLoad_12 : decode cX6_isLoad 12 = .ok (.iload_n 0, 1) := by decide +kernel
theorem dX6_isLoad_13 : decode cX6_isLoad 13 = .ok (.bipush 25, 2) := by decide +kernel
theorem dX6_isLoad_15 : decode cX6_isLoad 15 = .ok (.if_icmp .ne 7, 3) := by decide +kernel
theorem dX6_isLoad_18 : decode cX6_isLoad 18 = .ok (.iconst 1, 1) := by decide +kernel
theorem dX6_isLoad_19 : decode cX6_isLoad 19 = .ok (.goto 4, 3) := by decide +kernel
theorem dX6_isLoad_22 : decode cX6_isLoad 22 = .ok (.iconst 0, 1) := by decide +kernel
theorem dX6_isLoad_23 : decode cX6_isLoad 23 = .ok (.ireturn, 1) := by decide +kernel
theorem dX6_isShift_0 : decode cX6_isShift 0 = .ok (.iload_n 0, 1) := by decide +kernel
theorem dX6_isShift_1 : decode cX6_isShift 1 = .ok (.bipush 120, 2) := by decide +kernel
theorem dX6_isShift_3 : decode cX6_isShift 3 = .ok (.if_icmp .lt 13, 3) := by decide +kernel
theorem dX6_isShift_6 : decode cX6_isShift 6 = .ok (.iload_n 0, 1) := by decide +kernel
theorem dX6_isShift_7 : decode cX6_isShift 7 = .ok (.bipush 125, 2) := by decide +kernel
theorem dX6_isShift_9 : decode cX6_isShift 9 = .ok (.if_icmp .gt 7, 3) := by decide +kernel
theorem dX6_isShift_12 : decode cX6_isShift 12 = .ok (.iconst 1, 1) := by decide +kernel
theorem dX6_isShift_13 : decode cX6_isShift 13 = .ok (.goto 4, 3) := by decide +kernel
theorem dX6_isShift_16 : decode cX6_isShift 16 = .ok (.iconst 0, 1) := by decide +kernel
theorem dX6_isShift_17 : decode cX6_isShift 17 = .ok (.ireturn, 1) := by decide +kernel
theorem dX6_isStore_0 : decode cX6_isStore 0 = .ok (.iload_n 0, 1) := by decide +kernel
theorem dX6_isStore_1 : decode cX6_isStore 1 = .ok (.bipush 54, 2) := by decide +kernel
theorem dX6_isStore_3 : decode cX6_isStore 3 = .ok (.if_icmp .eq 15, 3) := by decide +kernel
theorem dX6_isStore_6 : decode cX6_isStore 6 = .ok (.iload_n 0, 1) := by decide +kernel
theorem dX6_isStore_7 : decode cX6_isStore 7 = .ok (.bipush 55, 2) := by decide +kernel
theorem dX6_isStore_9 : decode cX6_isStore 9 = .ok (.if_icmp .eq 9, 3) := by decide +kernel
theorem dX6_isStore_12 : decode cX6_isStore 12 = .ok (.iload_n 0, 1) := by decide +kernel
theorem dX6_isStore_13 : decode cX6_isStore 13 = .ok (.bipush 58, 2) := by decide +kernel
theorem dX6_isStore_15 : decode cX6_isStore 15 = .ok (.if_icmp .ne 7, 3) := by decide +kernel
theorem dX6_isStore_18 : decode cX6_isStore 18 = .ok (.iconst 1, 1) := by decide +kernel
theorem dX6_isStore_19 : decode cX6_isStore 19 = .ok (.goto 4, 3) := by decide +kernel
theorem dX6_isStore_22 : decode cX6_isStore 22 = .ok (.iconst 0, 1) := by decide +kernel
theorem dX6_isStore_23 : decode cX6_isStore 23 = .ok (.ireturn, 1) := by decide +kernel
theorem dX6_isSwitch_0 : decode cX6_isSwitch 0 = .ok (.iload_n 0, 1) := by decide +kernel
theorem dX6_isSwitch_1 : decode cX6_isSwitch 1 = .ok (.sipush 170, 3) := by decide +kernel
theorem dX6_isSwitch_4 : decode cX6_isSwitch 4 = .ok (.if_icmp .eq 10, 3) := by decide +kernel
theorem dX6_isSwitch_7 : decode cX6_isSwitch 7 = .ok (.iload_n 0, 1) := by decide +kernel
theorem dX6_isSwitch_8 : decode cX6_isSwitch 8 = .ok (.sipush 171, 3) := by decide +kernel
theorem dX6_isSwitch_11 : decode cX6_isSwitch 11 = .ok (.if_icmp .ne 7, 3) := by decide +kernel
theorem dX6_isSwitch_14 : decode cX6_isSwitch 14 = .ok (.iconst 1, 1) := by decide +kernel
theorem dX6_isSwitch_15 : decode cX6_isSwitch 15 = .ok (.goto 4, 3) := by decide +kernel
theorem dX6_isSwitch_18 : decode cX6_isSwitch 18 = .ok (.iconst 0, 1) := by decide +kernel
theorem dX6_isSwitch_19 : decode cX6_isSwitch 19 = .ok (.ireturn, 1) := by decide +kernel
theorem dX6_isTaken_0 : decode cX6_isTaken 0 = .ok (.iload_n 0, 1) := by decide +kernel
theorem dX6_isTaken_1 : decode cX6_isTaken 1 = .ok (.sipush 159, 3) := by decide +kernel
theorem dX6_isTaken_4 : decode cX6_isTaken 4 = .ok (.if_icmp .ge 11, 3) := by decide +kernel
theorem dX6_isTaken_7 : decode cX6_isTaken 7 = .ok (.iload_n 0, 1) := by decide +kernel
theorem dX6_isTaken_8 : decode cX6_isTaken 8 = .ok (.sipush 153, 3) := by decide +kernel
theorem dX6_isTaken_11 : decode cX6_isTaken 11 = .ok (.isub, 1) := by decide +kernel
theorem dX6_isTaken_12 : decode cX6_isTaken 12 = .ok (.goto 8, 3) := by decide +kernel
theorem dX6_isTaken_15 : decode cX6_isTaken 15 = .ok (.iload_n 0, 1) := by decide +kernel
theorem dX6_isTaken_16 : decode cX6_isTaken 16 = .ok (.sipush 159, 3) := by decide +kernel
theorem dX6_isTaken_19 : decode cX6_isTaken 19 = .ok (.isub, 1) := by decide +kernel
theorem dX6_isTaken_20 : decode cX6_isTaken 20 = .ok (.tableswitch 91 0 4 #[36, 47, 58, 69, 80], 36) := by decide +kernel
theorem dX6_isTaken_56 : decode cX6_isTaken 56 = .ok (.iload_n 1, 1) := by decide +kernel
theorem dX6_isTaken_57 : decode cX6_isTaken 57 = .ok (.iload_n 2, 1) := by decide +kernel
theorem dX6_isTaken_58 : decode cX6_isTaken 58 = .ok (.if_icmp .ne 7, 3) := by decide +kernel
theorem dX6_isTaken_61 : decode cX6_isTaken 61 = .ok (.iconst 1, 1) := by decide +kernel
theorem dX6_isTaken_62 : decode cX6_isTaken 62 = .ok (.goto 4, 3) := by decide +kernel
theorem dX6_isTaken_65 : decode cX6_isTaken 65 = .ok (.iconst 0, 1) := by decide +kernel
theorem dX6_isTaken_66 : decode cX6_isTaken 66 = .ok (.ireturn, 1) := by decide +kernel
theorem dX6_isTaken_67 : decode cX6_isTaken 67 = .ok (.iload_n 1, 1) := by decide +kernel
theorem dX6_isTaken_68 : decode cX6_isTaken 68 = .ok (.iload_n 2, 1) := by decide +kernel
theorem dX6_isTaken_69 : decode cX6_isTaken 69 = .ok (.if_icmp .eq 7, 3) := by decide +kernel
theorem dX6_isTaken_72 : decode cX6_isTaken 72 = .ok (.iconst 1, 1) := by decide +kernel
theorem dX6_isTaken_73 : decode cX6_isTaken 73 = .ok (.goto 4, 3) := by decide +kernel
theorem dX6_isTaken_76 : decode cX6_isTaken 76 = .ok (.iconst 0, 1) := by decide +kernel
theorem dX6_isTaken_77 : decode cX6_isTaken 77 = .ok (.ireturn, 1) := by decide +kernel
theorem dX6_isTaken_78 : decode cX6_isTaken 78 = .ok (.iload_n 1, 1) := by decide +kernel
theorem dX6_isTaken_79 : decode cX6_isTaken 79 = .ok (.iload_n 2, 1) := by decide +kernel
theorem dX6_isTaken_80 : decode cX6_isTaken 80 = .ok (.if_icmp .ge 7, 3) := by decide +kernel
theorem dX6_isTaken_83 : decode cX6_isTaken 83 = .ok (.iconst 1, 1) := by decide +kernel
theorem dX6_isTaken_84 : decode cX6_isTaken 84 = .ok (.goto 4, 3) := by decide +kernel
theorem dX6_isTaken_87 : decode cX6_isTaken 87 = .ok (.iconst 0, 1) := by decide +kernel
theorem dX6_isTaken_88 : decode cX6_isTaken 88 = .ok (.ireturn, 1) := by decide +kernel
theorem dX6_isTaken_89 : decode cX6_isTaken 89 = .ok (.iload_n 1, 1) := by decide +kernel
theorem dX6_isTaken_90 : decode cX6_isTaken 90 = .ok (.iload_n 2, 1) := by decide +kernel
theorem dX6_isTaken_91 : decode cX6_isTaken 91 = .ok (.if_icmp .lt 7, 3) := by decide +kernel
theorem dX6_isTaken_94 : decode cX6_isTaken 94 = .ok (.iconst 1, 1) := by decide +kernel
theorem dX6_isTaken_95 : decode cX6_isTaken 95 = .ok (.goto 4, 3) := by decide +kernel
theorem dX6_isTaken_98 : decode cX6_isTaken 98 = .ok (.iconst 0, 1) := by decide +kernel
theorem dX6_isTaken_99 : decode cX6_isTaken 99 = .ok (.ireturn, 1) := by decide +kernel
theorem dX6_isTaken_100 : decode cX6_isTaken 100 = .ok (.iload_n 1, 1) := by decide +kernel
theorem dX6_isTaken_101 : decode cX6_isTaken 101 = .ok (.iload_n 2, 1) := by decide +kernel
theorem dX6_isTaken_102 : decode cX6_isTaken 102 = .ok (.if_icmp .le 7, 3) := by decide +kernel
theorem dX6_isTaken_105 : decode cX6_isTaken 105 = .ok (.iconst 1, 1) := by decide +kernel
theorem dX6_isTaken_106 : decode cX6_isTaken 106 = .ok (.goto 4, 3) := by decide +kernel
theorem dX6_isTaken_109 : decode cX6_isTaken 109 = .ok (.iconst 0, 1) := by decide +kernel
theorem dX6_isTaken_110 : decode cX6_isTaken 110 = .ok (.ireturn, 1) := by decide +kernel
theorem dX6_isTaken_111 : decode cX6_isTaken 111 = .ok (.iload_n 1, 1) := by decide +kernel
theorem dX6_isTaken_112 : decode cX6_isTaken 112 = .ok (.iload_n 2, 1) := by decide +kernel
theorem dX6_isTaken_113 : decode cX6_isTaken 113 = .ok (.if_icmp .gt 7, 3) := by decide +kernel
theorem dX6_isTaken_116 : decode cX6_isTaken 116 = .ok (.iconst 1, 1) := by decide +kernel
theorem dX6_isTaken_117 : decode cX6_isTaken 117 = .ok (.goto 4, 3) := by decide +kernel
theorem dX6_isTaken_120 : decode cX6_isTaken 120 = .ok (.iconst 0, 1) := by decide +kernel
theorem dX6_isTaken_121 : decode cX6_isTaken 121 = .ok (.ireturn, 1) := by decide +kernel
theorem dX6_isUnary_0 : decode cX6_isUnary 0 = .ok (.iload_n 0, 1) := by decide +kernel
theorem dX6_isUnary_1 : decode cX6_isUnary 1 = .ok (.bipush 116, 2) := by decide +kernel
theorem dX6_isUnary_3 : decode cX6_isUnary 3 = .ok (.if_icmp .eq 37, 3) := by decide +kernel
theorem dX6_isUnary_6 : decode cX6_isUnary 6 = .ok (.iload_n 0, 1) := by decide +kernel
theorem dX6_isUnary_7 : decode cX6_isUnary 7 = .ok (.bipush 117, 2) := by decide +kernel
theorem dX6_isUnary_9 : decode cX6_isUnary 9 = .ok (.if_icmp .eq 31, 3) := by decide +kernel
theorem dX6_isUnary_12 : decode cX6_isUnary 12 = .ok (.iload_n 0, 1) := by decide +kernel
theorem dX6_isUnary_13 : decode cX6_isUnary 13 = .ok (.sipush 133, 3) := by decide +kernel
theorem dX6_isUnary_16 : decode cX6_isUnary 16 = .ok (.if_icmp .eq 24, 3) := by decide +kernel
theorem dX6_isUnary_19 : decode cX6_isUnary 19 = .ok (.iload_n 0, 1) := by decide +kernel
theorem dX6_isUnary_20 : decode cX6_isUnary 20 = .ok (.sipush 136, 3) := by decide +kernel
theorem dX6_isUnary_23 : decode cX6_isUnary 23 = .ok (.if_icmp .eq 17, 3) := by decide +kernel
theorem dX6_isUnary_26 : decode cX6_isUnary 26 = .ok (.iload_n 0, 1) := by decide +kernel
theorem dX6_isUnary_27 : decode cX6_isUnary 27 = .ok (.sipush 145, 3) := by decide +kernel
theorem dX6_isUnary_30 : decode cX6_isUnary 30 = .ok (.if_icmp .lt 14, 3) := by decide +kernel
theorem dX6_isUnary_33 : decode cX6_isUnary 33 = .ok (.iload_n 0, 1) := by decide +kernel
theorem dX6_isUnary_34 : decode cX6_isUnary 34 = .ok (.sipush 147, 3) := by decide +kernel
theorem dX6_isUnary_37 : decode cX6_isUnary 37 = .ok (.if_icmp .gt 7, 3) := by decide +kernel
theorem dX6_isUnary_40 : decode cX6_isUnary 40 = .ok (.iconst 1, 1) := by decide +kernel
theorem dX6_isUnary_41 : decode cX6_isUnary 41 = .ok (.goto 4, 3) := by decide +kernel
theorem dX6_isUnary_44 : decode cX6_isUnary 44 = .ok (.iconst 0, 1) := by decide +kernel
theorem dX6_isUnary_45 : decode cX6_isUnary 45 = .ok (.ireturn, 1) := by decide +kernel
theorem dX6_kindAt_0 : decode cX6_kindAt 0 = .ok (.iload_n 0, 1) := by decide +kernel
theorem dX6_kindAt_1 : decode cX6_kindAt 1 = .ok (.iconst 4, 1) := by decide +kernel
theorem dX6_kindAt_2 : decode cX6_kindAt 2 = .ok (.iload_n 0, 1) := by decide +kernel
theorem dX6_kindAt_3 : decode cX6_kindAt 3 = .ok (.invokestatic 28, 3) := by decide +kernel
theorem dX6_kindAt_6 : decode cX6_kindAt 6 = .ok (.iconst 1, 1) := by decide +kernel
theorem dX6_kindAt_7 : decode cX6_kindAt 7 = .ok (.isub, 1) := by decide +kernel
theorem dX6_kindAt_8 : decode cX6_kindAt 8 = .ok (.iload_n 1, 1) := by decide +kernel
theorem dX6_kindAt_9 : decode cX6_kindAt 9 = .ok (.isub, 1) := by decide +kernel
theorem dX6_kindAt_10 : decode cX6_kindAt 10 = .ok (.imul, 1) := by decide +kernel
theorem dX6_kindAt_11 : decode cX6_kindAt 11 = .ok (.ishr, 1) := by decide +kernel
theorem dX6_kindAt_12 : decode cX6_kindAt 12 = .ok (.bipush 15, 2) := by decide +kernel
theorem dX6_kindAt_14 : decode cX6_kindAt 14 = .ok (.iand, 1) := by decide +kernel
theorem dX6_kindAt_15 : decode cX6_kindAt 15 = .ok (.ireturn, 1) := by decide +kernel
theorem dX6_kindCount_0 : decode cX6_kindCount 0 = .ok (.iconst 0, 1) := by decide +kernel
theorem dX6_kindCount_1 : decode cX6_kindCount 1 = .ok (.istore_n 1, 1) := by decide +kernel
theorem dX6_kindCount_2 : decode cX6_kindCount 2 = .ok (.iload_n 0, 1) := by decide +kernel
theorem dX6_kindCount_3 : decode cX6_kindCount 3 = .ok (.istore_n 2, 1) := by decide +kernel
theorem dX6_kindCount_4 : decode cX6_kindCount 4 = .ok (.iload_n 2, 1) := by decide +kernel
theorem dX6_kindCount_5 : decode cX6_kindCount 5 = .ok (.ifCond .le 13, 3) := by decide +kernel
theorem dX6_kindCount_8 : decode cX6_kindCount 8 = .ok (.iinc 1 1, 3) := by decide +kernel
theorem dX6_kindCount_11 : decode cX6_kindCount 11 = .ok (.iload_n 2, 1) := by decide +kernel
theorem dX6_kindCount_12 : decode cX6_kindCount 12 = .ok (.iconst 4, 1) := by decide +kernel
theorem dX6_kindCount_13 : decode cX6_kindCount 13 = .ok (.ishr, 1) := by decide +kernel
theorem dX6_kindCount_14 : decode cX6_kindCount 14 = .ok (.istore_n 2, 1) := by decide +kernel
theorem dX6_kindCount_15 : decode cX6_kindCount 15 = .ok (.goto (-11), 3) := by decide +kernel
theorem dX6_kindCount_18 : decode cX6_kindCount 18 = .ok (.iload_n 1, 1) := by decide +kernel
theorem dX6_kindCount_19 : decode cX6_kindCount 19 = .ok (.ireturn, 1) := by decide +kernel
theorem dX6_lengthOf_0 : decode cX6_lengthOf 0 = .ok (.iload_n 0, 1) := by decide +kernel

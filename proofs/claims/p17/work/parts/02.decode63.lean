theorem dX6_goesOn_11 : decode cX6_goesOn 11 = .ok (.if_icmp .eq 21, 3) := by decide +kernel
theorem dX6_goesOn_14 : decode cX6_goesOn 14 = .ok (.iload_n 0, 1) := by decide +kernel
theorem dX6_goesOn_15 : decode cX6_goesOn 15 = .ok (.sipush 170, 3) := by decide +kernel
theorem dX6_goesOn_18 : decode cX6_goesOn 18 = .ok (.if_icmp .lt 10, 3) := by decide +kernel
theorem dX6_goesOn_21 : decode cX6_goesOn 21 = .ok (.iload_n 0, 1) := by decide +kernel
theorem dX6_goesOn_22 : decode cX6_goesOn 22 = .ok (.sipush 177, 3) := by decide +kernel
theorem dX6_goesOn_25 : decode cX6_goesOn 25 = .ok (.if_icmp .le 7, 3) := by decide +kernel
theorem dX6_goesOn_28 : decode cX6_goesOn 28 = .ok (.iconst 1, 1) := by decide +kernel
theorem dX6_goesOn_29 : decode cX6_goesOn 29 = .ok (.goto 4, 3) := by decide +kernel
theorem dX6_goesOn_32 : decode cX6_goesOn 32 = .ok (.iconst 0, 1) := by decide +kernel
theorem dX6_goesOn_33 : decode cX6_goesOn 33 = .ok (.ireturn, 1) := by decide +kernel
theorem dX6_isBinary_0 : decode cX6_isBinary 0 = .ok (.iload_n 0, 1) := by decide +kernel
theorem dX6_isBinary_1 : decode cX6_isBinary 1 = .ok (.bipush 96, 2) := by decide +kernel
theorem dX6_isBinary_3 : decode cX6_isBinary 3 = .ok (.if_icmp .lt 15, 3) := by decide +kernel
theorem dX6_isBinary_6 : decode cX6_isBinary 6 = .ok (.iload_n 0, 1) := by decide +kernel
theorem dX6_isBinary_7 : decode cX6_isBinary 7 = .ok (.bipush 113, 2) := by decide +kernel
theorem dX6_isBinary_9 : decode cX6_isBinary 9 = .ok (.if_icmp .gt 9, 3) := by decide +kernel
theorem dX6_isBinary_12 : decode cX6_isBinary 12 = .ok (.iload_n 0, 1) := by decide +kernel
theorem dX6_isBinary_13 : decode cX6_isBinary 13 = .ok (.iconst 2, 1) := by decide +kernel
theorem dX6_isBinary_14 : decode cX6_isBinary 14 = .ok (.iand, 1) := by decide +kernel
theorem dX6_isBinary_15 : decode cX6_isBinary 15 = .ok (.ifCond .eq 23, 3) := by decide +kernel
theorem dX6_isBinary_18 : decode cX6_isBinary 18 = .ok (.iload_n 0, 1) := by decide +kernel
theorem dX6_isBinary_19 : decode cX6_isBinary 19 = .ok (.bipush 120, 2) := by decide +kernel
theorem dX6_isBinary_21 : decode cX6_isBinary 21 = .ok (.if_icmp .lt 10, 3) := by decide +kernel
theorem dX6_isBinary_24 : decode cX6_isBinary 24 = .ok (.iload_n 0, 1) := by decide +kernel
theorem dX6_isBinary_25 : decode cX6_isBinary 25 = .ok (.sipush 131, 3) := by decide +kernel
theorem dX6_isBinary_28 : decode cX6_isBinary 28 = .ok (.if_icmp .le 10, 3) := by decide +kernel
theorem dX6_isBinary_31 : decode cX6_isBinary 31 = .ok (.iload_n 0, 1) := by decide +kernel
theorem dX6_isBinary_32 : decode cX6_isBinary 32 = .ok (.sipush 148, 3) := by decide +kernel
theorem dX6_isBinary_35 : decode cX6_isBinary 35 = .ok (.if_icmp .ne 7, 3) := by decide +kernel
theorem dX6_isBinary_38 : decode cX6_isBinary 38 = .ok (.iconst 1, 1) := by decide +kernel
theorem dX6_isBinary_39 : decode cX6_isBinary 39 = .ok (.goto 4, 3) := by decide +kernel
theorem dX6_isBinary_42 : decode cX6_isBinary 42 = .ok (.iconst 0, 1) := by decide +kernel
theorem dX6_isBinary_43 : decode cX6_isBinary 43 = .ok (.ireturn, 1) := by decide +kernel
theorem dX6_isDivision_0 : decode cX6_isDivision 0 = .ok (.iload_n 0, 1) := by decide +kernel
theorem dX6_isDivision_1 : decode cX6_isDivision 1 = .ok (.bipush 108, 2) := by decide +kernel
theorem dX6_isDivision_3 : decode cX6_isDivision 3 = .ok (.if_icmp .eq 21, 3) := by decide +kernel
theorem dX6_isDivision_6 : decode cX6_isDivision 6 = .ok (.iload_n 0, 1) := by decide +kernel
theorem dX6_isDivision_7 : decode cX6_isDivision 7 = .ok (.bipush 109, 2) := by decide +kernel
theorem dX6_isDivision_9 : decode cX6_isDivision 9 = .ok (.if_icmp .eq 15, 3) := by decide +kernel
theorem dX6_isDivision_12 : decode cX6_isDivision 12 = .ok (.iload_n 0, 1) := by decide +kernel
theorem dX6_isDivision_13 : decode cX6_isDivision 13 = .ok (.bipush 112, 2) := by decide +kernel
theorem dX6_isDivision_15 : decode cX6_isDivision 15 = .ok (.if_icmp .eq 9, 3) := by decide +kernel
theorem dX6_isDivision_18 : decode cX6_isDivision 18 = .ok (.iload_n 0, 1) := by decide +kernel
theorem dX6_isDivision_19 : decode cX6_isDivision 19 = .ok (.bipush 113, 2) := by decide +kernel
theorem dX6_isDivision_21 : decode cX6_isDivision 21 = .ok (.if_icmp .ne 7, 3) := by decide +kernel
theorem dX6_isDivision_24 : decode cX6_isDivision 24 = .ok (.iconst 1, 1) := by decide +kernel
theorem dX6_isDivision_25 : decode cX6_isDivision 25 = .ok (.goto 4, 3) := by decide +kernel
theorem dX6_isDivision_28 : decode cX6_isDivision 28 = .ok (.iconst 0, 1) := by decide +kernel
theorem dX6_isDivision_29 : decode cX6_isDivision 29 = .ok (.ireturn, 1) := by decide +kernel
theorem dX6_isJump_0 : decode cX6_isJump 0 = .ok (.iload_n 0, 1) := by decide +kernel
theorem dX6_isJump_1 : decode cX6_isJump 1 = .ok (.sipush 153, 3) := by decide +kernel
theorem dX6_isJump_4 : decode cX6_isJump 4 = .ok (.if_icmp .lt 10, 3) := by decide +kernel
theorem dX6_isJump_7 : decode cX6_isJump 7 = .ok (.iload_n 0, 1) := by decide +kernel
theorem dX6_isJump_8 : decode cX6_isJump 8 = .ok (.sipush 167, 3) := by decide +kernel
theorem dX6_isJump_11 : decode cX6_isJump 11 = .ok (.if_icmp .le 17, 3) := by decide +kernel
theorem dX6_isJump_14 : decode cX6_isJump 14 = .ok (.iload_n 0, 1) := by decide +kernel
theorem dX6_isJump_15 : decode cX6_isJump 15 = .ok (.sipush 198, 3) := by decide +kernel
theorem dX6_isJump_18 : decode cX6_isJump 18 = .ok (.if_icmp .eq 10, 3) := by decide +kernel
theorem dX6_isJump_21 : decode cX6_isJump 21 = .ok (.iload_n 0, 1) := by decide +kernel
theorem dX6_isJump_22 : decode cX6_isJump 22 = .ok (.sipush 199, 3) := by decide +kernel
theorem dX6_isJump_25 : decode cX6_isJump 25 = .ok (.if_icmp .ne 7, 3) := by decide +kernel
theorem dX6_isJump_28 : decode cX6_isJump 28 = .ok (.iconst 1, 1) := by decide +kernel
theorem dX6_isJump_29 : decode cX6_isJump 29 = .ok (.goto 4, 3) := by decide +kernel
theorem dX6_isJump_32 : decode cX6_isJump 32 = .ok (.iconst 0, 1) := by decide +kernel
theorem dX6_isJump_33 : decode cX6_isJump 33 = .ok (.ireturn, 1) := by decide +kernel
theorem dX6_isLoad_0 : decode cX6_isLoad 0 = .ok (.iload_n 0, 1) := by decide +kernel
theorem dX6_isLoad_1 : decode cX6_isLoad 1 = .ok (.bipush 21, 2) := by decide +kernel
theorem dX6_isLoad_3 : decode cX6_isLoad 3 = .ok (.if_icmp .eq 15, 3) := by decide +kernel
theorem dX6_isLoad_6 : decode cX6_isLoad 6 = .ok (.iload_n 0, 1) := by decide +kernel
theorem dX6_isLoad_7 : decode cX6_isLoad 7 = .ok (.bipush 22, 2) := by decide +kernel
theorem dX6_isLoad_9 : decode cX6_isLoad 9 = .ok (.if_icmp .eq 9, 3) := by decide +kernel
theorem dX6_isLoad_12 : decode cX6_isLoad 12 = .ok (.iload_n 0, 1) := by decide +kernel
theorem dX6_isLoad_13 : decode cX6_isLoad 13 = .ok (.bipush 25, 2) := by decide +kernel
theorem dX6_isLoad_15 : decode cX6_isLoad 15 = .ok (.if_icmp .ne 7, 3) := by decide +kernel
theorem dX6_isLoad_18 : decode cX6_isLoad 18 = .ok (.iconst 1, 1) := by decide +kernel
theorem dX6_isLoad_19 : decode cX6_isLoad 19 = .ok (.goto 4, 3) := by decide +kernel
theorem dX6_isLoad_22 : decode cX6_isLoad 22 = .ok (.iconst 0, 1) := by decide +kernel
theorem dX6_isLoad_23 : decode cX6_isLoad 23 = .ok (.ireturn, 1) := by decide +kernel
theorem dX6_isShift_0 : decode cX6_isShift 0 = .ok (.iload_n 0, 1) := by decide +kernel
theorem dX6_isShift_1 : decode cX6_isShift 1 = .ok (.bipush 120, 2) := by decide +kernel
theorem dX6_isShift_3 : decode cX6_isShift 3 = .ok (.if_icmp .lt 13, 3) := by decide +kernel
theorem dX6_isShift_6 : decode cX6_isShift 6 = .ok (.iload_n 0, 1) := by decide +kernel
theorem dX6_isShift_7 : decode cX6_isShift 7 = .ok (.bipush 125, 2) := by decide +kernel
theorem dX6_isShift_9 : decode cX6_isShift 9 = .ok (.if_icmp .gt 7, 3) := by decide +kernel
theorem dX6_isShift_12 : decode cX6_isShift 12 = .ok (.iconst 1, 1) := by decide +kernel
theorem dX6_isShift_13 : decode cX6_isShift 13 = .ok (.goto 4, 3) := by decide +kernel
theorem dX6_isShift_16 : decode cX6_isShift 16 = .ok (.iconst 0, 1) := by decide +kernel
theorem dX6_isShift_17 : decode cX6_isShift 17 = .ok (.ireturn, 1) := by decide +kernel
theorem dX6_isStore_0 : decode cX6_isStore 0 = .ok (.iload_n 0, 1) := by decide +kernel
theorem dX6_isStore_1 : decode cX6_isStore 1 = .ok (.bipush 54, 2) := by decide +kernel
theorem dX6_isStore_3 : decode cX6_isStore 3 = .ok (.if_icmp .eq 15, 3) := by decide +kernel
theorem dX6_isStore_6 : decode cX6_isStore 6 = .ok (.iload_n 0, 1) := by decide +kernel
theorem dX6_isStore_7 : decode cX6_isStore 7 = .ok (.bipush 55, 2) := by decide +kernel
theorem dX6_isStore_9 : decode cX6_isStore 9 = .ok (.if_icmp .eq 9, 3) := by decide +kernel
theorem dX6_isStore_12 : decode cX6_isStore 12 = .ok (.iload_n 0, 1) := by decide +kernel
theorem dX6_isStore_13 : decode cX6_isStore 13 = .ok (.bipush 58, 2) := by decide +kernel
theorem dX6_isStore_15 : decode cX6_isStore 15 = .ok (.if_icmp .ne 7, 3) := by decide +kernel
theorem dX6_isStore_18 : decode cX6_isStore 18 = .ok (.iconst 1, 1) := by decide +kernel
theorem dX6_isStore_19 : decode cX6_isStore 19 = .ok (.goto 4, 3) := by decide +kernel
theorem dX6_isStore_22 : decode cX6_isStore 22 = .ok (.iconst 0, 1) := by decide +kernel
theorem dX6_isStore_23 : decode cX6_isStore 23 = .ok (.ireturn, 1) := by decide +kernel
theorem dX6_isSwitch_0 : decode cX6_isSwitch 0 = .ok (.iload_n 0, 1) := by decide +kernel
theorem dX6_isSwitch_1 : decode cX6_isSwitch 1 = .ok (.sipush 170, 3) := by decide +kernel
theorem dX6_isSwitch_4 : decode cX6_isSwitch 4 = .ok (.if_icmp .eq 10, 3) := by decide +kernel
theorem dX6_isSwitch_7 : decode cX6_isSwitch 7 = .ok (.iload_n 0, 1) := by decide +kernel
theorem dX6_isSwitch_8 : decode cX6_isSwitch 8 = .ok (.sipush 171, 3) := by decide +kernel
theorem dX6_isSwitch_11 : decode cX6_isSwitch 11 = .ok (.if_icmp .ne 7, 3) := by decide +kernel
theorem dX6_isSwitch_14 : decode cX6_isSwitch 14 = .ok (.iconst 1, 1) := by decide +kernel
theorem dX6_isSwitch_15 : decode cX6_isSwitch 15 = .ok (.goto 4, 3) := by decide +kernel
theorem dX6_isSwitch_18 : decode cX6_isSwitch 18 = .ok (.iconst 0, 1) := by decide +kernel
theorem dX6_isSwitch_19 : decode cX6_isSwitch 19 = .ok (.ireturn, 1) := by decide +kernel
theorem dX6_isTaken_0 : decode cX6_isTaken 0 = .ok (.iload_n 0, 1) := by decide +kernel
theorem dX6_isTaken_1 : decode cX6_isTaken 1 = .ok (.sipush 159, 3) := by decide +kernel
theorem dX6_isTaken_4 : decode cX6_isTaken 4 = .ok (.if_icmp .ge 11, 3) := by decide +kernel
theorem dX6_isTaken_7 : decode cX6_isTaken 7 = .ok (.iload_n 0, 1) := by decide +kernel
theorem dX6_isTaken_8 : decode cX6_isTaken 8 = .ok (.sipush 153, 3) := by decide +kernel
theorem dX6_isTaken_11 : decode cX6_isTaken 11 = .ok (.isub, 1) := by decide +kernel
theorem dX6_isTaken_12 : decode cX6_isTaken 12 = .ok (.goto 8, 3) := by decide +kernel
theorem dX6_isTaken_15 : decode cX6_isTaken 15 = .ok (.iload_n 0, 1) := by decide +kernel
theorem dX6_isTaken_16 : decode cX6_isTaken 16 = .ok (.sipush 159, 3) := by decide +kernel
theorem dX6_isTaken_19 : decode cX6_isTaken 19 = .ok (.isub, 1) := by decide +kernel
theorem dX6_isTaken_20 : decode cX6_isTaken 20 = .ok (.tableswitch 91 0 4 #[36, 47, 58, 69, 80], 36) := by decide +kernel
theorem dX6_isTaken_56 : decode cX6_isTaken 56 = .ok (.iload_n 1, 1) := by decide +kernel
theorem dX6_isTaken_57 : decode cX6_isTaken 57 = .ok (.iload_n 2, 1) := by decide +kernel
theorem dX6_isTaken_58 : decode cX6_isTaken 58 = .ok (.if_icmp .ne 7, 3) := by decide +kernel
theorem dX6_isTaken_61 : decode cX6_isTaken 61 = .ok (.iconst 1, 1) := by decide +kernel
theorem dX6_isTaken_62 : decode cX6_isTaken 62 = .ok (.goto 4, 3) := by decide +kernel
theorem dX6_isTaken_65 : decode cX6_isTaken 65 = .ok (.iconst 0, 1) := by decide +kernel
theorem dX6_isTaken_66 : decode cX6_isTaken 66 = .ok (.ireturn, 1) := by decide +kernel
theorem dX6_isTaken_67 : decode cX6_isTaken 67 = .ok (.iload_n 1, 1) := by decide +kernel
theorem dX6_isTaken_68 : decode cX6_isTaken 68 = .ok (.iload_n 2, 1) := by decide +kernel
theorem dX6_isTaken_69 : decode cX6_isTaken 69 = .ok (.if_icmp .eq 7, 3) := by decide +kernel
theorem dX6_isTaken_72 : decode cX6_isTaken 72 = .ok (.iconst 1, 1) := by decide +kernel
theorem dX6_isTaken_73 : decode cX6_isTaken 73 = .ok (.goto 4, 3) := by decide +kernel
theorem dX6_isTaken_76 : decode cX6_isTaken 76 = .ok (.iconst 0, 1) := by decide +kernel
theorem dX6_isTaken_77 : decode cX6_isTaken 77 = .ok (.ireturn, 1) := by decide +kernel
theorem dX6_isTaken_78 : decode cX6_isTaken 78 = .ok (.iload_n 1, 1) := by decide +kernel
theorem dX6_isTaken_79 : decode cX6_isTaken 79 = .ok (.iload_n 2, 1) := by decide +kernel
theorem dX6_isTaken_80 : decode cX6_isTaken 80 = .ok (.if_icmp .ge 7, 3) := by decide +kernel
theorem dX6_isTaken_83 : decode cX6_isTaken 83 = .ok (.iconst 1, 1) := by decide +kernel
theorem dX6_isTaken_84 : decode cX6_isTaken 84 = .ok (.goto 4, 3) := by decide +kernel
theorem dX6_isTaken_87 : decode cX6_isTaken 87 = .ok (.iconst 0, 1) := by decide +kernel
theorem dX6_isTaken_88 : decode cX6_isTaken 88 = .ok (.ireturn, 1) := by decide +kernel
theorem dX6_isTaken_89 : decode cX6_isTaken 89 = .ok (.iload_n 1, 1) := by decide +kernel
theorem dX6_isTaken_90 : decode cX6_isTaken 90 = .ok (.iload_n 2, 1) := by decide +kernel
theorem dX6_isTaken_91 : decode cX6_isTaken 91 = .ok (.if_icmp .lt 7, 3) := by decide +kernel
theorem dX6_isTaken_94 : decode cX6_isTaken 94 = .ok (.iconst 1, 1) := by decide +kernel
theorem dX6_isTaken_95 : decode cX6_isTaken 95 = .ok (.goto 4, 3) := by decide +kernel
theorem dX6_isTaken_98 : decode cX6_isTaken 98 = .ok (.iconst 0, 1) := by decide +kernel

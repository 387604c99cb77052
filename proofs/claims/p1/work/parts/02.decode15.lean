theorem dX7_init_22 : decode cX7_init 22 = .ok (.putfield 19, 3) := by decide +kernel
theorem dX7_init_25 : decode cX7_init 25 = .ok (.aload_n 0, 1) := by decide +kernel
theorem dX7_init_26 : decode cX7_init 26 = .ok (.bipush 48, 2) := by decide +kernel
theorem dX7_init_28 : decode cX7_init 28 = .ok (.newarray .int, 2) := by decide +kernel
theorem dX7_init_30 : decode cX7_init 30 = .ok (.putfield 23, 3) := by decide +kernel
theorem dX7_init_33 : decode cX7_init 33 = .ok (.aload_n 0, 1) := by decide +kernel
theorem dX7_init_34 : decode cX7_init 34 = .ok (.bipush 24, 2) := by decide +kernel
theorem dX7_init_36 : decode cX7_init 36 = .ok (.newarray .int, 2) := by decide +kernel
theorem dX7_init_38 : decode cX7_init 38 = .ok (.putfield 26, 3) := by decide +kernel
theorem dX7_init_41 : decode cX7_init 41 = .ok (.aload_n 0, 1) := by decide +kernel
theorem dX7_init_42 : decode cX7_init 42 = .ok (.bipush 24, 2) := by decide +kernel
theorem dX7_init_44 : decode cX7_init 44 = .ok (.newarray .int, 2) := by decide +kernel
theorem dX7_init_46 : decode cX7_init 46 = .ok (.putfield 29, 3) := by decide +kernel
theorem dX7_init_49 : decode cX7_init 49 = .ok (.return_, 1) := by decide +kernel
theorem dX7_isSound_0 : decode cX7_isSound 0 = .ok (.aload_n 0, 1) := by decide +kernel
theorem dX7_isSound_1 : decode cX7_isSound 1 = .ok (.aload_n 1, 1) := by decide +kernel
theorem dX7_isSound_2 : decode cX7_isSound 2 = .ok (.getfield 32, 3) := by decide +kernel
theorem dX7_isSound_5 : decode cX7_isSound 5 = .ok (.putfield 9, 3) := by decide +kernel
theorem dX7_isSound_8 : decode cX7_isSound 8 = .ok (.aload_n 0, 1) := by decide +kernel
theorem dX7_isSound_9 : decode cX7_isSound 9 = .ok (.aload_n 1, 1) := by decide +kernel
theorem dX7_isSound_10 : decode cX7_isSound 10 = .ok (.getfield 35, 3) := by decide +kernel
theorem dX7_isSound_13 : decode cX7_isSound 13 = .ok (.putfield 38, 3) := by decide +kernel
theorem dX7_isSound_16 : decode cX7_isSound 16 = .ok (.aload_n 0, 1) := by decide +kernel
theorem dX7_isSound_17 : decode cX7_isSound 17 = .ok (.iconst 0, 1) := by decide +kernel
theorem dX7_isSound_18 : decode cX7_isSound 18 = .ok (.putfield 41, 3) := by decide +kernel
theorem dX7_isSound_21 : decode cX7_isSound 21 = .ok (.aload_n 0, 1) := by decide +kernel
theorem dX7_isSound_22 : decode cX7_isSound 22 = .ok (.iconst (-1), 1) := by decide +kernel
theorem dX7_isSound_23 : decode cX7_isSound 23 = .ok (.putfield 15, 3) := by decide +kernel
theorem dX7_isSound_26 : decode cX7_isSound 26 = .ok (.aload_n 0, 1) := by decide +kernel
theorem dX7_isSound_27 : decode cX7_isSound 27 = .ok (.iconst 0, 1) := by decide +kernel
theorem dX7_isSound_28 : decode cX7_isSound 28 = .ok (.putfield 44, 3) := by decide +kernel
theorem dX7_isSound_31 : decode cX7_isSound 31 = .ok (.aload_n 0, 1) := by decide +kernel
theorem dX7_isSound_32 : decode cX7_isSound 32 = .ok (.invokevirtual 47, 3) := by decide +kernel
theorem dX7_isSound_35 : decode cX7_isSound 35 = .ok (.ifCond .eq 115, 3) := by decide +kernel
theorem dX7_isSound_150 : decode cX7_isSound 150 = .ok (.iconst 0, 1) := by decide +kernel
theorem dX7_isSound_151 : decode cX7_isSound 151 = .ok (.ireturn, 1) := by decide +kernel
theorem dX7_magicHolds_0 : decode cX7_magicHolds 0 = .ok (.iconst 0, 1) := by decide +kernel
theorem dX7_magicHolds_1 : decode cX7_magicHolds 1 = .ok (.istore_n 1, 1) := by decide +kernel
theorem dX7_magicHolds_2 : decode cX7_magicHolds 2 = .ok (.iload_n 1, 1) := by decide +kernel
theorem dX7_magicHolds_3 : decode cX7_magicHolds 3 = .ok (.getstatic 97, 3) := by decide +kernel
theorem dX7_magicHolds_6 : decode cX7_magicHolds 6 = .ok (.arraylength, 1) := by decide +kernel
theorem dX7_magicHolds_7 : decode cX7_magicHolds 7 = .ok (.if_icmp .ge 47, 3) := by decide +kernel
theorem dX7_magicHolds_10 : decode cX7_magicHolds 10 = .ok (.iload_n 1, 1) := by decide +kernel
theorem dX7_magicHolds_11 : decode cX7_magicHolds 11 = .ok (.aload_n 0, 1) := by decide +kernel
theorem dX7_magicHolds_12 : decode cX7_magicHolds 12 = .ok (.getfield 38, 3) := by decide +kernel
theorem dX7_magicHolds_15 : decode cX7_magicHolds 15 = .ok (.if_icmp .lt 13, 3) := by decide +kernel
theorem dX7_magicHolds_18 : decode cX7_magicHolds 18 = .ok (.aload_n 0, 1) := by decide +kernel
theorem dX7_magicHolds_19 : decode cX7_magicHolds 19 = .ok (.iconst 2, 1) := by decide +kernel
theorem dX7_magicHolds_20 : decode cX7_magicHolds 20 = .ok (.aload_n 0, 1) := by decide +kernel
theorem dX7_magicHolds_21 : decode cX7_magicHolds 21 = .ok (.getfield 38, 3) := by decide +kernel
theorem dX7_magicHolds_24 : decode cX7_magicHolds 24 = .ok (.invokevirtual 87, 3) := by decide +kernel
theorem dX7_magicHolds_27 : decode cX7_magicHolds 27 = .ok (.ireturn, 1) := by decide +kernel
theorem dX8_init_0 : decode cX8_init 0 = .ok (.aload_n 0, 1) := by decide +kernel
theorem dX8_init_1 : decode cX8_init 1 = .ok (.invokespecial 3, 3) := by decide +kernel
theorem dX8_init_4 : decode cX8_init 4 = .ok (.aload_n 0, 1) := by decide +kernel
theorem dX8_init_5 : decode cX8_init 5 = .ok (.iload_n 1, 1) := by decide +kernel
theorem dX8_init_6 : decode cX8_init 6 = .ok (.newarray .int, 2) := by decide +kernel
theorem dX8_init_8 : decode cX8_init 8 = .ok (.putfield 9, 3) := by decide +kernel
theorem dX8_init_11 : decode cX8_init 11 = .ok (.aload_n 0, 1) := by decide +kernel
theorem dX8_init_12 : decode cX8_init 12 = .ok (.iload_n 1, 1) := by decide +kernel
theorem dX8_init_13 : decode cX8_init 13 = .ok (.newarray .long, 2) := by decide +kernel
theorem dX8_init_15 : decode cX8_init 15 = .ok (.putfield 15, 3) := by decide +kernel
theorem dX8_init_18 : decode cX8_init 18 = .ok (.aload_n 0, 1) := by decide +kernel
theorem dX8_init_19 : decode cX8_init 19 = .ok (.iload_n 2, 1) := by decide +kernel
theorem dX8_init_20 : decode cX8_init 20 = .ok (.newarray .int, 2) := by decide +kernel
theorem dX8_init_22 : decode cX8_init 22 = .ok (.putfield 19, 3) := by decide +kernel
theorem dX8_init_25 : decode cX8_init 25 = .ok (.aload_n 0, 1) := by decide +kernel
theorem dX8_init_26 : decode cX8_init 26 = .ok (.iload_n 3, 1) := by decide +kernel
theorem dX8_init_27 : decode cX8_init 27 = .ok (.newarray .int, 2) := by decide +kernel
theorem dX8_init_29 : decode cX8_init 29 = .ok (.putfield 22, 3) := by decide +kernel
theorem dX8_init_32 : decode cX8_init 32 = .ok (.aload_n 0, 1) := by decide +kernel
theorem dX8_init_33 : decode cX8_init 33 = .ok (.iload_n 3, 1) := by decide +kernel
theorem dX8_init_34 : decode cX8_init 34 = .ok (.newarray .int, 2) := by decide +kernel
theorem dX8_init_36 : decode cX8_init 36 = .ok (.putfield 25, 3) := by decide +kernel
theorem dX8_init_39 : decode cX8_init 39 = .ok (.aload_n 0, 1) := by decide +kernel
theorem dX8_init_40 : decode cX8_init 40 = .ok (.iload_n 3, 1) := by decide +kernel
theorem dX8_init_41 : decode cX8_init 41 = .ok (.newarray .int, 2) := by decide +kernel
theorem dX8_init_43 : decode cX8_init 43 = .ok (.putfield 28, 3) := by decide +kernel
theorem dX8_init_46 : decode cX8_init 46 = .ok (.aload_n 0, 1) := by decide +kernel
theorem dX8_init_47 : decode cX8_init 47 = .ok (.iload_n 3, 1) := by decide +kernel
theorem dX8_init_48 : decode cX8_init 48 = .ok (.newarray .int, 2) := by decide +kernel
theorem dX8_init_50 : decode cX8_init 50 = .ok (.putfield 31, 3) := by decide +kernel
theorem dX8_init_53 : decode cX8_init 53 = .ok (.return_, 1) := by decide +kernel
theorem dX9_appliedAt_0 : decode cX9_appliedAt 0 = .ok (.iload_n 1, 1) := by decide +kernel
theorem dX9_appliedAt_1 : decode cX9_appliedAt 1 = .ok (.ifCond .lt 12, 3) := by decide +kernel
theorem dX9_appliedAt_4 : decode cX9_appliedAt 4 = .ok (.iload_n 1, 1) := by decide +kernel
theorem dX9_appliedAt_5 : decode cX9_appliedAt 5 = .ok (.aload_n 0, 1) := by decide +kernel
theorem dX9_appliedAt_6 : decode cX9_appliedAt 6 = .ok (.getfield 20, 3) := by decide +kernel
theorem dX9_appliedAt_9 : decode cX9_appliedAt 9 = .ok (.arraylength, 1) := by decide +kernel
theorem dX9_appliedAt_10 : decode cX9_appliedAt 10 = .ok (.if_icmp .lt 7, 3) := by decide +kernel
theorem dX9_appliedAt_13 : decode cX9_appliedAt 13 = .ok (.iconst 0, 1) := by decide +kernel
theorem dX9_appliedAt_14 : decode cX9_appliedAt 14 = .ok (.goto 9, 3) := by decide +kernel
theorem dX9_appliedAt_17 : decode cX9_appliedAt 17 = .ok (.aload_n 0, 1) := by decide +kernel
theorem dX9_appliedAt_18 : decode cX9_appliedAt 18 = .ok (.getfield 20, 3) := by decide +kernel
theorem dX9_appliedAt_21 : decode cX9_appliedAt 21 = .ok (.iload_n 1, 1) := by decide +kernel
theorem dX9_appliedAt_22 : decode cX9_appliedAt 22 = .ok (.iaload, 1) := by decide +kernel
theorem dX9_appliedAt_23 : decode cX9_appliedAt 23 = .ok (.ireturn, 1) := by decide +kernel
theorem dX9_forgetApplied_0 : decode cX9_forgetApplied 0 = .ok (.aload_n 0, 1) := by decide +kernel
theorem dX9_forgetApplied_1 : decode cX9_forgetApplied 1 = .ok (.getfield 20, 3) := by decide +kernel
theorem dX9_forgetApplied_4 : decode cX9_forgetApplied 4 = .ok (.iconst 0, 1) := by decide +kernel
theorem dX9_forgetApplied_5 : decode cX9_forgetApplied 5 = .ok (.invokestatic 37, 3) := by decide +kernel
theorem dX9_forgetApplied_8 : decode cX9_forgetApplied 8 = .ok (.return_, 1) := by decide +kernel
theorem dX9_init_0 : decode cX9_init 0 = .ok (.aload_n 0, 1) := by decide +kernel
theorem dX9_init_1 : decode cX9_init 1 = .ok (.invokespecial 3, 3) := by decide +kernel
theorem dX9_init_4 : decode cX9_init 4 = .ok (.aload_n 0, 1) := by decide +kernel
theorem dX9_init_5 : decode cX9_init 5 = .ok (.new 9, 3) := by decide +kernel
theorem dX9_init_8 : decode cX9_init 8 = .ok (.dup, 1) := by decide +kernel
theorem dX9_init_9 : decode cX9_init 9 = .ok (.iconst 0, 1) := by decide +kernel
theorem dX9_init_10 : decode cX9_init 10 = .ok (.iconst 0, 1) := by decide +kernel
theorem dX9_init_11 : decode cX9_init 11 = .ok (.iconst 0, 1) := by decide +kernel
theorem dX9_init_12 : decode cX9_init 12 = .ok (.invokespecial 11, 3) := by decide +kernel
theorem dX9_init_15 : decode cX9_init 15 = .ok (.putfield 14, 3) := by decide +kernel
theorem dX9_init_18 : decode cX9_init 18 = .ok (.aload_n 0, 1) := by decide +kernel
theorem dX9_init_19 : decode cX9_init 19 = .ok (.bipush 12, 2) := by decide +kernel
theorem dX9_init_21 : decode cX9_init 21 = .ok (.newarray .int, 2) := by decide +kernel
theorem dX9_init_23 : decode cX9_init 23 = .ok (.putfield 20, 3) := by decide +kernel
theorem dX9_init_26 : decode cX9_init 26 = .ok (.aload_n 0, 1) := by decide +kernel
theorem dX9_init_27 : decode cX9_init 27 = .ok (.iconst 0, 1) := by decide +kernel
theorem dX9_init_28 : decode cX9_init 28 = .ok (.newarray .boolean, 2) := by decide +kernel
theorem dX9_init_30 : decode cX9_init 30 = .ok (.putfield 24, 3) := by decide +kernel
theorem dX9_init_33 : decode cX9_init 33 = .ok (.aload_n 0, 1) := by decide +kernel
theorem dX9_init_34 : decode cX9_init 34 = .ok (.iconst 0, 1) := by decide +kernel
theorem dX9_init_35 : decode cX9_init 35 = .ok (.newarray .boolean, 2) := by decide +kernel
theorem dX9_init_37 : decode cX9_init 37 = .ok (.putfield 28, 3) := by decide +kernel
theorem dX9_init_40 : decode cX9_init 40 = .ok (.aload_n 0, 1) := by decide +kernel
theorem dX9_init_41 : decode cX9_init 41 = .ok (.iconst 0, 1) := by decide +kernel
theorem dX9_init_42 : decode cX9_init 42 = .ok (.newarray .int, 2) := by decide +kernel
theorem dX9_init_44 : decode cX9_init 44 = .ok (.putfield 31, 3) := by decide +kernel
theorem dX9_init_47 : decode cX9_init 47 = .ok (.aload_n 0, 1) := by decide +kernel
theorem dX9_init_48 : decode cX9_init 48 = .ok (.iconst 0, 1) := by decide +kernel
theorem dX9_init_49 : decode cX9_init 49 = .ok (.newarray .int, 2) := by decide +kernel
theorem dX9_init_51 : decode cX9_init 51 = .ok (.putfield 34, 3) := by decide +kernel
theorem dX9_init_54 : decode cX9_init 54 = .ok (.return_, 1) := by decide +kernel

theorem dX7_isText_46 : decode cX7_isText 46 = .ok (.iconst 1, 1) := by decide +kernel
theorem dX7_isText_47 : decode cX7_isText 47 = .ok (.ireturn, 1) := by decide +kernel
theorem dX7_isThere_0 : decode cX7_isThere 0 = .ok (.iload_n 1, 1) := by decide +kernel
theorem dX7_isThere_1 : decode cX7_isThere 1 = .ok (.aload_n 0, 1) := by decide +kernel
theorem dX7_isThere_2 : decode cX7_isThere 2 = .ok (.getfield 38, 3) := by decide +kernel
theorem dX7_isThere_5 : decode cX7_isThere 5 = .ok (.aload_n 0, 1) := by decide +kernel
theorem dX7_isThere_6 : decode cX7_isThere 6 = .ok (.getfield 44, 3) := by decide +kernel
theorem dX7_isThere_9 : decode cX7_isThere 9 = .ok (.isub, 1) := by decide +kernel
theorem dX7_isThere_10 : decode cX7_isThere 10 = .ok (.if_icmp .le 15, 3) := by decide +kernel
theorem dX7_isThere_13 : decode cX7_isThere 13 = .ok (.aload_n 0, 1) := by decide +kernel
theorem dX7_isThere_14 : decode cX7_isThere 14 = .ok (.iconst 2, 1) := by decide +kernel
theorem dX7_isThere_15 : decode cX7_isThere 15 = .ok (.aload_n 0, 1) := by decide +kernel
theorem dX7_isThere_16 : decode cX7_isThere 16 = .ok (.getfield 38, 3) := by decide +kernel
theorem dX7_isThere_19 : decode cX7_isThere 19 = .ok (.invokevirtual 87, 3) := by decide +kernel
theorem dX7_isThere_22 : decode cX7_isThere 22 = .ok (.ifCond .eq 7, 3) := by decide +kernel
theorem dX7_isThere_25 : decode cX7_isThere 25 = .ok (.iconst 1, 1) := by decide +kernel
theorem dX7_isThere_26 : decode cX7_isThere 26 = .ok (.goto 4, 3) := by decide +kernel
theorem dX7_isThere_29 : decode cX7_isThere 29 = .ok (.iconst 0, 1) := by decide +kernel
theorem dX7_isThere_30 : decode cX7_isThere 30 = .ok (.ireturn, 1) := by decide +kernel
theorem dX7_kindOfPart_0 : decode cX7_kindOfPart 0 = .ok (.iload_n 2, 1) := by decide +kernel
theorem dX7_kindOfPart_1 : decode cX7_kindOfPart 1 = .ok (.aload_n 0, 1) := by decide +kernel
theorem dX7_kindOfPart_2 : decode cX7_kindOfPart 2 = .ok (.iload_n 1, 1) := by decide +kernel
theorem dX7_kindOfPart_3 : decode cX7_kindOfPart 3 = .ok (.invokevirtual 190, 3) := by decide +kernel
theorem dX7_kindOfPart_6 : decode cX7_kindOfPart 6 = .ok (.if_icmp .lt 5, 3) := by decide +kernel
theorem dX7_kindOfPart_9 : decode cX7_kindOfPart 9 = .ok (.iconst 0, 1) := by decide +kernel
theorem dX7_kindOfPart_10 : decode cX7_kindOfPart 10 = .ok (.ireturn, 1) := by decide +kernel
theorem dX7_kindOfPart_11 : decode cX7_kindOfPart 11 = .ok (.aload_n 0, 1) := by decide +kernel
theorem dX7_kindOfPart_12 : decode cX7_kindOfPart 12 = .ok (.iload_n 1, 1) := by decide +kernel
theorem dX7_kindOfPart_13 : decode cX7_kindOfPart 13 = .ok (.iload_n 2, 1) := by decide +kernel
theorem dX7_kindOfPart_14 : decode cX7_kindOfPart 14 = .ok (.invokevirtual 193, 3) := by decide +kernel
theorem dX7_kindOfPart_17 : decode cX7_kindOfPart 17 = .ok (.lookupswitch 69 #[(73, 35), (74, 37), (91, 39)], 35) := by decide +kernel
theorem dX7_kindOfPart_52 : decode cX7_kindOfPart 52 = .ok (.iconst 1, 1) := by decide +kernel
theorem dX7_kindOfPart_53 : decode cX7_kindOfPart 53 = .ok (.ireturn, 1) := by decide +kernel
theorem dX7_kindOfPart_54 : decode cX7_kindOfPart 54 = .ok (.iconst 2, 1) := by decide +kernel
theorem dX7_kindOfPart_55 : decode cX7_kindOfPart 55 = .ok (.ireturn, 1) := by decide +kernel
theorem dX7_kindOfPart_56 : decode cX7_kindOfPart 56 = .ok (.iload_n 2, 1) := by decide +kernel
theorem dX7_kindOfPart_57 : decode cX7_kindOfPart 57 = .ok (.iconst 1, 1) := by decide +kernel
theorem dX7_kindOfPart_58 : decode cX7_kindOfPart 58 = .ok (.iadd, 1) := by decide +kernel
theorem dX7_kindOfPart_59 : decode cX7_kindOfPart 59 = .ok (.aload_n 0, 1) := by decide +kernel
theorem dX7_kindOfPart_60 : decode cX7_kindOfPart 60 = .ok (.iload_n 1, 1) := by decide +kernel
theorem dX7_kindOfPart_61 : decode cX7_kindOfPart 61 = .ok (.invokevirtual 190, 3) := by decide +kernel
theorem dX7_kindOfPart_64 : decode cX7_kindOfPart 64 = .ok (.if_icmp .ge 20, 3) := by decide +kernel
theorem dX7_kindOfPart_67 : decode cX7_kindOfPart 67 = .ok (.aload_n 0, 1) := by decide +kernel
theorem dX7_kindOfPart_68 : decode cX7_kindOfPart 68 = .ok (.iload_n 1, 1) := by decide +kernel
theorem dX7_kindOfPart_69 : decode cX7_kindOfPart 69 = .ok (.iload_n 2, 1) := by decide +kernel
theorem dX7_kindOfPart_70 : decode cX7_kindOfPart 70 = .ok (.iconst 1, 1) := by decide +kernel
theorem dX7_kindOfPart_71 : decode cX7_kindOfPart 71 = .ok (.iadd, 1) := by decide +kernel
theorem dX7_kindOfPart_72 : decode cX7_kindOfPart 72 = .ok (.invokevirtual 193, 3) := by decide +kernel
theorem dX7_kindOfPart_75 : decode cX7_kindOfPart 75 = .ok (.bipush 73, 2) := by decide +kernel
theorem dX7_kindOfPart_77 : decode cX7_kindOfPart 77 = .ok (.if_icmp .ne 7, 3) := by decide +kernel
theorem dX7_kindOfPart_80 : decode cX7_kindOfPart 80 = .ok (.iconst 3, 1) := by decide +kernel
theorem dX7_kindOfPart_81 : decode cX7_kindOfPart 81 = .ok (.goto 4, 3) := by decide +kernel
theorem dX7_kindOfPart_84 : decode cX7_kindOfPart 84 = .ok (.iconst 0, 1) := by decide +kernel
theorem dX7_kindOfPart_85 : decode cX7_kindOfPart 85 = .ok (.ireturn, 1) := by decide +kernel
theorem dX7_kindOfPart_86 : decode cX7_kindOfPart 86 = .ok (.iconst 0, 1) := by decide +kernel
theorem dX7_kindOfPart_87 : decode cX7_kindOfPart 87 = .ok (.ireturn, 1) := by decide +kernel
theorem dX7_kindOfType_0 : decode cX7_kindOfType 0 = .ok (.aload_n 0, 1) := by decide +kernel
theorem dX7_kindOfType_1 : decode cX7_kindOfType 1 = .ok (.iload_n 1, 1) := by decide +kernel
theorem dX7_kindOfType_2 : decode cX7_kindOfType 2 = .ok (.iconst 0, 1) := by decide +kernel
theorem dX7_kindOfType_3 : decode cX7_kindOfType 3 = .ok (.invokevirtual 186, 3) := by decide +kernel
theorem dX7_kindOfType_6 : decode cX7_kindOfType 6 = .ok (.istore_n 2, 1) := by decide +kernel
theorem dX7_kindOfType_7 : decode cX7_kindOfType 7 = .ok (.aload_n 0, 1) := by decide +kernel
theorem dX7_kindOfType_8 : decode cX7_kindOfType 8 = .ok (.iload_n 1, 1) := by decide +kernel
theorem dX7_kindOfType_9 : decode cX7_kindOfType 9 = .ok (.invokevirtual 190, 3) := by decide +kernel
theorem dX7_kindOfType_12 : decode cX7_kindOfType 12 = .ok (.iload_n 2, 1) := by decide +kernel
theorem dX7_kindOfType_13 : decode cX7_kindOfType 13 = .ok (.iconst 3, 1) := by decide +kernel
theorem dX7_kindOfType_14 : decode cX7_kindOfType 14 = .ok (.if_icmp .ne 7, 3) := by decide +kernel
theorem dX7_kindOfType_17 : decode cX7_kindOfType 17 = .ok (.iconst 2, 1) := by decide +kernel
theorem dX7_kindOfType_18 : decode cX7_kindOfType 18 = .ok (.goto 4, 3) := by decide +kernel
theorem dX7_kindOfType_21 : decode cX7_kindOfType 21 = .ok (.iconst 1, 1) := by decide +kernel
theorem dX7_kindOfType_22 : decode cX7_kindOfType 22 = .ok (.if_icmp .ne 7, 3) := by decide +kernel
theorem dX7_kindOfType_25 : decode cX7_kindOfType 25 = .ok (.iload_n 2, 1) := by decide +kernel
theorem dX7_kindOfType_26 : decode cX7_kindOfType 26 = .ok (.goto 4, 3) := by decide +kernel
theorem dX7_kindOfType_29 : decode cX7_kindOfType 29 = .ok (.iconst 0, 1) := by decide +kernel
theorem dX7_kindOfType_30 : decode cX7_kindOfType 30 = .ok (.ireturn, 1) := by decide +kernel
theorem dX7_magicHolds_0 : decode cX7_magicHolds 0 = .ok (.iconst 0, 1) := by decide +kernel
theorem dX7_magicHolds_1 : decode cX7_magicHolds 1 = .ok (.istore_n 1, 1) := by decide +kernel
theorem dX7_magicHolds_2 : decode cX7_magicHolds 2 = .ok (.iload_n 1, 1) := by decide +kernel
theorem dX7_magicHolds_3 : decode cX7_magicHolds 3 = .ok (.getstatic 97, 3) := by decide +kernel
theorem dX7_magicHolds_6 : decode cX7_magicHolds 6 = .ok (.arraylength, 1) := by decide +kernel
theorem dX7_magicHolds_7 : decode cX7_magicHolds 7 = .ok (.if_icmp .ge 47, 3) := by decide +kernel
theorem dX7_magicHolds_10 : decode cX7_magicHolds 10 = .ok (.iload_n 1, 1) := by decide +kernel
theorem dX7_magicHolds_11 : decode cX7_magicHolds 11 = .ok (.aload_n 0, 1) := by decide +kernel
theorem dX7_magicHolds_12 : decode cX7_magicHolds 12 = .ok (.getfield 38, 3) := by decide +kernel
theorem dX7_magicHolds_15 : decode cX7_magicHolds 15 = .ok (.if_icmp .lt 13, 3) := by decide +kernel
theorem dX7_magicHolds_18 : decode cX7_magicHolds 18 = .ok (.aload_n 0, 1) := by decide +kernel
theorem dX7_magicHolds_19 : decode cX7_magicHolds 19 = .ok (.iconst 2, 1) := by decide +kernel
theorem dX7_magicHolds_20 : decode cX7_magicHolds 20 = .ok (.aload_n 0, 1) := by decide +kernel
theorem dX7_magicHolds_21 : decode cX7_magicHolds 21 = .ok (.getfield 38, 3) := by decide +kernel
theorem dX7_magicHolds_24 : decode cX7_magicHolds 24 = .ok (.invokevirtual 87, 3) := by decide +kernel
theorem dX7_magicHolds_27 : decode cX7_magicHolds 27 = .ok (.ireturn, 1) := by decide +kernel
theorem dX7_magicHolds_28 : decode cX7_magicHolds 28 = .ok (.aload_n 0, 1) := by decide +kernel
theorem dX7_magicHolds_29 : decode cX7_magicHolds 29 = .ok (.iload_n 1, 1) := by decide +kernel
theorem dX7_magicHolds_30 : decode cX7_magicHolds 30 = .ok (.invokevirtual 100, 3) := by decide +kernel
theorem dX7_magicHolds_33 : decode cX7_magicHolds 33 = .ok (.getstatic 97, 3) := by decide +kernel
theorem dX7_magicHolds_36 : decode cX7_magicHolds 36 = .ok (.iload_n 1, 1) := by decide +kernel
theorem dX7_magicHolds_37 : decode cX7_magicHolds 37 = .ok (.iaload, 1) := by decide +kernel
theorem dX7_magicHolds_38 : decode cX7_magicHolds 38 = .ok (.if_icmp .eq 10, 3) := by decide +kernel
theorem dX7_magicHolds_41 : decode cX7_magicHolds 41 = .ok (.aload_n 0, 1) := by decide +kernel
theorem dX7_magicHolds_42 : decode cX7_magicHolds 42 = .ok (.iconst 1, 1) := by decide +kernel
theorem dX7_magicHolds_43 : decode cX7_magicHolds 43 = .ok (.iload_n 1, 1) := by decide +kernel
theorem dX7_magicHolds_44 : decode cX7_magicHolds 44 = .ok (.invokevirtual 87, 3) := by decide +kernel
theorem dX7_magicHolds_47 : decode cX7_magicHolds 47 = .ok (.ireturn, 1) := by decide +kernel
theorem dX7_magicHolds_48 : decode cX7_magicHolds 48 = .ok (.iinc 1 1, 3) := by decide +kernel
theorem dX7_magicHolds_51 : decode cX7_magicHolds 51 = .ok (.goto (-49), 3) := by decide +kernel
theorem dX7_magicHolds_54 : decode cX7_magicHolds 54 = .ok (.aload_n 0, 1) := by decide +kernel
theorem dX7_magicHolds_55 : decode cX7_magicHolds 55 = .ok (.getstatic 97, 3) := by decide +kernel
theorem dX7_magicHolds_58 : decode cX7_magicHolds 58 = .ok (.arraylength, 1) := by decide +kernel
theorem dX7_magicHolds_59 : decode cX7_magicHolds 59 = .ok (.putfield 44, 3) := by decide +kernel
theorem dX7_magicHolds_62 : decode cX7_magicHolds 62 = .ok (.iconst 1, 1) := by decide +kernel
theorem dX7_magicHolds_63 : decode cX7_magicHolds 63 = .ok (.ireturn, 1) := by decide +kernel
theorem dX7_memberPlace_0 : decode cX7_memberPlace 0 = .ok (.iload_n 1, 1) := by decide +kernel
theorem dX7_memberPlace_1 : decode cX7_memberPlace 1 = .ok (.ifCond .lt 12, 3) := by decide +kernel
theorem dX7_memberPlace_4 : decode cX7_memberPlace 4 = .ok (.iload_n 1, 1) := by decide +kernel
theorem dX7_memberPlace_5 : decode cX7_memberPlace 5 = .ok (.aload_n 0, 1) := by decide +kernel
theorem dX7_memberPlace_6 : decode cX7_memberPlace 6 = .ok (.getfield 23, 3) := by decide +kernel
theorem dX7_memberPlace_9 : decode cX7_memberPlace 9 = .ok (.arraylength, 1) := by decide +kernel
theorem dX7_memberPlace_10 : decode cX7_memberPlace 10 = .ok (.if_icmp .lt 7, 3) := by decide +kernel
theorem dX7_memberPlace_13 : decode cX7_memberPlace 13 = .ok (.iconst 0, 1) := by decide +kernel
theorem dX7_memberPlace_14 : decode cX7_memberPlace 14 = .ok (.goto 9, 3) := by decide +kernel
theorem dX7_memberPlace_17 : decode cX7_memberPlace 17 = .ok (.aload_n 0, 1) := by decide +kernel
theorem dX7_memberPlace_18 : decode cX7_memberPlace 18 = .ok (.getfield 23, 3) := by decide +kernel
theorem dX7_memberPlace_21 : decode cX7_memberPlace 21 = .ok (.iload_n 1, 1) := by decide +kernel
theorem dX7_memberPlace_22 : decode cX7_memberPlace 22 = .ok (.iaload, 1) := by decide +kernel
theorem dX7_memberPlace_23 : decode cX7_memberPlace 23 = .ok (.ireturn, 1) := by decide +kernel
theorem dX7_membersFit_0 : decode cX7_membersFit 0 = .ok (.aload_n 0, 1) := by decide +kernel
theorem dX7_membersFit_1 : decode cX7_membersFit 1 = .ok (.iconst 2, 1) := by decide +kernel
theorem dX7_membersFit_2 : decode cX7_membersFit 2 = .ok (.invokevirtual 103, 3) := by decide +kernel
theorem dX7_membersFit_5 : decode cX7_membersFit 5 = .ok (.ifCond .ne 5, 3) := by decide +kernel
theorem dX7_membersFit_8 : decode cX7_membersFit 8 = .ok (.iconst (-1), 1) := by decide +kernel
theorem dX7_membersFit_9 : decode cX7_membersFit 9 = .ok (.ireturn, 1) := by decide +kernel
theorem dX7_membersFit_10 : decode cX7_membersFit 10 = .ok (.aload_n 0, 1) := by decide +kernel
theorem dX7_membersFit_11 : decode cX7_membersFit 11 = .ok (.aload_n 0, 1) := by decide +kernel
theorem dX7_membersFit_12 : decode cX7_membersFit 12 = .ok (.getfield 44, 3) := by decide +kernel
theorem dX7_membersFit_15 : decode cX7_membersFit 15 = .ok (.invokevirtual 107, 3) := by decide +kernel
theorem dX7_membersFit_18 : decode cX7_membersFit 18 = .ok (.istore_n 2, 1) := by decide +kernel
theorem dX7_membersFit_19 : decode cX7_membersFit 19 = .ok (.iload_n 2, 1) := by decide +kernel
theorem dX7_membersFit_20 : decode cX7_membersFit 20 = .ok (.bipush 24, 2) := by decide +kernel
theorem dX7_membersFit_22 : decode cX7_membersFit 22 = .ok (.if_icmp .le 15, 3) := by decide +kernel
theorem dX7_membersFit_25 : decode cX7_membersFit 25 = .ok (.aload_n 0, 1) := by decide +kernel
theorem dX7_membersFit_26 : decode cX7_membersFit 26 = .ok (.iconst 5, 1) := by decide +kernel
theorem dX7_membersFit_27 : decode cX7_membersFit 27 = .ok (.aload_n 0, 1) := by decide +kernel
theorem dX7_membersFit_28 : decode cX7_membersFit 28 = .ok (.getfield 44, 3) := by decide +kernel
theorem dX7_membersFit_31 : decode cX7_membersFit 31 = .ok (.invokevirtual 87, 3) := by decide +kernel
theorem dX7_membersFit_34 : decode cX7_membersFit 34 = .ok (.pop, 1) := by decide +kernel
theorem dX7_membersFit_35 : decode cX7_membersFit 35 = .ok (.iconst (-1), 1) := by decide +kernel
theorem dX7_membersFit_36 : decode cX7_membersFit 36 = .ok (.ireturn, 1) := by decide +kernel
theorem dX7_membersFit_37 : decode cX7_membersFit 37 = .ok (.aload_n 0, 1) := by decide +kernel
theorem dX7_membersFit_38 : decode cX7_membersFit 38 = .ok (.dup, 1) := by decide +kernel
theorem dX7_membersFit_39 : decode cX7_membersFit 39 = .ok (.getfield 44, 3) := by decide +kernel

theorem dX1_load_49 : decode cX1_load 49 = .ok (.return_, 1) := by decide +kernel
theorem dX1_load_50 : decode cX1_load 50 = .ok (.aload_n 0, 1) := by decide +kernel
theorem dX1_load_51 : decode cX1_load 51 = .ok (.dup, 1) := by decide +kernel
theorem dX1_load_52 : decode cX1_load 52 = .ok (.getfield 161, 3) := by decide +kernel
theorem dX1_load_55 : decode cX1_load 55 = .ok (.iload_n 1, 1) := by decide +kernel
theorem dX1_load_56 : decode cX1_load 56 = .ok (.bipush 21, 2) := by decide +kernel
theorem dX1_load_58 : decode cX1_load 58 = .ok (.if_icmp .ne 16, 3) := by decide +kernel
theorem dX1_load_61 : decode cX1_load 61 = .ok (.iload_n 3, 1) := by decide +kernel
theorem dX1_load_62 : decode cX1_load 62 = .ok (.iconst 1, 1) := by decide +kernel
theorem dX1_load_63 : decode cX1_load 63 = .ok (.if_icmp .eq 7, 3) := by decide +kernel
theorem dX1_load_66 : decode cX1_load 66 = .ok (.iconst 1, 1) := by decide +kernel
theorem dX1_load_67 : decode cX1_load 67 = .ok (.goto 28, 3) := by decide +kernel
theorem dX1_load_70 : decode cX1_load 70 = .ok (.iconst 0, 1) := by decide +kernel
theorem dX1_load_71 : decode cX1_load 71 = .ok (.goto 24, 3) := by decide +kernel
theorem dX1_load_74 : decode cX1_load 74 = .ok (.iload_n 3, 1) := by decide +kernel
theorem dX1_load_75 : decode cX1_load 75 = .ok (.iconst 2, 1) := by decide +kernel
theorem dX1_load_76 : decode cX1_load 76 = .ok (.if_icmp .ne 14, 3) := by decide +kernel
theorem dX1_load_79 : decode cX1_load 79 = .ok (.aload_n 0, 1) := by decide +kernel
theorem dX1_load_80 : decode cX1_load 80 = .ok (.iload_n 2, 1) := by decide +kernel
theorem dX1_load_81 : decode cX1_load 81 = .ok (.iconst 1, 1) := by decide +kernel
theorem dX1_load_82 : decode cX1_load 82 = .ok (.iadd, 1) := by decide +kernel
theorem dX1_load_83 : decode cX1_load 83 = .ok (.invokevirtual 182, 3) := by decide +kernel
theorem dX1_load_86 : decode cX1_load 86 = .ok (.iconst 3, 1) := by decide +kernel
theorem dX1_load_87 : decode cX1_load 87 = .ok (.if_icmp .eq 7, 3) := by decide +kernel
theorem dX1_load_90 : decode cX1_load 90 = .ok (.iconst 1, 1) := by decide +kernel
theorem dX1_load_91 : decode cX1_load 91 = .ok (.goto 4, 3) := by decide +kernel
theorem dX1_load_94 : decode cX1_load 94 = .ok (.iconst 0, 1) := by decide +kernel
theorem dX1_load_95 : decode cX1_load 95 = .ok (.ior, 1) := by decide +kernel
theorem dX1_load_96 : decode cX1_load 96 = .ok (.putfield 161, 3) := by decide +kernel
theorem dX1_load_99 : decode cX1_load 99 = .ok (.aload_n 0, 1) := by decide +kernel
theorem dX1_load_100 : decode cX1_load 100 = .ok (.iload_n 1, 1) := by decide +kernel
theorem dX1_load_101 : decode cX1_load 101 = .ok (.invokestatic 214, 3) := by decide +kernel
theorem dX1_load_104 : decode cX1_load 104 = .ok (.invokevirtual 195, 3) := by decide +kernel
theorem dX1_load_107 : decode cX1_load 107 = .ok (.return_, 1) := by decide +kernel
theorem dX1_lowerType_0 : decode cX1_lowerType 0 = .ok (.iload_n 0, 1) := by decide +kernel
theorem dX1_lowerType_1 : decode cX1_lowerType 1 = .ok (.tableswitch 52 1 7 #[43, 45, 47, 52, 52, 52, 49], 43) := by decide +kernel
theorem dX1_lowerType_44 : decode cX1_lowerType 44 = .ok (.iconst 1, 1) := by decide +kernel
theorem dX1_lowerType_45 : decode cX1_lowerType 45 = .ok (.ireturn, 1) := by decide +kernel
theorem dX1_lowerType_46 : decode cX1_lowerType 46 = .ok (.iconst 2, 1) := by decide +kernel
theorem dX1_lowerType_47 : decode cX1_lowerType 47 = .ok (.ireturn, 1) := by decide +kernel
theorem dX1_lowerType_48 : decode cX1_lowerType 48 = .ok (.iconst 4, 1) := by decide +kernel
theorem dX1_lowerType_49 : decode cX1_lowerType 49 = .ok (.ireturn, 1) := by decide +kernel
theorem dX1_lowerType_50 : decode cX1_lowerType 50 = .ok (.bipush 6, 2) := by decide +kernel
theorem dX1_lowerType_52 : decode cX1_lowerType 52 = .ok (.ireturn, 1) := by decide +kernel
theorem dX1_lowerType_53 : decode cX1_lowerType 53 = .ok (.iconst 0, 1) := by decide +kernel
theorem dX1_lowerType_54 : decode cX1_lowerType 54 = .ok (.ireturn, 1) := by decide +kernel
theorem dX1_makeRoom_0 : decode cX1_makeRoom 0 = .ok (.aload_n 0, 1) := by decide +kernel
theorem dX1_makeRoom_1 : decode cX1_makeRoom 1 = .ok (.getfield 22, 3) := by decide +kernel
theorem dX1_makeRoom_4 : decode cX1_makeRoom 4 = .ok (.arraylength, 1) := by decide +kernel
theorem dX1_makeRoom_5 : decode cX1_makeRoom 5 = .ok (.iload_n 1, 1) := by decide +kernel
theorem dX1_makeRoom_6 : decode cX1_makeRoom 6 = .ok (.if_icmp .ge 31, 3) := by decide +kernel
theorem dX1_makeRoom_9 : decode cX1_makeRoom 9 = .ok (.aload_n 0, 1) := by decide +kernel
theorem dX1_makeRoom_10 : decode cX1_makeRoom 10 = .ok (.bipush 96, 2) := by decide +kernel
theorem dX1_makeRoom_12 : decode cX1_makeRoom 12 = .ok (.iload_n 1, 1) := by decide +kernel
theorem dX1_makeRoom_13 : decode cX1_makeRoom 13 = .ok (.imul, 1) := by decide +kernel
theorem dX1_makeRoom_14 : decode cX1_makeRoom 14 = .ok (.newarray .byte, 2) := by decide +kernel
theorem dX1_makeRoom_16 : decode cX1_makeRoom 16 = .ok (.putfield 18, 3) := by decide +kernel
theorem dX1_makeRoom_19 : decode cX1_makeRoom 19 = .ok (.aload_n 0, 1) := by decide +kernel
theorem dX1_makeRoom_20 : decode cX1_makeRoom 20 = .ok (.iconst 2, 1) := by decide +kernel
theorem dX1_makeRoom_21 : decode cX1_makeRoom 21 = .ok (.iload_n 1, 1) := by decide +kernel
theorem dX1_makeRoom_22 : decode cX1_makeRoom 22 = .ok (.imul, 1) := by decide +kernel
theorem dX1_makeRoom_23 : decode cX1_makeRoom 23 = .ok (.newarray .boolean, 2) := by decide +kernel
theorem dX1_makeRoom_25 : decode cX1_makeRoom 25 = .ok (.putfield 22, 3) := by decide +kernel
theorem dX1_makeRoom_28 : decode cX1_makeRoom 28 = .ok (.aload_n 0, 1) := by decide +kernel
theorem dX1_makeRoom_29 : decode cX1_makeRoom 29 = .ok (.iconst 2, 1) := by decide +kernel
theorem dX1_makeRoom_30 : decode cX1_makeRoom 30 = .ok (.iload_n 1, 1) := by decide +kernel
theorem dX1_makeRoom_31 : decode cX1_makeRoom 31 = .ok (.imul, 1) := by decide +kernel
theorem dX1_makeRoom_32 : decode cX1_makeRoom 32 = .ok (.newarray .boolean, 2) := by decide +kernel
theorem dX1_makeRoom_34 : decode cX1_makeRoom 34 = .ok (.putfield 26, 3) := by decide +kernel
theorem dX1_makeRoom_37 : decode cX1_makeRoom 37 = .ok (.iconst 0, 1) := by decide +kernel
theorem dX1_makeRoom_38 : decode cX1_makeRoom 38 = .ok (.istore_n 2, 1) := by decide +kernel
theorem dX1_makeRoom_39 : decode cX1_makeRoom 39 = .ok (.iload_n 2, 1) := by decide +kernel
theorem dX1_makeRoom_40 : decode cX1_makeRoom 40 = .ok (.aload_n 0, 1) := by decide +kernel
theorem dX1_makeRoom_41 : decode cX1_makeRoom 41 = .ok (.getfield 22, 3) := by decide +kernel
theorem dX1_makeRoom_44 : decode cX1_makeRoom 44 = .ok (.arraylength, 1) := by decide +kernel
theorem dX1_makeRoom_45 : decode cX1_makeRoom 45 = .ok (.if_icmp .ge 23, 3) := by decide +kernel
theorem dX1_makeRoom_48 : decode cX1_makeRoom 48 = .ok (.aload_n 0, 1) := by decide +kernel
theorem dX1_makeRoom_49 : decode cX1_makeRoom 49 = .ok (.getfield 22, 3) := by decide +kernel
theorem dX1_makeRoom_52 : decode cX1_makeRoom 52 = .ok (.iload_n 2, 1) := by decide +kernel
theorem dX1_makeRoom_53 : decode cX1_makeRoom 53 = .ok (.iconst 0, 1) := by decide +kernel
theorem dX1_makeRoom_54 : decode cX1_makeRoom 54 = .ok (.bastore, 1) := by decide +kernel
theorem dX1_makeRoom_55 : decode cX1_makeRoom 55 = .ok (.aload_n 0, 1) := by decide +kernel
theorem dX1_makeRoom_56 : decode cX1_makeRoom 56 = .ok (.getfield 26, 3) := by decide +kernel
theorem dX1_makeRoom_59 : decode cX1_makeRoom 59 = .ok (.iload_n 2, 1) := by decide +kernel
theorem dX1_makeRoom_60 : decode cX1_makeRoom 60 = .ok (.iconst 0, 1) := by decide +kernel
theorem dX1_makeRoom_61 : decode cX1_makeRoom 61 = .ok (.bastore, 1) := by decide +kernel
theorem dX1_makeRoom_62 : decode cX1_makeRoom 62 = .ok (.iinc 2 1, 3) := by decide +kernel
theorem dX1_makeRoom_65 : decode cX1_makeRoom 65 = .ok (.goto (-26), 3) := by decide +kernel
theorem dX1_makeRoom_68 : decode cX1_makeRoom 68 = .ok (.return_, 1) := by decide +kernel
theorem dX1_placeAt_0 : decode cX1_placeAt 0 = .ok (.iload_n 1, 1) := by decide +kernel
theorem dX1_placeAt_1 : decode cX1_placeAt 1 = .ok (.ifCond .lt 9, 3) := by decide +kernel
theorem dX1_placeAt_4 : decode cX1_placeAt 4 = .ok (.iload_n 1, 1) := by decide +kernel
theorem dX1_placeAt_5 : decode cX1_placeAt 5 = .ok (.bipush 48, 2) := by decide +kernel
theorem dX1_placeAt_7 : decode cX1_placeAt 7 = .ok (.if_icmp .lt 7, 3) := by decide +kernel
theorem dX1_placeAt_10 : decode cX1_placeAt 10 = .ok (.iconst 0, 1) := by decide +kernel
theorem dX1_placeAt_11 : decode cX1_placeAt 11 = .ok (.goto 9, 3) := by decide +kernel
theorem dX1_placeAt_14 : decode cX1_placeAt 14 = .ok (.aload_n 0, 1) := by decide +kernel
theorem dX1_placeAt_15 : decode cX1_placeAt 15 = .ok (.getfield 29, 3) := by decide +kernel
theorem dX1_placeAt_18 : decode cX1_placeAt 18 = .ok (.iload_n 1, 1) := by decide +kernel
theorem dX1_placeAt_19 : decode cX1_placeAt 19 = .ok (.baload, 1) := by decide +kernel
theorem dX1_placeAt_20 : decode cX1_placeAt 20 = .ok (.ireturn, 1) := by decide +kernel
theorem dX1_pop_0 : decode cX1_pop 0 = .ok (.aload_n 0, 1) := by decide +kernel
theorem dX1_pop_1 : decode cX1_pop 1 = .ok (.getfield 103, 3) := by decide +kernel
theorem dX1_pop_4 : decode cX1_pop 4 = .ok (.iconst 1, 1) := by decide +kernel
theorem dX1_pop_5 : decode cX1_pop 5 = .ok (.if_icmp .lt 12, 3) := by decide +kernel
theorem dX1_pop_8 : decode cX1_pop 8 = .ok (.aload_n 0, 1) := by decide +kernel
theorem dX1_pop_9 : decode cX1_pop 9 = .ok (.getfield 103, 3) := by decide +kernel
theorem dX1_pop_12 : decode cX1_pop 12 = .ok (.bipush 24, 2) := by decide +kernel
theorem dX1_pop_14 : decode cX1_pop 14 = .ok (.if_icmp .le 5, 3) := by decide +kernel
theorem dX1_pop_17 : decode cX1_pop 17 = .ok (.iconst 0, 1) := by decide +kernel
theorem dX1_pop_18 : decode cX1_pop 18 = .ok (.ireturn, 1) := by decide +kernel
theorem dX1_pop_19 : decode cX1_pop 19 = .ok (.aload_n 0, 1) := by decide +kernel
theorem dX1_pop_20 : decode cX1_pop 20 = .ok (.dup, 1) := by decide +kernel
theorem dX1_pop_21 : decode cX1_pop 21 = .ok (.getfield 103, 3) := by decide +kernel
theorem dX1_pop_24 : decode cX1_pop 24 = .ok (.iconst 1, 1) := by decide +kernel
theorem dX1_pop_25 : decode cX1_pop 25 = .ok (.isub, 1) := by decide +kernel
theorem dX1_pop_26 : decode cX1_pop 26 = .ok (.putfield 103, 3) := by decide +kernel
theorem dX1_pop_29 : decode cX1_pop 29 = .ok (.aload_n 0, 1) := by decide +kernel
theorem dX1_pop_30 : decode cX1_pop 30 = .ok (.getfield 29, 3) := by decide +kernel
theorem dX1_pop_33 : decode cX1_pop 33 = .ok (.bipush 24, 2) := by decide +kernel
theorem dX1_pop_35 : decode cX1_pop 35 = .ok (.aload_n 0, 1) := by decide +kernel
theorem dX1_pop_36 : decode cX1_pop 36 = .ok (.getfield 103, 3) := by decide +kernel
theorem dX1_pop_39 : decode cX1_pop 39 = .ok (.iadd, 1) := by decide +kernel
theorem dX1_pop_40 : decode cX1_pop 40 = .ok (.baload, 1) := by decide +kernel
theorem dX1_pop_41 : decode cX1_pop 41 = .ok (.ireturn, 1) := by decide +kernel
theorem dX1_push_0 : decode cX1_push 0 = .ok (.aload_n 0, 1) := by decide +kernel
theorem dX1_push_1 : decode cX1_push 1 = .ok (.getfield 103, 3) := by decide +kernel
theorem dX1_push_4 : decode cX1_push 4 = .ok (.ifCond .lt 36, 3) := by decide +kernel
theorem dX1_push_7 : decode cX1_push 7 = .ok (.aload_n 0, 1) := by decide +kernel
theorem dX1_push_8 : decode cX1_push 8 = .ok (.getfield 103, 3) := by decide +kernel
theorem dX1_push_11 : decode cX1_push 11 = .ok (.bipush 24, 2) := by decide +kernel
theorem dX1_push_13 : decode cX1_push 13 = .ok (.if_icmp .ge 27, 3) := by decide +kernel
theorem dX1_push_16 : decode cX1_push 16 = .ok (.aload_n 0, 1) := by decide +kernel
theorem dX1_push_17 : decode cX1_push 17 = .ok (.getfield 29, 3) := by decide +kernel
theorem dX1_push_20 : decode cX1_push 20 = .ok (.bipush 24, 2) := by decide +kernel
theorem dX1_push_22 : decode cX1_push 22 = .ok (.aload_n 0, 1) := by decide +kernel
theorem dX1_push_23 : decode cX1_push 23 = .ok (.getfield 103, 3) := by decide +kernel
theorem dX1_push_26 : decode cX1_push 26 = .ok (.iadd, 1) := by decide +kernel
theorem dX1_push_27 : decode cX1_push 27 = .ok (.iload_n 1, 1) := by decide +kernel
theorem dX1_push_28 : decode cX1_push 28 = .ok (.i2b, 1) := by decide +kernel
theorem dX1_push_29 : decode cX1_push 29 = .ok (.bastore, 1) := by decide +kernel
theorem dX1_push_30 : decode cX1_push 30 = .ok (.aload_n 0, 1) := by decide +kernel
theorem dX1_push_31 : decode cX1_push 31 = .ok (.dup, 1) := by decide +kernel
theorem dX1_push_32 : decode cX1_push 32 = .ok (.getfield 103, 3) := by decide +kernel
theorem dX1_push_35 : decode cX1_push 35 = .ok (.iconst 1, 1) := by decide +kernel
theorem dX1_push_36 : decode cX1_push 36 = .ok (.iadd, 1) := by decide +kernel
theorem dX1_push_37 : decode cX1_push 37 = .ok (.putfield 103, 3) := by decide +kernel
theorem dX1_push_40 : decode cX1_push 40 = .ok (.return_, 1) := by decide +kernel
theorem dX1_setPlace_0 : decode cX1_setPlace 0 = .ok (.iload_n 1, 1) := by decide +kernel
theorem dX1_setPlace_1 : decode cX1_setPlace 1 = .ok (.ifCond .lt 17, 3) := by decide +kernel

theorem dX5_addArgument_28 : decode cX5_addArgument 28 = .ok (.putfield 54, 3) := by decide +kernel
theorem dX5_addArgument_31 : decode cX5_addArgument 31 = .ok (.aload_n 0, 1) := by decide +kernel
theorem dX5_addArgument_32 : decode cX5_addArgument 32 = .ok (.getfield 54, 3) := by decide +kernel
theorem dX5_addArgument_35 : decode cX5_addArgument 35 = .ok (.ireturn, 1) := by decide +kernel
theorem dX5_arrayStart_0 : decode cX5_arrayStart 0 = .ok (.iload_n 1, 1) := by decide +kernel
theorem dX5_arrayStart_1 : decode cX5_arrayStart 1 = .ok (.aload_n 0, 1) := by decide +kernel
theorem dX5_arrayStart_2 : decode cX5_arrayStart 2 = .ok (.getfield 51, 3) := by decide +kernel
theorem dX5_arrayStart_5 : decode cX5_arrayStart 5 = .ok (.if_icmp .le 8, 3) := by decide +kernel
theorem dX5_arrayStart_8 : decode cX5_arrayStart 8 = .ok (.aload_n 0, 1) := by decide +kernel
theorem dX5_arrayStart_9 : decode cX5_arrayStart 9 = .ok (.getfield 48, 3) := by decide +kernel
theorem dX5_arrayStart_12 : decode cX5_arrayStart 12 = .ok (.ireturn, 1) := by decide +kernel
theorem dX5_arrayStart_13 : decode cX5_arrayStart 13 = .ok (.iload_n 1, 1) := by decide +kernel
theorem dX5_arrayStart_14 : decode cX5_arrayStart 14 = .ok (.ifCond .lt 12, 3) := by decide +kernel
theorem dX5_arrayStart_17 : decode cX5_arrayStart 17 = .ok (.iload_n 1, 1) := by decide +kernel
theorem dX5_arrayStart_18 : decode cX5_arrayStart 18 = .ok (.aload_n 0, 1) := by decide +kernel
theorem dX5_arrayStart_19 : decode cX5_arrayStart 19 = .ok (.getfield 19, 3) := by decide +kernel
theorem dX5_arrayStart_22 : decode cX5_arrayStart 22 = .ok (.arraylength, 1) := by decide +kernel
theorem dX5_arrayStart_23 : decode cX5_arrayStart 23 = .ok (.if_icmp .lt 7, 3) := by decide +kernel
theorem dX5_arrayStart_26 : decode cX5_arrayStart 26 = .ok (.iconst 0, 1) := by decide +kernel
theorem dX5_arrayStart_27 : decode cX5_arrayStart 27 = .ok (.goto 9, 3) := by decide +kernel
theorem dX5_arrayStart_30 : decode cX5_arrayStart 30 = .ok (.aload_n 0, 1) := by decide +kernel
theorem dX5_arrayStart_31 : decode cX5_arrayStart 31 = .ok (.getfield 19, 3) := by decide +kernel
theorem dX5_arrayStart_34 : decode cX5_arrayStart 34 = .ok (.iload_n 1, 1) := by decide +kernel
theorem dX5_arrayStart_35 : decode cX5_arrayStart 35 = .ok (.iaload, 1) := by decide +kernel
theorem dX5_arrayStart_36 : decode cX5_arrayStart 36 = .ok (.ireturn, 1) := by decide +kernel
theorem dX5_calculate_0 : decode cX5_calculate 0 = .ok (.iload_n 1, 1) := by decide +kernel
theorem dX5_calculate_1 : decode cX5_calculate 1 = .ok (.invokestatic 166, 3) := by decide +kernel
theorem dX5_calculate_4 : decode cX5_calculate 4 = .ok (.istore_n 2, 1) := by decide +kernel
theorem dX5_calculate_5 : decode cX5_calculate 5 = .ok (.aload_n 0, 1) := by decide +kernel
theorem dX5_calculate_6 : decode cX5_calculate 6 = .ok (.iload_n 2, 1) := by decide +kernel
theorem dX5_calculate_7 : decode cX5_calculate 7 = .ok (.bipush 15, 2) := by decide +kernel
theorem dX5_calculate_9 : decode cX5_calculate 9 = .ok (.iand, 1) := by decide +kernel
theorem dX5_calculate_10 : decode cX5_calculate 10 = .ok (.invokevirtual 169, 3) := by decide +kernel
theorem dX5_calculate_13 : decode cX5_calculate 13 = .ok (.lstore_n 3, 1) := by decide +kernel
theorem dX5_calculate_14 : decode cX5_calculate 14 = .ok (.aload_n 0, 1) := by decide +kernel
theorem dX5_calculate_15 : decode cX5_calculate 15 = .ok (.iload_n 2, 1) := by decide +kernel
theorem dX5_calculate_16 : decode cX5_calculate 16 = .ok (.iconst 4, 1) := by decide +kernel
theorem dX5_calculate_17 : decode cX5_calculate 17 = .ok (.ishr, 1) := by decide +kernel
theorem dX5_calculate_18 : decode cX5_calculate 18 = .ok (.invokevirtual 169, 3) := by decide +kernel
theorem dX5_calculate_21 : decode cX5_calculate 21 = .ok (.lstore 5, 2) := by decide +kernel
theorem dX5_calculate_23 : decode cX5_calculate 23 = .ok (.iload_n 1, 1) := by decide +kernel
theorem dX5_calculate_24 : decode cX5_calculate 24 = .ok (.invokestatic 208, 3) := by decide +kernel
theorem dX5_calculate_27 : decode cX5_calculate 27 = .ok (.ifCond .eq 15, 3) := by decide +kernel
theorem dX5_calculate_30 : decode cX5_calculate 30 = .ok (.lload_n 3, 1) := by decide +kernel
theorem dX5_calculate_31 : decode cX5_calculate 31 = .ok (.lconst 0, 1) := by decide +kernel
theorem dX5_calculate_32 : decode cX5_calculate 32 = .ok (.lcmp, 1) := by decide +kernel
theorem dX5_calculate_33 : decode cX5_calculate 33 = .ok (.ifCond .ne 9, 3) := by decide +kernel
theorem dX5_calculate_36 : decode cX5_calculate 36 = .ok (.aload_n 0, 1) := by decide +kernel
theorem dX5_calculate_37 : decode cX5_calculate 37 = .ok (.iconst 0, 1) := by decide +kernel
theorem dX5_calculate_38 : decode cX5_calculate 38 = .ok (.invokevirtual 211, 3) := by decide +kernel
theorem dX5_calculate_41 : decode cX5_calculate 41 = .ok (.return_, 1) := by decide +kernel
theorem dX5_calculate_42 : decode cX5_calculate 42 = .ok (.aload_n 0, 1) := by decide +kernel
theorem dX5_calculate_43 : decode cX5_calculate 43 = .ok (.iload_n 1, 1) := by decide +kernel
theorem dX5_calculate_44 : decode cX5_calculate 44 = .ok (.invokestatic 163, 3) := by decide +kernel
theorem dX5_calculate_47 : decode cX5_calculate 47 = .ok (.iload_n 1, 1) := by decide +kernel
theorem dX5_calculate_48 : decode cX5_calculate 48 = .ok (.lload 5, 2) := by decide +kernel
theorem dX5_calculate_50 : decode cX5_calculate 50 = .ok (.lload_n 3, 1) := by decide +kernel
theorem dX5_calculate_51 : decode cX5_calculate 51 = .ok (.invokestatic 214, 3) := by decide +kernel
theorem dX5_calculate_54 : decode cX5_calculate 54 = .ok (.invokevirtual 176, 3) := by decide +kernel
theorem dX5_calculate_57 : decode cX5_calculate 57 = .ok (.aload_n 0, 1) := by decide +kernel
theorem dX5_calculate_58 : decode cX5_calculate 58 = .ok (.dup, 1) := by decide +kernel
theorem dX5_calculate_59 : decode cX5_calculate 59 = .ok (.getfield 123, 3) := by decide +kernel
theorem dX5_calculate_62 : decode cX5_calculate 62 = .ok (.iconst 1, 1) := by decide +kernel
theorem dX5_calculate_63 : decode cX5_calculate 63 = .ok (.iadd, 1) := by decide +kernel
theorem dX5_calculate_64 : decode cX5_calculate 64 = .ok (.putfield 123, 3) := by decide +kernel
theorem dX5_calculate_67 : decode cX5_calculate 67 = .ok (.return_, 1) := by decide +kernel
theorem dX5_closeFrame_0 : decode cX5_closeFrame 0 = .ok (.aload_n 0, 1) := by decide +kernel
theorem dX5_closeFrame_1 : decode cX5_closeFrame 1 = .ok (.iconst 0, 1) := by decide +kernel
theorem dX5_closeFrame_2 : decode cX5_closeFrame 2 = .ok (.aload_n 0, 1) := by decide +kernel
theorem dX5_closeFrame_3 : decode cX5_closeFrame 3 = .ok (.getfield 106, 3) := by decide +kernel
theorem dX5_closeFrame_6 : decode cX5_closeFrame 6 = .ok (.iconst 1, 1) := by decide +kernel
theorem dX5_closeFrame_7 : decode cX5_closeFrame 7 = .ok (.isub, 1) := by decide +kernel
theorem dX5_closeFrame_8 : decode cX5_closeFrame 8 = .ok (.invokestatic 279, 3) := by decide +kernel
theorem dX5_closeFrame_11 : decode cX5_closeFrame 11 = .ok (.putfield 106, 3) := by decide +kernel
theorem dX5_closeFrame_14 : decode cX5_closeFrame 14 = .ok (.aload_n 0, 1) := by decide +kernel
theorem dX5_closeFrame_15 : decode cX5_closeFrame 15 = .ok (.aload_n 0, 1) := by decide +kernel
theorem dX5_closeFrame_16 : decode cX5_closeFrame 16 = .ok (.getfield 38, 3) := by decide +kernel
theorem dX5_closeFrame_19 : decode cX5_closeFrame 19 = .ok (.aload_n 0, 1) := by decide +kernel
theorem dX5_closeFrame_20 : decode cX5_closeFrame 20 = .ok (.iconst 0, 1) := by decide +kernel
theorem dX5_closeFrame_21 : decode cX5_closeFrame 21 = .ok (.invokevirtual 284, 3) := by decide +kernel
theorem dX5_closeFrame_24 : decode cX5_closeFrame 24 = .ok (.invokevirtual 79, 3) := by decide +kernel
theorem dX5_closeFrame_27 : decode cX5_closeFrame 27 = .ok (.putfield 119, 3) := by decide +kernel
theorem dX5_closeFrame_30 : decode cX5_closeFrame 30 = .ok (.aload_n 0, 1) := by decide +kernel
theorem dX5_closeFrame_31 : decode cX5_closeFrame 31 = .ok (.aload_n 0, 1) := by decide +kernel
theorem dX5_closeFrame_32 : decode cX5_closeFrame 32 = .ok (.iconst 1, 1) := by decide +kernel
theorem dX5_closeFrame_33 : decode cX5_closeFrame 33 = .ok (.invokevirtual 284, 3) := by decide +kernel
theorem dX5_closeFrame_36 : decode cX5_closeFrame 36 = .ok (.putfield 123, 3) := by decide +kernel
theorem dX5_closeFrame_39 : decode cX5_closeFrame 39 = .ok (.aload_n 0, 1) := by decide +kernel
theorem dX5_closeFrame_40 : decode cX5_closeFrame 40 = .ok (.aload_n 0, 1) := by decide +kernel
theorem dX5_closeFrame_41 : decode cX5_closeFrame 41 = .ok (.iconst 2, 1) := by decide +kernel
theorem dX5_closeFrame_42 : decode cX5_closeFrame 42 = .ok (.invokevirtual 284, 3) := by decide +kernel
theorem dX5_closeFrame_45 : decode cX5_closeFrame 45 = .ok (.putfield 126, 3) := by decide +kernel
theorem dX5_closeFrame_48 : decode cX5_closeFrame 48 = .ok (.return_, 1) := by decide +kernel
theorem dX5_elementAt_0 : decode cX5_elementAt 0 = .ok (.iload_n 2, 1) := by decide +kernel
theorem dX5_elementAt_1 : decode cX5_elementAt 1 = .ok (.ifCond .lt 12, 3) := by decide +kernel
theorem dX5_elementAt_4 : decode cX5_elementAt 4 = .ok (.iload_n 2, 1) := by decide +kernel
theorem dX5_elementAt_5 : decode cX5_elementAt 5 = .ok (.aload_n 0, 1) := by decide +kernel
theorem dX5_elementAt_6 : decode cX5_elementAt 6 = .ok (.iload_n 1, 1) := by decide +kernel
theorem dX5_elementAt_7 : decode cX5_elementAt 7 = .ok (.invokevirtual 70, 3) := by decide +kernel
theorem dX5_elementAt_10 : decode cX5_elementAt 10 = .ok (.if_icmp .lt 7, 3) := by decide +kernel
theorem dX5_elementAt_13 : decode cX5_elementAt 13 = .ok (.iconst 0, 1) := by decide +kernel
theorem dX5_elementAt_14 : decode cX5_elementAt 14 = .ok (.goto 14, 3) := by decide +kernel
theorem dX5_elementAt_17 : decode cX5_elementAt 17 = .ok (.aload_n 0, 1) := by decide +kernel
theorem dX5_elementAt_18 : decode cX5_elementAt 18 = .ok (.aload_n 0, 1) := by decide +kernel
theorem dX5_elementAt_19 : decode cX5_elementAt 19 = .ok (.iload_n 1, 1) := by decide +kernel
theorem dX5_elementAt_20 : decode cX5_elementAt 20 = .ok (.invokevirtual 66, 3) := by decide +kernel
theorem dX5_elementAt_23 : decode cX5_elementAt 23 = .ok (.iload_n 2, 1) := by decide +kernel
theorem dX5_elementAt_24 : decode cX5_elementAt 24 = .ok (.iadd, 1) := by decide +kernel
theorem dX5_elementAt_25 : decode cX5_elementAt 25 = .ok (.invokevirtual 73, 3) := by decide +kernel
theorem dX5_elementAt_28 : decode cX5_elementAt 28 = .ok (.ireturn, 1) := by decide +kernel
theorem dX5_enter_0 : decode cX5_enter 0 = .ok (.aload_n 0, 1) := by decide +kernel
theorem dX5_enter_1 : decode cX5_enter 1 = .ok (.getfield 106, 3) := by decide +kernel
theorem dX5_enter_4 : decode cX5_enter 4 = .ok (.iconst 1, 1) := by decide +kernel
theorem dX5_enter_5 : decode cX5_enter 5 = .ok (.iadd, 1) := by decide +kernel
theorem dX5_enter_6 : decode cX5_enter 6 = .ok (.bipush 60, 2) := by decide +kernel
theorem dX5_enter_8 : decode cX5_enter 8 = .ok (.if_icmp .lt 9, 3) := by decide +kernel
theorem dX5_enter_11 : decode cX5_enter 11 = .ok (.aload_n 0, 1) := by decide +kernel
theorem dX5_enter_12 : decode cX5_enter 12 = .ok (.iconst 3, 1) := by decide +kernel
theorem dX5_enter_13 : decode cX5_enter 13 = .ok (.putfield 103, 3) := by decide +kernel
theorem dX5_enter_16 : decode cX5_enter 16 = .ok (.return_, 1) := by decide +kernel
theorem dX5_enter_17 : decode cX5_enter 17 = .ok (.aload_n 0, 1) := by decide +kernel
theorem dX5_enter_18 : decode cX5_enter 18 = .ok (.getfield 38, 3) := by decide +kernel
theorem dX5_enter_21 : decode cX5_enter 21 = .ok (.iload_n 1, 1) := by decide +kernel
theorem dX5_enter_22 : decode cX5_enter 22 = .ok (.invokevirtual 83, 3) := by decide +kernel
theorem dX5_enter_25 : decode cX5_enter 25 = .ok (.invokestatic 267, 3) := by decide +kernel
theorem dX5_enter_28 : decode cX5_enter 28 = .ok (.istore_n 2, 1) := by decide +kernel
theorem dX5_enter_29 : decode cX5_enter 29 = .ok (.aload_n 0, 1) := by decide +kernel
theorem dX5_enter_30 : decode cX5_enter 30 = .ok (.getfield 106, 3) := by decide +kernel
theorem dX5_enter_33 : decode cX5_enter 33 = .ok (.bipush 24, 2) := by decide +kernel
theorem dX5_enter_35 : decode cX5_enter 35 = .ok (.imul, 1) := by decide +kernel
theorem dX5_enter_36 : decode cX5_enter 36 = .ok (.aload_n 0, 1) := by decide +kernel
theorem dX5_enter_37 : decode cX5_enter 37 = .ok (.getfield 126, 3) := by decide +kernel
theorem dX5_enter_40 : decode cX5_enter 40 = .ok (.iadd, 1) := by decide +kernel
theorem dX5_enter_41 : decode cX5_enter 41 = .ok (.iload_n 2, 1) := by decide +kernel
theorem dX5_enter_42 : decode cX5_enter 42 = .ok (.isub, 1) := by decide +kernel
theorem dX5_enter_43 : decode cX5_enter 43 = .ok (.istore_n 3, 1) := by decide +kernel
theorem dX5_enter_44 : decode cX5_enter 44 = .ok (.aload_n 0, 1) := by decide +kernel
theorem dX5_enter_45 : decode cX5_enter 45 = .ok (.getfield 106, 3) := by decide +kernel
theorem dX5_enter_48 : decode cX5_enter 48 = .ok (.iconst 1, 1) := by decide +kernel
theorem dX5_enter_49 : decode cX5_enter 49 = .ok (.iadd, 1) := by decide +kernel
theorem dX5_enter_50 : decode cX5_enter 50 = .ok (.bipush 24, 2) := by decide +kernel
theorem dX5_enter_52 : decode cX5_enter 52 = .ok (.imul, 1) := by decide +kernel
theorem dX5_enter_53 : decode cX5_enter 53 = .ok (.istore 4, 2) := by decide +kernel
theorem dX5_enter_55 : decode cX5_enter 55 = .ok (.aload_n 0, 1) := by decide +kernel
theorem dX5_enter_56 : decode cX5_enter 56 = .ok (.getfield 38, 3) := by decide +kernel
theorem dX5_enter_59 : decode cX5_enter 59 = .ok (.iload_n 1, 1) := by decide +kernel
theorem dX5_enter_60 : decode cX5_enter 60 = .ok (.invokevirtual 79, 3) := by decide +kernel
theorem dX5_enter_63 : decode cX5_enter 63 = .ok (.ifnull 32, 3) := by decide +kernel
theorem dX5_enter_66 : decode cX5_enter 66 = .ok (.iload_n 2, 1) := by decide +kernel
theorem dX5_enter_67 : decode cX5_enter 67 = .ok (.aload_n 0, 1) := by decide +kernel

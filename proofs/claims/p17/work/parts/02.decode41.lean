theorem dX2_unitOf_39 : decode cX2_unitOf 39 = .ok (.iconst 0, 1) := by decide +kernel
theorem dX2_unitOf_40 : decode cX2_unitOf 40 = .ok (.istore_n 3, 1) := by decide +kernel
theorem dX2_unitOf_41 : decode cX2_unitOf 41 = .ok (.iload_n 3, 1) := by decide +kernel
theorem dX2_unitOf_42 : decode cX2_unitOf 42 = .ok (.aload_n 2, 1) := by decide +kernel
theorem dX2_unitOf_43 : decode cX2_unitOf 43 = .ok (.getfield 40, 3) := by decide +kernel
theorem dX2_unitOf_46 : decode cX2_unitOf 46 = .ok (.arraylength, 1) := by decide +kernel
theorem dX2_unitOf_47 : decode cX2_unitOf 47 = .ok (.if_icmp .ge 38, 3) := by decide +kernel
theorem dX2_unitOf_50 : decode cX2_unitOf 50 = .ok (.aload_n 2, 1) := by decide +kernel
theorem dX2_unitOf_51 : decode cX2_unitOf 51 = .ok (.getfield 40, 3) := by decide +kernel
theorem dX2_unitOf_54 : decode cX2_unitOf 54 = .ok (.iload_n 3, 1) := by decide +kernel
theorem dX2_unitOf_55 : decode cX2_unitOf 55 = .ok (.aload_n 0, 1) := by decide +kernel
theorem dX2_unitOf_56 : decode cX2_unitOf 56 = .ok (.iload_n 3, 1) := by decide +kernel
theorem dX2_unitOf_57 : decode cX2_unitOf 57 = .ok (.invokevirtual 46, 3) := by decide +kernel
theorem dX2_unitOf_60 : decode cX2_unitOf 60 = .ok (.aastore, 1) := by decide +kernel
theorem dX2_unitOf_61 : decode cX2_unitOf 61 = .ok (.aload_n 2, 1) := by decide +kernel
theorem dX2_unitOf_62 : decode cX2_unitOf 62 = .ok (.dup, 1) := by decide +kernel
theorem dX2_unitOf_63 : decode cX2_unitOf 63 = .ok (.getfield 50, 3) := by decide +kernel
theorem dX2_unitOf_66 : decode cX2_unitOf 66 = .ok (.aload_n 2, 1) := by decide +kernel
theorem dX2_unitOf_67 : decode cX2_unitOf 67 = .ok (.getfield 40, 3) := by decide +kernel
theorem dX2_unitOf_70 : decode cX2_unitOf 70 = .ok (.iload_n 3, 1) := by decide +kernel
theorem dX2_unitOf_71 : decode cX2_unitOf 71 = .ok (.aaload, 1) := by decide +kernel
theorem dX2_unitOf_72 : decode cX2_unitOf 72 = .ok (.getfield 54, 3) := by decide +kernel
theorem dX2_unitOf_75 : decode cX2_unitOf 75 = .ok (.iadd, 1) := by decide +kernel
theorem dX2_unitOf_76 : decode cX2_unitOf 76 = .ok (.putfield 50, 3) := by decide +kernel
theorem dX2_unitOf_79 : decode cX2_unitOf 79 = .ok (.iinc 3 1, 3) := by decide +kernel
theorem dX2_unitOf_82 : decode cX2_unitOf 82 = .ok (.goto (-41), 3) := by decide +kernel
theorem dX2_unitOf_85 : decode cX2_unitOf 85 = .ok (.aload_n 2, 1) := by decide +kernel
theorem dX2_unitOf_86 : decode cX2_unitOf 86 = .ok (.areturn, 1) := by decide +kernel
theorem dX2_wideLength_0 : decode cX2_wideLength 0 = .ok (.iload_n 0, 1) := by decide +kernel
theorem dX2_wideLength_1 : decode cX2_wideLength 1 = .ok (.sipush 132, 3) := by decide +kernel
theorem dX2_wideLength_4 : decode cX2_wideLength 4 = .ok (.if_icmp .ne 6, 3) := by decide +kernel
theorem dX2_wideLength_7 : decode cX2_wideLength 7 = .ok (.bipush 6, 2) := by decide +kernel
theorem dX2_wideLength_9 : decode cX2_wideLength 9 = .ok (.ireturn, 1) := by decide +kernel
theorem dX2_wideLength_10 : decode cX2_wideLength 10 = .ok (.iload_n 0, 1) := by decide +kernel
theorem dX2_wideLength_11 : decode cX2_wideLength 11 = .ok (.invokestatic 154, 3) := by decide +kernel
theorem dX2_wideLength_14 : decode cX2_wideLength 14 = .ok (.ifCond .ne 10, 3) := by decide +kernel
theorem dX2_wideLength_17 : decode cX2_wideLength 17 = .ok (.iload_n 0, 1) := by decide +kernel
theorem dX2_wideLength_18 : decode cX2_wideLength 18 = .ok (.invokestatic 157, 3) := by decide +kernel
theorem dX2_wideLength_21 : decode cX2_wideLength 21 = .ok (.ifCond .eq 7, 3) := by decide +kernel
theorem dX2_wideLength_24 : decode cX2_wideLength 24 = .ok (.iconst 4, 1) := by decide +kernel
theorem dX2_wideLength_25 : decode cX2_wideLength 25 = .ok (.goto 4, 3) := by decide +kernel
theorem dX2_wideLength_28 : decode cX2_wideLength 28 = .ok (.iconst 0, 1) := by decide +kernel
theorem dX2_wideLength_29 : decode cX2_wideLength 29 = .ok (.ireturn, 1) := by decide +kernel
theorem dX3_addEdge_0 : decode cX3_addEdge 0 = .ok (.iload_n 2, 1) := by decide +kernel
theorem dX3_addEdge_1 : decode cX3_addEdge 1 = .ok (.ifCond .lt 29, 3) := by decide +kernel
theorem dX3_addEdge_4 : decode cX3_addEdge 4 = .ok (.iload_n 2, 1) := by decide +kernel
theorem dX3_addEdge_5 : decode cX3_addEdge 5 = .ok (.aload_n 0, 1) := by decide +kernel
theorem dX3_addEdge_6 : decode cX3_addEdge 6 = .ok (.getfield 53, 3) := by decide +kernel
theorem dX3_addEdge_9 : decode cX3_addEdge 9 = .ok (.getfield 82, 3) := by decide +kernel
theorem dX3_addEdge_12 : decode cX3_addEdge 12 = .ok (.if_icmp .ge 18, 3) := by decide +kernel
theorem dX3_addEdge_15 : decode cX3_addEdge 15 = .ok (.aload_n 0, 1) := by decide +kernel
theorem dX3_addEdge_16 : decode cX3_addEdge 16 = .ok (.getfield 47, 3) := by decide +kernel
theorem dX3_addEdge_19 : decode cX3_addEdge 19 = .ok (.aload_n 0, 1) := by decide +kernel
theorem dX3_addEdge_20 : decode cX3_addEdge 20 = .ok (.getfield 15, 3) := by decide +kernel
theorem dX3_addEdge_23 : decode cX3_addEdge 23 = .ok (.iload_n 2, 1) := by decide +kernel
theorem dX3_addEdge_24 : decode cX3_addEdge 24 = .ok (.iaload, 1) := by decide +kernel
theorem dX3_addEdge_25 : decode cX3_addEdge 25 = .ok (.iaload, 1) := by decide +kernel
theorem dX3_addEdge_26 : decode cX3_addEdge 26 = .ok (.iload_n 1, 1) := by decide +kernel
theorem dX3_addEdge_27 : decode cX3_addEdge 27 = .ok (.if_icmp .ne 5, 3) := by decide +kernel
theorem dX3_addEdge_30 : decode cX3_addEdge 30 = .ok (.iload_n 3, 1) := by decide +kernel
theorem dX3_addEdge_31 : decode cX3_addEdge 31 = .ok (.ireturn, 1) := by decide +kernel
theorem dX3_addEdge_32 : decode cX3_addEdge 32 = .ok (.iload_n 3, 1) := by decide +kernel
theorem dX3_addEdge_33 : decode cX3_addEdge 33 = .ok (.aload_n 0, 1) := by decide +kernel
theorem dX3_addEdge_34 : decode cX3_addEdge 34 = .ok (.getfield 21, 3) := by decide +kernel
theorem dX3_addEdge_37 : decode cX3_addEdge 37 = .ok (.arraylength, 1) := by decide +kernel
theorem dX3_addEdge_38 : decode cX3_addEdge 38 = .ok (.if_icmp .lt 21, 3) := by decide +kernel
theorem dX3_addEdge_41 : decode cX3_addEdge 41 = .ok (.aload_n 0, 1) := by decide +kernel
theorem dX3_addEdge_42 : decode cX3_addEdge 42 = .ok (.aload_n 0, 1) := by decide +kernel
theorem dX3_addEdge_43 : decode cX3_addEdge 43 = .ok (.getfield 21, 3) := by decide +kernel
theorem dX3_addEdge_46 : decode cX3_addEdge 46 = .ok (.iconst 2, 1) := by decide +kernel
theorem dX3_addEdge_47 : decode cX3_addEdge 47 = .ok (.aload_n 0, 1) := by decide +kernel
theorem dX3_addEdge_48 : decode cX3_addEdge 48 = .ok (.getfield 21, 3) := by decide +kernel
theorem dX3_addEdge_51 : decode cX3_addEdge 51 = .ok (.arraylength, 1) := by decide +kernel
theorem dX3_addEdge_52 : decode cX3_addEdge 52 = .ok (.imul, 1) := by decide +kernel
theorem dX3_addEdge_53 : decode cX3_addEdge 53 = .ok (.invokestatic 138, 3) := by decide +kernel
theorem dX3_addEdge_56 : decode cX3_addEdge 56 = .ok (.putfield 21, 3) := by decide +kernel
theorem dX3_addEdge_59 : decode cX3_addEdge 59 = .ok (.aload_n 0, 1) := by decide +kernel
theorem dX3_addEdge_60 : decode cX3_addEdge 60 = .ok (.getfield 47, 3) := by decide +kernel
theorem dX3_addEdge_63 : decode cX3_addEdge 63 = .ok (.aload_n 0, 1) := by decide +kernel
theorem dX3_addEdge_64 : decode cX3_addEdge 64 = .ok (.getfield 15, 3) := by decide +kernel
theorem dX3_addEdge_67 : decode cX3_addEdge 67 = .ok (.iload_n 2, 1) := by decide +kernel
theorem dX3_addEdge_68 : decode cX3_addEdge 68 = .ok (.iaload, 1) := by decide +kernel
theorem dX3_addEdge_69 : decode cX3_addEdge 69 = .ok (.iload_n 1, 1) := by decide +kernel
theorem dX3_addEdge_70 : decode cX3_addEdge 70 = .ok (.iastore, 1) := by decide +kernel
theorem dX3_addEdge_71 : decode cX3_addEdge 71 = .ok (.aload_n 0, 1) := by decide +kernel
theorem dX3_addEdge_72 : decode cX3_addEdge 72 = .ok (.getfield 21, 3) := by decide +kernel
theorem dX3_addEdge_75 : decode cX3_addEdge 75 = .ok (.iload_n 3, 1) := by decide +kernel
theorem dX3_addEdge_76 : decode cX3_addEdge 76 = .ok (.aload_n 0, 1) := by decide +kernel
theorem dX3_addEdge_77 : decode cX3_addEdge 77 = .ok (.getfield 15, 3) := by decide +kernel
theorem dX3_addEdge_80 : decode cX3_addEdge 80 = .ok (.iload_n 2, 1) := by decide +kernel
theorem dX3_addEdge_81 : decode cX3_addEdge 81 = .ok (.iaload, 1) := by decide +kernel
theorem dX3_addEdge_82 : decode cX3_addEdge 82 = .ok (.iastore, 1) := by decide +kernel
theorem dX3_addEdge_83 : decode cX3_addEdge 83 = .ok (.iload_n 3, 1) := by decide +kernel
theorem dX3_addEdge_84 : decode cX3_addEdge 84 = .ok (.iconst 1, 1) := by decide +kernel
theorem dX3_addEdge_85 : decode cX3_addEdge 85 = .ok (.iadd, 1) := by decide +kernel
theorem dX3_addEdge_86 : decode cX3_addEdge 86 = .ok (.ireturn, 1) := by decide +kernel
theorem dX3_addLoop_0 : decode cX3_addLoop 0 = .ok (.aload_n 0, 1) := by decide +kernel
theorem dX3_addLoop_1 : decode cX3_addLoop 1 = .ok (.getfield 47, 3) := by decide +kernel
theorem dX3_addLoop_4 : decode cX3_addLoop 4 = .ok (.iload_n 1, 1) := by decide +kernel
theorem dX3_addLoop_5 : decode cX3_addLoop 5 = .ok (.iload_n 1, 1) := by decide +kernel
theorem dX3_addLoop_6 : decode cX3_addLoop 6 = .ok (.iastore, 1) := by decide +kernel
theorem dX3_addLoop_7 : decode cX3_addLoop 7 = .ok (.aload_n 0, 1) := by decide +kernel
theorem dX3_addLoop_8 : decode cX3_addLoop 8 = .ok (.getfield 44, 3) := by decide +kernel
theorem dX3_addLoop_11 : decode cX3_addLoop 11 = .ok (.iload_n 1, 1) := by decide +kernel
theorem dX3_addLoop_12 : decode cX3_addLoop 12 = .ok (.dup2, 1) := by decide +kernel
theorem dX3_addLoop_13 : decode cX3_addLoop 13 = .ok (.iaload, 1) := by decide +kernel
theorem dX3_addLoop_14 : decode cX3_addLoop 14 = .ok (.iconst 1, 1) := by decide +kernel
theorem dX3_addLoop_15 : decode cX3_addLoop 15 = .ok (.iadd, 1) := by decide +kernel
theorem dX3_addLoop_16 : decode cX3_addLoop 16 = .ok (.iastore, 1) := by decide +kernel
theorem dX3_addLoop_17 : decode cX3_addLoop 17 = .ok (.iconst 0, 1) := by decide +kernel
theorem dX3_addLoop_18 : decode cX3_addLoop 18 = .ok (.istore_n 2, 1) := by decide +kernel
theorem dX3_addLoop_19 : decode cX3_addLoop 19 = .ok (.aload_n 0, 1) := by decide +kernel
theorem dX3_addLoop_20 : decode cX3_addLoop 20 = .ok (.getfield 24, 3) := by decide +kernel
theorem dX3_addLoop_23 : decode cX3_addLoop 23 = .ok (.iload_n 1, 1) := by decide +kernel
theorem dX3_addLoop_24 : decode cX3_addLoop 24 = .ok (.iaload, 1) := by decide +kernel
theorem dX3_addLoop_25 : decode cX3_addLoop 25 = .ok (.istore_n 3, 1) := by decide +kernel
theorem dX3_addLoop_26 : decode cX3_addLoop 26 = .ok (.iload_n 3, 1) := by decide +kernel
theorem dX3_addLoop_27 : decode cX3_addLoop 27 = .ok (.aload_n 0, 1) := by decide +kernel
theorem dX3_addLoop_28 : decode cX3_addLoop 28 = .ok (.getfield 24, 3) := by decide +kernel
theorem dX3_addLoop_31 : decode cX3_addLoop 31 = .ok (.iload_n 1, 1) := by decide +kernel
theorem dX3_addLoop_32 : decode cX3_addLoop 32 = .ok (.iconst 1, 1) := by decide +kernel
theorem dX3_addLoop_33 : decode cX3_addLoop 33 = .ok (.iadd, 1) := by decide +kernel
theorem dX3_addLoop_34 : decode cX3_addLoop 34 = .ok (.iaload, 1) := by decide +kernel
theorem dX3_addLoop_35 : decode cX3_addLoop 35 = .ok (.if_icmp .ge 50, 3) := by decide +kernel
theorem dX3_addLoop_38 : decode cX3_addLoop 38 = .ok (.aload_n 0, 1) := by decide +kernel
theorem dX3_addLoop_39 : decode cX3_addLoop 39 = .ok (.getfield 30, 3) := by decide +kernel
theorem dX3_addLoop_42 : decode cX3_addLoop 42 = .ok (.aload_n 0, 1) := by decide +kernel
theorem dX3_addLoop_43 : decode cX3_addLoop 43 = .ok (.getfield 27, 3) := by decide +kernel
theorem dX3_addLoop_46 : decode cX3_addLoop 46 = .ok (.iload_n 3, 1) := by decide +kernel
theorem dX3_addLoop_47 : decode cX3_addLoop 47 = .ok (.iaload, 1) := by decide +kernel
theorem dX3_addLoop_48 : decode cX3_addLoop 48 = .ok (.baload, 1) := by decide +kernel
theorem dX3_addLoop_49 : decode cX3_addLoop 49 = .ok (.ifCond .eq 30, 3) := by decide +kernel
theorem dX3_addLoop_52 : decode cX3_addLoop 52 = .ok (.aload_n 0, 1) := by decide +kernel
theorem dX3_addLoop_53 : decode cX3_addLoop 53 = .ok (.iload_n 1, 1) := by decide +kernel
theorem dX3_addLoop_54 : decode cX3_addLoop 54 = .ok (.aload_n 0, 1) := by decide +kernel
theorem dX3_addLoop_55 : decode cX3_addLoop 55 = .ok (.getfield 27, 3) := by decide +kernel
theorem dX3_addLoop_58 : decode cX3_addLoop 58 = .ok (.iload_n 3, 1) := by decide +kernel
theorem dX3_addLoop_59 : decode cX3_addLoop 59 = .ok (.iaload, 1) := by decide +kernel
theorem dX3_addLoop_60 : decode cX3_addLoop 60 = .ok (.invokevirtual 169, 3) := by decide +kernel
theorem dX3_addLoop_63 : decode cX3_addLoop 63 = .ok (.ifCond .eq 16, 3) := by decide +kernel
theorem dX3_addLoop_66 : decode cX3_addLoop 66 = .ok (.aload_n 0, 1) := by decide +kernel
theorem dX3_addLoop_67 : decode cX3_addLoop 67 = .ok (.iload_n 1, 1) := by decide +kernel
theorem dX3_addLoop_68 : decode cX3_addLoop 68 = .ok (.aload_n 0, 1) := by decide +kernel
theorem dX3_addLoop_69 : decode cX3_addLoop 69 = .ok (.getfield 27, 3) := by decide +kernel
theorem dX3_addLoop_72 : decode cX3_addLoop 72 = .ok (.iload_n 3, 1) := by decide +kernel
theorem dX3_addLoop_73 : decode cX3_addLoop 73 = .ok (.iaload, 1) := by decide +kernel
theorem dX3_addLoop_74 : decode cX3_addLoop 74 = .ok (.iload_n 2, 1) := by decide +kernel
theorem dX3_addLoop_75 : decode cX3_addLoop 75 = .ok (.invokevirtual 175, 3) := by decide +kernel
theorem dX3_addLoop_78 : decode cX3_addLoop 78 = .ok (.istore_n 2, 1) := by decide +kernel
theorem dX3_addLoop_79 : decode cX3_addLoop 79 = .ok (.iinc 3 1, 3) := by decide +kernel

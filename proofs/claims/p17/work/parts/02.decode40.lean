theorem dX2_tableRoom_70 : decode cX2_tableRoom 70 = .ok (.istore_n 2, 1) := by decide +kernel
theorem dX2_tableRoom_71 : decode cX2_tableRoom 71 = .ok (.goto (-67), 3) := by decide +kernel
theorem dX2_tableRoom_74 : decode cX2_tableRoom 74 = .ok (.iconst 0, 1) := by decide +kernel
theorem dX2_tableRoom_75 : decode cX2_tableRoom 75 = .ok (.iload_n 1, 1) := by decide +kernel
theorem dX2_tableRoom_76 : decode cX2_tableRoom 76 = .ok (.invokestatic 204, 3) := by decide +kernel
theorem dX2_tableRoom_79 : decode cX2_tableRoom 79 = .ok (.ireturn, 1) := by decide +kernel
theorem dX2_targetsHold_0 : decode cX2_targetsHold 0 = .ok (.aload_n 0, 1) := by decide +kernel
theorem dX2_targetsHold_1 : decode cX2_targetsHold 1 = .ok (.getfield 172, 3) := by decide +kernel
theorem dX2_targetsHold_4 : decode cX2_targetsHold 4 = .ok (.l2i, 1) := by decide +kernel
theorem dX2_targetsHold_5 : decode cX2_targetsHold 5 = .ok (.istore_n 1, 1) := by decide +kernel
theorem dX2_targetsHold_6 : decode cX2_targetsHold 6 = .ok (.aload_n 0, 1) := by decide +kernel
theorem dX2_targetsHold_7 : decode cX2_targetsHold 7 = .ok (.iload_n 1, 1) := by decide +kernel
theorem dX2_targetsHold_8 : decode cX2_targetsHold 8 = .ok (.invokevirtual 237, 3) := by decide +kernel
theorem dX2_targetsHold_11 : decode cX2_targetsHold 11 = .ok (.istore_n 2, 1) := by decide +kernel
theorem dX2_targetsHold_12 : decode cX2_targetsHold 12 = .ok (.iconst (-1), 1) := by decide +kernel
theorem dX2_targetsHold_13 : decode cX2_targetsHold 13 = .ok (.istore_n 3, 1) := by decide +kernel
theorem dX2_targetsHold_14 : decode cX2_targetsHold 14 = .ok (.iload_n 3, 1) := by decide +kernel
theorem dX2_targetsHold_15 : decode cX2_targetsHold 15 = .ok (.iload_n 2, 1) := by decide +kernel
theorem dX2_targetsHold_16 : decode cX2_targetsHold 16 = .ok (.if_icmp .ge 24, 3) := by decide +kernel
theorem dX2_targetsHold_19 : decode cX2_targetsHold 19 = .ok (.aload_n 0, 1) := by decide +kernel
theorem dX2_targetsHold_20 : decode cX2_targetsHold 20 = .ok (.aload_n 0, 1) := by decide +kernel
theorem dX2_targetsHold_21 : decode cX2_targetsHold 21 = .ok (.iload_n 1, 1) := by decide +kernel
theorem dX2_targetsHold_22 : decode cX2_targetsHold 22 = .ok (.iload_n 3, 1) := by decide +kernel
theorem dX2_targetsHold_23 : decode cX2_targetsHold 23 = .ok (.invokevirtual 240, 3) := by decide +kernel
theorem dX2_targetsHold_26 : decode cX2_targetsHold 26 = .ok (.invokevirtual 221, 3) := by decide +kernel
theorem dX2_targetsHold_29 : decode cX2_targetsHold 29 = .ok (.ifCond .ne 5, 3) := by decide +kernel
theorem dX2_targetsHold_32 : decode cX2_targetsHold 32 = .ok (.iconst 0, 1) := by decide +kernel
theorem dX2_targetsHold_33 : decode cX2_targetsHold 33 = .ok (.ireturn, 1) := by decide +kernel
theorem dX2_targetsHold_34 : decode cX2_targetsHold 34 = .ok (.iinc 3 1, 3) := by decide +kernel
theorem dX2_targetsHold_37 : decode cX2_targetsHold 37 = .ok (.goto (-23), 3) := by decide +kernel
theorem dX2_targetsHold_40 : decode cX2_targetsHold 40 = .ok (.iconst 1, 1) := by decide +kernel
theorem dX2_targetsHold_41 : decode cX2_targetsHold 41 = .ok (.ireturn, 1) := by decide +kernel
theorem dX2_u1_0 : decode cX2_u1 0 = .ok (.iload_n 1, 1) := by decide +kernel
theorem dX2_u1_1 : decode cX2_u1 1 = .ok (.ifCond .lt 11, 3) := by decide +kernel
theorem dX2_u1_4 : decode cX2_u1 4 = .ok (.iload_n 1, 1) := by decide +kernel
theorem dX2_u1_5 : decode cX2_u1 5 = .ok (.aload_n 0, 1) := by decide +kernel
theorem dX2_u1_6 : decode cX2_u1 6 = .ok (.getfield 117, 3) := by decide +kernel
theorem dX2_u1_9 : decode cX2_u1 9 = .ok (.if_icmp .lt 7, 3) := by decide +kernel
theorem dX2_u1_12 : decode cX2_u1 12 = .ok (.iconst 0, 1) := by decide +kernel
theorem dX2_u1_13 : decode cX2_u1 13 = .ok (.goto 16, 3) := by decide +kernel
theorem dX2_u1_16 : decode cX2_u1 16 = .ok (.aload_n 0, 1) := by decide +kernel
theorem dX2_u1_17 : decode cX2_u1 17 = .ok (.getfield 12, 3) := by decide +kernel
theorem dX2_u1_20 : decode cX2_u1 20 = .ok (.aload_n 0, 1) := by decide +kernel
theorem dX2_u1_21 : decode cX2_u1 21 = .ok (.getfield 120, 3) := by decide +kernel
theorem dX2_u1_24 : decode cX2_u1 24 = .ok (.iload_n 1, 1) := by decide +kernel
theorem dX2_u1_25 : decode cX2_u1 25 = .ok (.iadd, 1) := by decide +kernel
theorem dX2_u1_26 : decode cX2_u1 26 = .ok (.invokevirtual 136, 3) := by decide +kernel
theorem dX2_u1_29 : decode cX2_u1 29 = .ok (.ireturn, 1) := by decide +kernel
theorem dX2_u2_0 : decode cX2_u2 0 = .ok (.iload_n 1, 1) := by decide +kernel
theorem dX2_u2_1 : decode cX2_u2 1 = .ok (.ifCond .lt 13, 3) := by decide +kernel
theorem dX2_u2_4 : decode cX2_u2 4 = .ok (.iload_n 1, 1) := by decide +kernel
theorem dX2_u2_5 : decode cX2_u2 5 = .ok (.aload_n 0, 1) := by decide +kernel
theorem dX2_u2_6 : decode cX2_u2 6 = .ok (.getfield 117, 3) := by decide +kernel
theorem dX2_u2_9 : decode cX2_u2 9 = .ok (.iconst 2, 1) := by decide +kernel
theorem dX2_u2_10 : decode cX2_u2 10 = .ok (.isub, 1) := by decide +kernel
theorem dX2_u2_11 : decode cX2_u2 11 = .ok (.if_icmp .le 7, 3) := by decide +kernel
theorem dX2_u2_14 : decode cX2_u2 14 = .ok (.iconst 0, 1) := by decide +kernel
theorem dX2_u2_15 : decode cX2_u2 15 = .ok (.goto 16, 3) := by decide +kernel
theorem dX2_u2_18 : decode cX2_u2 18 = .ok (.aload_n 0, 1) := by decide +kernel
theorem dX2_u2_19 : decode cX2_u2 19 = .ok (.getfield 12, 3) := by decide +kernel
theorem dX2_u2_22 : decode cX2_u2 22 = .ok (.aload_n 0, 1) := by decide +kernel
theorem dX2_u2_23 : decode cX2_u2 23 = .ok (.getfield 120, 3) := by decide +kernel
theorem dX2_u2_26 : decode cX2_u2 26 = .ok (.iload_n 1, 1) := by decide +kernel
theorem dX2_u2_27 : decode cX2_u2 27 = .ok (.iadd, 1) := by decide +kernel
theorem dX2_u2_28 : decode cX2_u2 28 = .ok (.invokevirtual 90, 3) := by decide +kernel
theorem dX2_u2_31 : decode cX2_u2 31 = .ok (.ireturn, 1) := by decide +kernel
theorem dX2_unitOf_0 : decode cX2_unitOf 0 = .ok (.aload_n 0, 1) := by decide +kernel
theorem dX2_unitOf_1 : decode cX2_unitOf 1 = .ok (.getfield 12, 3) := by decide +kernel
theorem dX2_unitOf_4 : decode cX2_unitOf 4 = .ok (.aload_n 1, 1) := by decide +kernel
theorem dX2_unitOf_5 : decode cX2_unitOf 5 = .ok (.invokevirtual 22, 3) := by decide +kernel
theorem dX2_unitOf_8 : decode cX2_unitOf 8 = .ok (.ifCond .eq 24, 3) := by decide +kernel
theorem dX2_unitOf_11 : decode cX2_unitOf 11 = .ok (.aload_n 0, 1) := by decide +kernel
theorem dX2_unitOf_12 : decode cX2_unitOf 12 = .ok (.invokevirtual 26, 3) := by decide +kernel
theorem dX2_unitOf_15 : decode cX2_unitOf 15 = .ok (.ifCond .eq 17, 3) := by decide +kernel
theorem dX2_unitOf_18 : decode cX2_unitOf 18 = .ok (.aload_n 0, 1) := by decide +kernel
theorem dX2_unitOf_19 : decode cX2_unitOf 19 = .ok (.invokevirtual 30, 3) := by decide +kernel
theorem dX2_unitOf_22 : decode cX2_unitOf 22 = .ok (.ifCond .eq 10, 3) := by decide +kernel
theorem dX2_unitOf_25 : decode cX2_unitOf 25 = .ok (.aload_n 0, 1) := by decide +kernel
theorem dX2_unitOf_26 : decode cX2_unitOf 26 = .ok (.invokevirtual 33, 3) := by decide +kernel
theorem dX2_unitOf_29 : decode cX2_unitOf 29 = .ok (.ifCond .ne 5, 3) := by decide +kernel
theorem dX2_unitOf_32 : decode cX2_unitOf 32 = .ok (.aconst_null, 1) := by decide +kernel
theorem dX2_unitOf_33 : decode cX2_unitOf 33 = .ok (.areturn, 1) := by decide +kernel
theorem dX2_unitOf_34 : decode cX2_unitOf 34 = .ok (.aload_n 0, 1) := by decide +kernel
theorem dX2_unitOf_35 : decode cX2_unitOf 35 = .ok (.invokevirtual 36, 3) := by decide +kernel
theorem dX2_unitOf_38 : decode cX2_unitOf 38 = .ok (.astore_n 2, 1) := by decide +kernel
theorem dX2_unitOf_39 : decode cX2_unitOf 39 = .ok (.iconst 0, 1) := by decide +kernel
theorem dX2_unitOf_40 : decode cX2_unitOf 40 = .ok (.istore_n 3, 1) := by decide +kernel
theorem dX2_unitOf_41 : decode cX2_unitOf 41 = .ok (.iload_n 3, 1) := by decide +kernel
theorem dX2_unitOf_42 : decode cX2_unitOf 42 = .ok (.aload_n 2, 1) := by decide +kernel
theorem dX2_unitOf_43 : decode cX2_unitOf 43 = .ok (.getfield 40, 3) := by decide +kernel
theorem dX2_unitOf_46 : decode cX2_unitOf 46 = .ok (.arraylength, 1) := by decide +kernel
theorem dX2_unitOf_47 : decode cX2_unitOf 47 = .ok (.if_icmp .ge 38, 3) := by decide +kernel
theorem dX2_unitOf_50 : decode cX2_unitOf 50 = .ok (.aload_n 2, 1) := by decide +kernel
theorem dX2_unitOf_51 : decode cX2_unitOf 51 = .ok (.getfield 40, 3) := by decide +kernel
theorem dX2_unitOf_54 : decode cX2_unitOf 54 = .ok (.iload_n 3, 1) := by decide +kernel
theorem dX2_unitOf_55 : decode cX2_unitOf 55 = .ok (.aload_n 0, 1) := by decide +kernel
theorem dX2_unitOf_56 : decode cX2_unitOf 56 = .ok (.iload_n 3, 1) := by decide +kernel
theorem dX2_unitOf_57 : decode cX2_unitOf 57 = .ok (.invokevirtual 46, 3) := by decide +kernel
theorem dX2_unitOf_60 : decode cX2_unitOf 60 = .ok (.aastore, 1) := by decide +kernel
theorem dX2_unitOf_61 : decode cX2_unitOf 61 = .ok (.aload_n 2, 1) := by decide +kernel
theorem dX2_unitOf_62 : decode cX2_unitOf 62 = .ok (.dup, 1) := by decide +kernel
theorem dX2_unitOf_63 : decode cX2_unitOf 63 = .ok (.getfield 50, 3) := by decide +kernel
theorem dX2_unitOf_66 : decode cX2_unitOf 66 = .ok (.aload_n 2, 1) := by decide +kernel
theorem dX2_unitOf_67 : decode cX2_unitOf 67 = .ok (.getfield 40, 3) := by decide +kernel
theorem dX2_unitOf_70 : decode cX2_unitOf 70 = .ok (.iload_n 3, 1) := by decide +kernel
theorem dX2_unitOf_71 : decode cX2_unitOf 71 = .ok (.aaload, 1) := by decide +kernel
theorem dX2_unitOf_72 : decode cX2_unitOf 72 = .ok (.getfield 54, 3) := by decide +kernel
theorem dX2_unitOf_75 : decode cX2_unitOf 75 = .ok (.iadd, 1) := by decide +kernel
theorem dX2_unitOf_76 : decode cX2_unitOf 76 = .ok (.putfield 50, 3) := by decide +kernel
theorem dX2_unitOf_79 : decode cX2_unitOf 79 = .ok (.iinc 3 1, 3) := by decide +kernel
theorem dX2_unitOf_82 : decode cX2_unitOf 82 = .ok (.goto (-41), 3) := by decide +kernel
theorem dX2_unitOf_85 : decode cX2_unitOf 85 = .ok (.aload_n 2, 1) := by decide +kernel
theorem dX2_unitOf_86 : decode cX2_unitOf 86 = .ok (.areturn, 1) := by decide +kernel
theorem dX2_wideLength_0 : decode cX2_wideLength 0 = .ok (.iload_n 0, 1) := by decide +kernel
theorem dX2_wideLength_1 : decode cX2_wideLength 1 = .ok (.sipush 132, 3) := by decide +kernel
theorem dX2_wideLength_4 : decode cX2_wideLength 4 = .ok (.if_icmp .ne 6, 3) := by decide +kernel
theorem dX2_wideLength_7 : decode cX2_wideLength 7 = .ok (.bipush 6, 2) := by decide +kernel
theorem dX2_wideLength_9 : decode cX2_wideLength 9 = .ok (.ireturn, 1) := by decide +kernel
theorem dX2_wideLength_10 : decode cX2_wideLength 10 = .ok (.iload_n 0, 1) := by decide +kernel
theorem dX2_wideLength_11 : decode cX2_wideLength 11 = .ok (.invokestatic 154, 3) := by decide +kernel
theorem dX2_wideLength_14 : decode cX2_wideLength 14 = .ok (.ifCond .ne 10, 3) := by decide +kernel
theorem dX2_wideLength_17 : decode cX2_wideLength 17 = .ok (.iload_n 0, 1) := by decide +kernel
theorem dX2_wideLength_18 : decode cX2_wideLength 18 = .ok (.invokestatic 157, 3) := by decide +kernel
theorem dX2_wideLength_21 : decode cX2_wideLength 21 = .ok (.ifCond .eq 7, 3) := by decide +kernel
theorem dX2_wideLength_24 : decode cX2_wideLength 24 = .ok (.iconst 4, 1) := by decide +kernel
theorem dX2_wideLength_25 : decode cX2_wideLength 25 = .ok (.goto 4, 3) := by decide +kernel
theorem dX2_wideLength_28 : decode cX2_wideLength 28 = .ok (.iconst 0, 1) := by decide +kernel
theorem dX2_wideLength_29 : decode cX2_wideLength 29 = .ok (.ireturn, 1) := by decide +kernel
theorem dX3_addEdge_0 : decode cX3_addEdge 0 = .ok (.iload_n 2, 1) := by decide +kernel
theorem dX3_addEdge_1 : decode cX3_addEdge 1 = .ok (.ifCond .lt 29, 3) := by decide +kernel
theorem dX3_addEdge_4 : decode cX3_addEdge 4 = .ok (.iload_n 2, 1) := by decide +kernel
theorem dX3_addEdge_5 : decode cX3_addEdge 5 = .ok (.aload_n 0, 1) := by decide +kernel
theorem dX3_addEdge_6 : decode cX3_addEdge 6 = .ok (.getfield 53, 3) := by decide +kernel
theorem dX3_addEdge_9 : decode cX3_addEdge 9 = .ok (.getfield 82, 3) := by decide +kernel
theorem dX3_addEdge_12 : decode cX3_addEdge 12 = .ok (.if_icmp .ge 18, 3) := by decide +kernel
theorem dX3_addEdge_15 : decode cX3_addEdge 15 = .ok (.aload_n 0, 1) := by decide +kernel
theorem dX3_addEdge_16 : decode cX3_addEdge 16 = .ok (.getfield 47, 3) := by decide +kernel
theorem dX3_addEdge_19 : decode cX3_addEdge 19 = .ok (.aload_n 0, 1) := by decide +kernel
theorem dX3_addEdge_20 : decode cX3_addEdge 20 = .ok (.getfield 15, 3) := by decide +kernel
theorem dX3_addEdge_23 : decode cX3_addEdge 23 = .ok (.iload_n 2, 1) := by decide +kernel
theorem dX3_addEdge_24 : decode cX3_addEdge 24 = .ok (.iaload, 1) := by decide +kernel
theorem dX3_addEdge_25 : decode cX3_addEdge 25 = .ok (.iaload, 1) := by decide +kernel
theorem dX3_addEdge_26 : decode cX3_addEdge 26 = .ok (.iload_n 1, 1) := by decide +kernel
theorem dX3_addEdge_27 : decode cX3_addEdge 27 = .ok (.if_icmp .ne 5, 3) := by decide +kernel
theorem dX3_addEdge_30 : decode cX3_addEdge 30 = .ok (.iload_n 3, 1) := by decide +kernel
theorem dX3_addEdge_31 : decode cX3_addEdge 31 = .ok (.ireturn, 1) := by decide +kernel
theorem dX3_addEdge_32 : decode cX3_addEdge 32 = .ok (.iload_n 3, 1) := by decide +kernel
theorem dX3_addEdge_33 : decode cX3_addEdge 33 = .ok (.aload_n 0, 1) := by decide +kernel
theorem dX3_addEdge_34 : decode cX3_addEdge 34 = .ok (.getfield 21, 3) := by decide +kernel
theorem dX3_addEdge_37 : decode cX3_addEdge 37 = .ok (.arraylength, 1) := by decide +kernel

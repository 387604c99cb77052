theorem dX2_tableLength_29 : decode cX2_tableLength 29 = .ok (.getfield 117, 3) := by decide +kernel
theorem dX2_tableLength_32 : decode cX2_tableLength 32 = .ok (.if_icmp .gt 17, 3) := by decide +kernel
theorem dX2_tableLength_35 : decode cX2_tableLength 35 = .ok (.lload_n 3, 1) := by decide +kernel
theorem dX2_tableLength_36 : decode cX2_tableLength 36 = .ok (.lconst 0, 1) := by decide +kernel
theorem dX2_tableLength_37 : decode cX2_tableLength 37 = .ok (.lcmp, 1) := by decide +kernel
theorem dX2_tableLength_38 : decode cX2_tableLength 38 = .ok (.ifCond .lt 11, 3) := by decide +kernel
theorem dX2_tableLength_41 : decode cX2_tableLength 41 = .ok (.lload_n 3, 1) := by decide +kernel
theorem dX2_tableLength_42 : decode cX2_tableLength 42 = .ok (.ldc2_w 164, 3) := by decide +kernel
theorem dX2_tableLength_45 : decode cX2_tableLength 45 = .ok (.lcmp, 1) := by decide +kernel
theorem dX2_tableLength_46 : decode cX2_tableLength 46 = .ok (.ifCond .le 5, 3) := by decide +kernel
theorem dX2_tableLength_49 : decode cX2_tableLength 49 = .ok (.iconst 0, 1) := by decide +kernel
theorem dX2_tableLength_50 : decode cX2_tableLength 50 = .ok (.ireturn, 1) := by decide +kernel
theorem dX2_tableLength_51 : decode cX2_tableLength 51 = .ok (.iload_n 2, 1) := by decide +kernel
theorem dX2_tableLength_52 : decode cX2_tableLength 52 = .ok (.bipush 16, 2) := by decide +kernel
theorem dX2_tableLength_54 : decode cX2_tableLength 54 = .ok (.iadd, 1) := by decide +kernel
theorem dX2_tableLength_55 : decode cX2_tableLength 55 = .ok (.iconst 4, 1) := by decide +kernel
theorem dX2_tableLength_56 : decode cX2_tableLength 56 = .ok (.lload_n 3, 1) := by decide +kernel
theorem dX2_tableLength_57 : decode cX2_tableLength 57 = .ok (.l2i, 1) := by decide +kernel
theorem dX2_tableLength_58 : decode cX2_tableLength 58 = .ok (.imul, 1) := by decide +kernel
theorem dX2_tableLength_59 : decode cX2_tableLength 59 = .ok (.iadd, 1) := by decide +kernel
theorem dX2_tableLength_60 : decode cX2_tableLength 60 = .ok (.iload_n 1, 1) := by decide +kernel
theorem dX2_tableLength_61 : decode cX2_tableLength 61 = .ok (.isub, 1) := by decide +kernel
theorem dX2_tableLength_62 : decode cX2_tableLength 62 = .ok (.ireturn, 1) := by decide +kernel
theorem dX2_tableRoom_0 : decode cX2_tableRoom 0 = .ok (.iconst 0, 1) := by decide +kernel
theorem dX2_tableRoom_1 : decode cX2_tableRoom 1 = .ok (.istore_n 1, 1) := by decide +kernel
theorem dX2_tableRoom_2 : decode cX2_tableRoom 2 = .ok (.iconst 0, 1) := by decide +kernel
theorem dX2_tableRoom_3 : decode cX2_tableRoom 3 = .ok (.istore_n 2, 1) := by decide +kernel
theorem dX2_tableRoom_4 : decode cX2_tableRoom 4 = .ok (.iload_n 2, 1) := by decide +kernel
theorem dX2_tableRoom_5 : decode cX2_tableRoom 5 = .ok (.aload_n 0, 1) := by decide +kernel
theorem dX2_tableRoom_6 : decode cX2_tableRoom 6 = .ok (.getfield 117, 3) := by decide +kernel
theorem dX2_tableRoom_9 : decode cX2_tableRoom 9 = .ok (.if_icmp .ge 65, 3) := by decide +kernel
theorem dX2_tableRoom_12 : decode cX2_tableRoom 12 = .ok (.aload_n 0, 1) := by decide +kernel
theorem dX2_tableRoom_13 : decode cX2_tableRoom 13 = .ok (.iload_n 2, 1) := by decide +kernel
theorem dX2_tableRoom_14 : decode cX2_tableRoom 14 = .ok (.invokevirtual 198, 3) := by decide +kernel
theorem dX2_tableRoom_17 : decode cX2_tableRoom 17 = .ok (.aload_n 0, 1) := by decide +kernel
theorem dX2_tableRoom_18 : decode cX2_tableRoom 18 = .ok (.getfield 169, 3) := by decide +kernel
theorem dX2_tableRoom_21 : decode cX2_tableRoom 21 = .ok (.invokestatic 184, 3) := by decide +kernel
theorem dX2_tableRoom_24 : decode cX2_tableRoom 24 = .ok (.ifCond .eq 35, 3) := by decide +kernel
theorem dX2_tableRoom_27 : decode cX2_tableRoom 27 = .ok (.aload_n 0, 1) := by decide +kernel
theorem dX2_tableRoom_28 : decode cX2_tableRoom 28 = .ok (.aload_n 0, 1) := by decide +kernel
theorem dX2_tableRoom_29 : decode cX2_tableRoom 29 = .ok (.getfield 172, 3) := by decide +kernel
theorem dX2_tableRoom_32 : decode cX2_tableRoom 32 = .ok (.l2i, 1) := by decide +kernel
theorem dX2_tableRoom_33 : decode cX2_tableRoom 33 = .ok (.invokevirtual 237, 3) := by decide +kernel
theorem dX2_tableRoom_36 : decode cX2_tableRoom 36 = .ok (.istore_n 3, 1) := by decide +kernel
theorem dX2_tableRoom_37 : decode cX2_tableRoom 37 = .ok (.iload_n 1, 1) := by decide +kernel
theorem dX2_tableRoom_38 : decode cX2_tableRoom 38 = .ok (.iconst 3, 1) := by decide +kernel
theorem dX2_tableRoom_39 : decode cX2_tableRoom 39 = .ok (.aload_n 0, 1) := by decide +kernel
theorem dX2_tableRoom_40 : decode cX2_tableRoom 40 = .ok (.getfield 169, 3) := by decide +kernel
theorem dX2_tableRoom_43 : decode cX2_tableRoom 43 = .ok (.sipush 170, 3) := by decide +kernel
theorem dX2_tableRoom_46 : decode cX2_tableRoom 46 = .ok (.if_icmp .ne 7, 3) := by decide +kernel
theorem dX2_tableRoom_49 : decode cX2_tableRoom 49 = .ok (.iload_n 3, 1) := by decide +kernel
theorem dX2_tableRoom_50 : decode cX2_tableRoom 50 = .ok (.goto 6, 3) := by decide +kernel
theorem dX2_tableRoom_53 : decode cX2_tableRoom 53 = .ok (.iconst 2, 1) := by decide +kernel
theorem dX2_tableRoom_54 : decode cX2_tableRoom 54 = .ok (.iload_n 3, 1) := by decide +kernel
theorem dX2_tableRoom_55 : decode cX2_tableRoom 55 = .ok (.imul, 1) := by decide +kernel
theorem dX2_tableRoom_56 : decode cX2_tableRoom 56 = .ok (.iadd, 1) := by decide +kernel
theorem dX2_tableRoom_57 : decode cX2_tableRoom 57 = .ok (.iadd, 1) := by decide +kernel
theorem dX2_tableRoom_58 : decode cX2_tableRoom 58 = .ok (.istore_n 1, 1) := by decide +kernel
theorem dX2_tableRoom_59 : decode cX2_tableRoom 59 = .ok (.iload_n 2, 1) := by decide +kernel
theorem dX2_tableRoom_60 : decode cX2_tableRoom 60 = .ok (.iconst 1, 1) := by decide +kernel
theorem dX2_tableRoom_61 : decode cX2_tableRoom 61 = .ok (.aload_n 0, 1) := by decide +kernel
theorem dX2_tableRoom_62 : decode cX2_tableRoom 62 = .ok (.iload_n 2, 1) := by decide +kernel
theorem dX2_tableRoom_63 : decode cX2_tableRoom 63 = .ok (.invokevirtual 133, 3) := by decide +kernel
theorem dX2_tableRoom_66 : decode cX2_tableRoom 66 = .ok (.invokestatic 204, 3) := by decide +kernel
theorem dX2_tableRoom_69 : decode cX2_tableRoom 69 = .ok (.iadd, 1) := by decide +kernel
theorem dX2_tableRoom_70 : decode cX2_tableRoom 70 = .ok (.istore_n 2, 1) := by decide +kernel
theorem dX2_tableRoom_71 : decode cX2_tableRoom 71 = .ok (.goto (-67), 3) := by decide +kernel
theorem dX2_tableRoom_74 : decode cX2_tableRoom 74 = .ok (.iconst 0, 1) := by decide +kernel
theorem dX2_tableRoom_75 : decode cX2_tableRoom 75 = .ok (.iload_n 1, 1) := by decide +kernel
theorem dX2_tableRoom_76 : decode cX2_tableRoom 76 = .ok (.invokestatic 204, 3) := by decide +kernel
theorem dX2_tableRoom_79 : decode cX2_tableRoom 79 = .ok (.ireturn, 1) := by decide +kernel
theorem dX2_targetsHold_0 : decode cX2_targetsHold 0 = .ok (.aload_n 0, 1) := by decide +kernel
theorem dX2_targetsHold_1 : decode cX2_targetsHold 1 = .ok (.getfield 172, 3) := by decide +kernel
theorem dX2_targetsHold_4 : decode cX2_targetsHold 4 = .ok (.l2i, 1) := by decide +kernel
theorem dX2_targetsHold_5 : decode cX2_targetsHold 5 = .ok (.istore_n 1, 1) := by decide +kernel
theorem dX2_targetsHold_6 : decode cX2_targetsHold 6 = .ok (.aload_n 0, 1) := by decide +kernel
theorem dX2_targetsHold_7 : decode cX2_targetsHold 7 = .ok (.iload_n 1, 1) := by decide +kernel
theorem dX2_targetsHold_8 : decode cX2_targetsHold 8 = .ok (.invokevirtual 237, 3) := by decide +kernel
theorem dX2_targetsHold_11 : decode cX2_targetsHold 11 = .ok (.istore_n 2, 1) := by decide +kernel
theorem dX2_targetsHold_12 : decode cX2_targetsHold 12 = .ok (.iconst (-1), 1) := by decide +kernel
theorem dX2_targetsHold_13 : decode cX2_targetsHold 13 = .ok (.istore_n 3, 1) := by decide +kernel
theorem dX2_targetsHold_14 : decode cX2_targetsHold 14 = .ok (.iload_n 3, 1) := by decide +kernel
theorem dX2_targetsHold_15 : decode cX2_targetsHold 15 = .ok (.iload_n 2, 1) := by decide +kernel
theorem dX2_targetsHold_16 : decode cX2_targetsHold 16 = .ok (.if_icmp .ge 24, 3) := by decide +kernel
theorem dX2_targetsHold_19 : decode cX2_targetsHold 19 = .ok (.aload_n 0, 1) := by decide +kernel
theorem dX2_targetsHold_20 : decode cX2_targetsHold 20 = .ok (.aload_n 0, 1) := by decide +kernel
theorem dX2_targetsHold_21 : decode cX2_targetsHold 21 = .ok (.iload_n 1, 1) := by decide +kernel
theorem dX2_targetsHold_22 : decode cX2_targetsHold 22 = .ok (.iload_n 3, 1) := by decide +kernel
theorem dX2_targetsHold_23 : decode cX2_targetsHold 23 = .ok (.invokevirtual 240, 3) := by decide +kernel
theorem dX2_targetsHold_26 : decode cX2_targetsHold 26 = .ok (.invokevirtual 221, 3) := by decide +kernel
theorem dX2_targetsHold_29 : decode cX2_targetsHold 29 = .ok (.ifCond .ne 5, 3) := by decide +kernel
theorem dX2_targetsHold_32 : decode cX2_targetsHold 32 = .ok (.iconst 0, 1) := by decide +kernel
theorem dX2_targetsHold_33 : decode cX2_targetsHold 33 = .ok (.ireturn, 1) := by decide +kernel
theorem dX2_targetsHold_34 : decode cX2_targetsHold 34 = .ok (.iinc 3 1, 3) := by decide +kernel
theorem dX2_targetsHold_37 : decode cX2_targetsHold 37 = .ok (.goto (-23), 3) := by decide +kernel
theorem dX2_targetsHold_40 : decode cX2_targetsHold 40 = .ok (.iconst 1, 1) := by decide +kernel
theorem dX2_targetsHold_41 : decode cX2_targetsHold 41 = .ok (.ireturn, 1) := by decide +kernel
theorem dX2_u1_0 : decode cX2_u1 0 = .ok (.iload_n 1, 1) := by decide +kernel
theorem dX2_u1_1 : decode cX2_u1 1 = .ok (.ifCond .lt 11, 3) := by decide +kernel
theorem dX2_u1_4 : decode cX2_u1 4 = .ok (.iload_n 1, 1) := by decide +kernel
theorem dX2_u1_5 : decode cX2_u1 5 = .ok (.aload_n 0, 1) := by decide +kernel
theorem dX2_u1_6 : decode cX2_u1 6 = .ok (.getfield 117, 3) := by decide +kernel
theorem dX2_u1_9 : decode cX2_u1 9 = .ok (.if_icmp .lt 7, 3) := by decide +kernel
theorem dX2_u1_12 : decode cX2_u1 12 = .ok (.iconst 0, 1) := by decide +kernel
theorem dX2_u1_13 : decode cX2_u1 13 = .ok (.goto 16, 3) := by decide +kernel
theorem dX2_u1_16 : decode cX2_u1 16 = .ok (.aload_n 0, 1) := by decide +kernel
theorem dX2_u1_17 : decode cX2_u1 17 = .ok (.getfield 12, 3) := by decide +kernel
theorem dX2_u1_20 : decode cX2_u1 20 = .ok (.aload_n 0, 1) := by decide +kernel
theorem dX2_u1_21 : decode cX2_u1 21 = .ok (.getfield 120, 3) := by decide +kernel
theorem dX2_u1_24 : decode cX2_u1 24 = .ok (.iload_n 1, 1) := by decide +kernel
theorem dX2_u1_25 : decode cX2_u1 25 = .ok (.iadd, 1) := by decide +kernel
theorem dX2_u1_26 : decode cX2_u1 26 = .ok (.invokevirtual 136, 3) := by decide +kernel
theorem dX2_u1_29 : decode cX2_u1 29 = .ok (.ireturn, 1) := by decide +kernel
theorem dX2_u2_0 : decode cX2_u2 0 = .ok (.iload_n 1, 1) := by decide +kernel
theorem dX2_u2_1 : decode cX2_u2 1 = .ok (.ifCond .lt 13, 3) := by decide +kernel
theorem dX2_u2_4 : decode cX2_u2 4 = .ok (.iload_n 1, 1) := by decide +kernel
theorem dX2_u2_5 : decode cX2_u2 5 = .ok (.aload_n 0, 1) := by decide +kernel
theorem dX2_u2_6 : decode cX2_u2 6 = .ok (.getfield 117, 3) := by decide +kernel
theorem dX2_u2_9 : decode cX2_u2 9 = .ok (.iconst 2, 1) := by decide +kernel
theorem dX2_u2_10 : decode cX2_u2 10 = .ok (.isub, 1) := by decide +kernel
theorem dX2_u2_11 : decode cX2_u2 11 = .ok (.if_icmp .le 7, 3) := by decide +kernel
theorem dX2_u2_14 : decode cX2_u2 14 = .ok (.iconst 0, 1) := by decide +kernel
theorem dX2_u2_15 : decode cX2_u2 15 = .ok (.goto 16, 3) := by decide +kernel
theorem dX2_u2_18 : decode cX2_u2 18 = .ok (.aload_n 0, 1) := by decide +kernel
theorem dX2_u2_19 : decode cX2_u2 19 = .ok (.getfield 12, 3) := by decide +kernel
theorem dX2_u2_22 : decode cX2_u2 22 = .ok (.aload_n 0, 1) := by decide +kernel
theorem dX2_u2_23 : decode cX2_u2 23 = .ok (.getfield 120, 3) := by decide +kernel
theorem dX2_u2_26 : decode cX2_u2 26 = .ok (.iload_n 1, 1) := by decide +kernel
theorem dX2_u2_27 : decode cX2_u2 27 = .ok (.iadd, 1) := by decide +kernel
theorem dX2_u2_28 : decode cX2_u2 28 = .ok (.invokevirtual 90, 3) := by decide +kernel
theorem dX2_u2_31 : decode cX2_u2 31 = .ok (.ireturn, 1) := by decide +kernel
theorem dX2_unitOf_0 : decode cX2_unitOf 0 = .ok (.aload_n 0, 1) := by decide +kernel
theorem dX2_unitOf_1 : decode cX2_unitOf 1 = .ok (.getfield 12, 3) := by decide +kernel
theorem dX2_unitOf_4 : decode cX2_unitOf 4 = .ok (.aload_n 1, 1) := by decide +kernel
theorem dX2_unitOf_5 : decode cX2_unitOf 5 = .ok (.invokevirtual 22, 3) := by decide +kernel
theorem dX2_unitOf_8 : decode cX2_unitOf 8 = .ok (.ifCond .eq 24, 3) := by decide +kernel
theorem dX2_unitOf_11 : decode cX2_unitOf 11 = .ok (.aload_n 0, 1) := by decide +kernel
theorem dX2_unitOf_12 : decode cX2_unitOf 12 = .ok (.invokevirtual 26, 3) := by decide +kernel
theorem dX2_unitOf_15 : decode cX2_unitOf 15 = .ok (.ifCond .eq 17, 3) := by decide +kernel
theorem dX2_unitOf_18 : decode cX2_unitOf 18 = .ok (.aload_n 0, 1) := by decide +kernel
theorem dX2_unitOf_19 : decode cX2_unitOf 19 = .ok (.invokevirtual 30, 3) := by decide +kernel
theorem dX2_unitOf_22 : decode cX2_unitOf 22 = .ok (.ifCond .eq 10, 3) := by decide +kernel
theorem dX2_unitOf_25 : decode cX2_unitOf 25 = .ok (.aload_n 0, 1) := by decide +kernel
theorem dX2_unitOf_26 : decode cX2_unitOf 26 = .ok (.invokevirtual 33, 3) := by decide +kernel
theorem dX2_unitOf_29 : decode cX2_unitOf 29 = .ok (.ifCond .ne 5, 3) := by decide +kernel
theorem dX2_unitOf_32 : decode cX2_unitOf 32 = .ok (.aconst_null, 1) := by decide +kernel
theorem dX2_unitOf_33 : decode cX2_unitOf 33 = .ok (.areturn, 1) := by decide +kernel
theorem dX2_unitOf_34 : decode cX2_unitOf 34 = .ok (.aload_n 0, 1) := by decide +kernel
theorem dX2_unitOf_35 : decode cX2_unitOf 35 = .ok (.invokevirtual 36, 3) := by decide +kernel
theorem dX2_unitOf_38 : decode cX2_unitOf 38 = .ok (.astore_n 2, 1) := by decide +kernel

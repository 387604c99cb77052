theorem dX7_u2_1 : decode cX7_u2 1 = .ok (.ifCond .lt 25, 3) := by decide +kernel
theorem dX7_u2_4 : decode cX7_u2 4 = .ok (.iload_n 1, 1) := by decide +kernel
theorem dX7_u2_5 : decode cX7_u2 5 = .ok (.aload_n 0, 1) := by decide +kernel
theorem dX7_u2_6 : decode cX7_u2 6 = .ok (.getfield 38, 3) := by decide +kernel
theorem dX7_u2_9 : decode cX7_u2 9 = .ok (.iconst 2, 1) := by decide +kernel
theorem dX7_u2_10 : decode cX7_u2 10 = .ok (.isub, 1) := by decide +kernel
theorem dX7_u2_11 : decode cX7_u2 11 = .ok (.if_icmp .gt 15, 3) := by decide +kernel
theorem dX7_u2_14 : decode cX7_u2 14 = .ok (.aload_n 0, 1) := by decide +kernel
theorem dX7_u2_15 : decode cX7_u2 15 = .ok (.getfield 38, 3) := by decide +kernel
theorem dX7_u2_18 : decode cX7_u2 18 = .ok (.aload_n 0, 1) := by decide +kernel
theorem dX7_u2_19 : decode cX7_u2 19 = .ok (.getfield 9, 3) := by decide +kernel
theorem dX7_u2_22 : decode cX7_u2 22 = .ok (.arraylength, 1) := by decide +kernel
theorem dX7_u2_23 : decode cX7_u2 23 = .ok (.if_icmp .le 5, 3) := by decide +kernel
theorem dX7_u2_26 : decode cX7_u2 26 = .ok (.iconst 0, 1) := by decide +kernel
theorem dX7_u2_27 : decode cX7_u2 27 = .ok (.ireturn, 1) := by decide +kernel
theorem dX7_u2_28 : decode cX7_u2 28 = .ok (.aload_n 0, 1) := by decide +kernel
theorem dX7_u2_29 : decode cX7_u2 29 = .ok (.getfield 9, 3) := by decide +kernel
theorem dX7_u2_32 : decode cX7_u2 32 = .ok (.iload_n 1, 1) := by decide +kernel
theorem dX7_u2_33 : decode cX7_u2 33 = .ok (.baload, 1) := by decide +kernel
theorem dX7_u2_34 : decode cX7_u2 34 = .ok (.sipush 255, 3) := by decide +kernel
theorem dX7_u2_37 : decode cX7_u2 37 = .ok (.iand, 1) := by decide +kernel
theorem dX7_u2_38 : decode cX7_u2 38 = .ok (.bipush 8, 2) := by decide +kernel
theorem dX7_u2_40 : decode cX7_u2 40 = .ok (.ishl, 1) := by decide +kernel
theorem dX7_u2_41 : decode cX7_u2 41 = .ok (.aload_n 0, 1) := by decide +kernel
theorem dX7_u2_42 : decode cX7_u2 42 = .ok (.getfield 9, 3) := by decide +kernel
theorem dX7_u2_45 : decode cX7_u2 45 = .ok (.iload_n 1, 1) := by decide +kernel
theorem dX7_u2_46 : decode cX7_u2 46 = .ok (.iconst 1, 1) := by decide +kernel
theorem dX7_u2_47 : decode cX7_u2 47 = .ok (.iadd, 1) := by decide +kernel
theorem dX7_u2_48 : decode cX7_u2 48 = .ok (.baload, 1) := by decide +kernel
theorem dX7_u2_49 : decode cX7_u2 49 = .ok (.sipush 255, 3) := by decide +kernel
theorem dX7_u2_52 : decode cX7_u2 52 = .ok (.iand, 1) := by decide +kernel
theorem dX7_u2_53 : decode cX7_u2 53 = .ok (.ior, 1) := by decide +kernel
theorem dX7_u2_54 : decode cX7_u2 54 = .ok (.ireturn, 1) := by decide +kernel
theorem dX7_u4_0 : decode cX7_u4 0 = .ok (.aload_n 0, 1) := by decide +kernel
theorem dX7_u4_1 : decode cX7_u4 1 = .ok (.iload_n 1, 1) := by decide +kernel
theorem dX7_u4_2 : decode cX7_u4 2 = .ok (.invokevirtual 91, 3) := by decide +kernel
theorem dX7_u4_5 : decode cX7_u4 5 = .ok (.i2l, 1) := by decide +kernel
theorem dX7_u4_6 : decode cX7_u4 6 = .ok (.ldc2_w 95, 3) := by decide +kernel
theorem dX7_u4_9 : decode cX7_u4 9 = .ok (.land, 1) := by decide +kernel
theorem dX7_u4_10 : decode cX7_u4 10 = .ok (.lreturn, 1) := by decide +kernel
theorem dX8_add_0 : decode cX8_add 0 = .ok (.aload_n 0, 1) := by decide +kernel
theorem dX8_add_1 : decode cX8_add 1 = .ok (.getfield 34, 3) := by decide +kernel
theorem dX8_add_4 : decode cX8_add 4 = .ok (.aload_n 0, 1) := by decide +kernel
theorem dX8_add_5 : decode cX8_add 5 = .ok (.getfield 9, 3) := by decide +kernel
theorem dX8_add_8 : decode cX8_add 8 = .ok (.arraylength, 1) := by decide +kernel
theorem dX8_add_9 : decode cX8_add 9 = .ok (.if_icmp .ge 23, 3) := by decide +kernel
theorem dX8_add_12 : decode cX8_add 12 = .ok (.aload_n 0, 1) := by decide +kernel
theorem dX8_add_13 : decode cX8_add 13 = .ok (.aload_n 0, 1) := by decide +kernel
theorem dX8_add_14 : decode cX8_add 14 = .ok (.getfield 34, 3) := by decide +kernel
theorem dX8_add_17 : decode cX8_add 17 = .ok (.iload_n 1, 1) := by decide +kernel
theorem dX8_add_18 : decode cX8_add 18 = .ok (.lload_n 2, 1) := by decide +kernel
theorem dX8_add_19 : decode cX8_add 19 = .ok (.invokevirtual 45, 3) := by decide +kernel
theorem dX8_add_22 : decode cX8_add 22 = .ok (.aload_n 0, 1) := by decide +kernel
theorem dX8_add_23 : decode cX8_add 23 = .ok (.dup, 1) := by decide +kernel
theorem dX8_add_24 : decode cX8_add 24 = .ok (.getfield 34, 3) := by decide +kernel
theorem dX8_add_27 : decode cX8_add 27 = .ok (.iconst 1, 1) := by decide +kernel
theorem dX8_add_28 : decode cX8_add 28 = .ok (.iadd, 1) := by decide +kernel
theorem dX8_add_29 : decode cX8_add 29 = .ok (.putfield 34, 3) := by decide +kernel
theorem dX8_add_32 : decode cX8_add 32 = .ok (.return_, 1) := by decide +kernel
theorem dX8_addCatch_0 : decode cX8_addCatch 0 = .ok (.aload_n 0, 1) := by decide +kernel
theorem dX8_addCatch_1 : decode cX8_addCatch 1 = .ok (.getfield 49, 3) := by decide +kernel
theorem dX8_addCatch_4 : decode cX8_addCatch 4 = .ok (.aload_n 0, 1) := by decide +kernel
theorem dX8_addCatch_5 : decode cX8_addCatch 5 = .ok (.getfield 22, 3) := by decide +kernel
theorem dX8_addCatch_8 : decode cX8_addCatch 8 = .ok (.arraylength, 1) := by decide +kernel
theorem dX8_addCatch_9 : decode cX8_addCatch 9 = .ok (.if_icmp .ge 54, 3) := by decide +kernel
theorem dX8_addCatch_12 : decode cX8_addCatch 12 = .ok (.aload_n 0, 1) := by decide +kernel
theorem dX8_addCatch_13 : decode cX8_addCatch 13 = .ok (.getfield 22, 3) := by decide +kernel
theorem dX8_addCatch_16 : decode cX8_addCatch 16 = .ok (.aload_n 0, 1) := by decide +kernel
theorem dX8_addCatch_17 : decode cX8_addCatch 17 = .ok (.getfield 49, 3) := by decide +kernel
theorem dX8_addCatch_20 : decode cX8_addCatch 20 = .ok (.iload_n 1, 1) := by decide +kernel
theorem dX8_addCatch_21 : decode cX8_addCatch 21 = .ok (.iastore, 1) := by decide +kernel
theorem dX8_addCatch_22 : decode cX8_addCatch 22 = .ok (.aload_n 0, 1) := by decide +kernel
theorem dX8_addCatch_23 : decode cX8_addCatch 23 = .ok (.getfield 25, 3) := by decide +kernel
theorem dX8_addCatch_26 : decode cX8_addCatch 26 = .ok (.aload_n 0, 1) := by decide +kernel
theorem dX8_addCatch_27 : decode cX8_addCatch 27 = .ok (.getfield 49, 3) := by decide +kernel
theorem dX8_addCatch_30 : decode cX8_addCatch 30 = .ok (.iload_n 2, 1) := by decide +kernel
theorem dX8_addCatch_31 : decode cX8_addCatch 31 = .ok (.iastore, 1) := by decide +kernel
theorem dX8_addCatch_32 : decode cX8_addCatch 32 = .ok (.aload_n 0, 1) := by decide +kernel
theorem dX8_addCatch_33 : decode cX8_addCatch 33 = .ok (.getfield 28, 3) := by decide +kernel
theorem dX8_addCatch_36 : decode cX8_addCatch 36 = .ok (.aload_n 0, 1) := by decide +kernel
theorem dX8_addCatch_37 : decode cX8_addCatch 37 = .ok (.getfield 49, 3) := by decide +kernel
theorem dX8_addCatch_40 : decode cX8_addCatch 40 = .ok (.iload_n 3, 1) := by decide +kernel
theorem dX8_addCatch_41 : decode cX8_addCatch 41 = .ok (.iastore, 1) := by decide +kernel
theorem dX8_addCatch_42 : decode cX8_addCatch 42 = .ok (.aload_n 0, 1) := by decide +kernel
theorem dX8_addCatch_43 : decode cX8_addCatch 43 = .ok (.getfield 31, 3) := by decide +kernel
theorem dX8_addCatch_46 : decode cX8_addCatch 46 = .ok (.aload_n 0, 1) := by decide +kernel
theorem dX8_addCatch_47 : decode cX8_addCatch 47 = .ok (.getfield 49, 3) := by decide +kernel
theorem dX8_addCatch_50 : decode cX8_addCatch 50 = .ok (.iload 4, 2) := by decide +kernel
theorem dX8_addCatch_52 : decode cX8_addCatch 52 = .ok (.iastore, 1) := by decide +kernel
theorem dX8_addCatch_53 : decode cX8_addCatch 53 = .ok (.aload_n 0, 1) := by decide +kernel
theorem dX8_addCatch_54 : decode cX8_addCatch 54 = .ok (.dup, 1) := by decide +kernel
theorem dX8_addCatch_55 : decode cX8_addCatch 55 = .ok (.getfield 49, 3) := by decide +kernel
theorem dX8_addCatch_58 : decode cX8_addCatch 58 = .ok (.iconst 1, 1) := by decide +kernel
theorem dX8_addCatch_59 : decode cX8_addCatch 59 = .ok (.iadd, 1) := by decide +kernel
theorem dX8_addCatch_60 : decode cX8_addCatch 60 = .ok (.putfield 49, 3) := by decide +kernel
theorem dX8_addCatch_63 : decode cX8_addCatch 63 = .ok (.return_, 1) := by decide +kernel
theorem dX8_addToTable_0 : decode cX8_addToTable 0 = .ok (.aload_n 0, 1) := by decide +kernel
theorem dX8_addToTable_1 : decode cX8_addToTable 1 = .ok (.getfield 38, 3) := by decide +kernel
theorem dX8_addToTable_4 : decode cX8_addToTable 4 = .ok (.aload_n 0, 1) := by decide +kernel
theorem dX8_addToTable_5 : decode cX8_addToTable 5 = .ok (.getfield 19, 3) := by decide +kernel
theorem dX8_addToTable_8 : decode cX8_addToTable 8 = .ok (.arraylength, 1) := by decide +kernel
theorem dX8_addToTable_9 : decode cX8_addToTable 9 = .ok (.if_icmp .ge 23, 3) := by decide +kernel
theorem dX8_addToTable_12 : decode cX8_addToTable 12 = .ok (.aload_n 0, 1) := by decide +kernel
theorem dX8_addToTable_13 : decode cX8_addToTable 13 = .ok (.getfield 19, 3) := by decide +kernel
theorem dX8_addToTable_16 : decode cX8_addToTable 16 = .ok (.aload_n 0, 1) := by decide +kernel
theorem dX8_addToTable_17 : decode cX8_addToTable 17 = .ok (.getfield 38, 3) := by decide +kernel
theorem dX8_addToTable_20 : decode cX8_addToTable 20 = .ok (.iload_n 1, 1) := by decide +kernel
theorem dX8_addToTable_21 : decode cX8_addToTable 21 = .ok (.iastore, 1) := by decide +kernel
theorem dX8_addToTable_22 : decode cX8_addToTable 22 = .ok (.aload_n 0, 1) := by decide +kernel
theorem dX8_addToTable_23 : decode cX8_addToTable 23 = .ok (.dup, 1) := by decide +kernel
theorem dX8_addToTable_24 : decode cX8_addToTable 24 = .ok (.getfield 38, 3) := by decide +kernel
theorem dX8_addToTable_27 : decode cX8_addToTable 27 = .ok (.iconst 1, 1) := by decide +kernel
theorem dX8_addToTable_28 : decode cX8_addToTable 28 = .ok (.iadd, 1) := by decide +kernel
theorem dX8_addToTable_29 : decode cX8_addToTable 29 = .ok (.putfield 38, 3) := by decide +kernel
theorem dX8_addToTable_32 : decode cX8_addToTable 32 = .ok (.return_, 1) := by decide +kernel
theorem dX8_argAt_0 : decode cX8_argAt 0 = .ok (.iload_n 1, 1) := by decide +kernel
theorem dX8_argAt_1 : decode cX8_argAt 1 = .ok (.ifCond .lt 11, 3) := by decide +kernel
theorem dX8_argAt_4 : decode cX8_argAt 4 = .ok (.iload_n 1, 1) := by decide +kernel
theorem dX8_argAt_5 : decode cX8_argAt 5 = .ok (.aload_n 0, 1) := by decide +kernel
theorem dX8_argAt_6 : decode cX8_argAt 6 = .ok (.getfield 34, 3) := by decide +kernel
theorem dX8_argAt_9 : decode cX8_argAt 9 = .ok (.if_icmp .lt 7, 3) := by decide +kernel
theorem dX8_argAt_12 : decode cX8_argAt 12 = .ok (.lconst 0, 1) := by decide +kernel
theorem dX8_argAt_13 : decode cX8_argAt 13 = .ok (.goto 9, 3) := by decide +kernel
theorem dX8_argAt_16 : decode cX8_argAt 16 = .ok (.aload_n 0, 1) := by decide +kernel
theorem dX8_argAt_17 : decode cX8_argAt 17 = .ok (.getfield 15, 3) := by decide +kernel
theorem dX8_argAt_20 : decode cX8_argAt 20 = .ok (.iload_n 1, 1) := by decide +kernel
theorem dX8_argAt_21 : decode cX8_argAt 21 = .ok (.laload, 1) := by decide +kernel
theorem dX8_argAt_22 : decode cX8_argAt 22 = .ok (.lreturn, 1) := by decide +kernel
theorem dX8_behindRemoved_0 : decode cX8_behindRemoved 0 = .ok (.iload_n 0, 1) := by decide +kernel
theorem dX8_behindRemoved_1 : decode cX8_behindRemoved 1 = .ok (.iload_n 1, 1) := by decide +kernel
theorem dX8_behindRemoved_2 : decode cX8_behindRemoved 2 = .ok (.if_icmp .gt 7, 3) := by decide +kernel
theorem dX8_behindRemoved_5 : decode cX8_behindRemoved 5 = .ok (.iload_n 0, 1) := by decide +kernel
theorem dX8_behindRemoved_6 : decode cX8_behindRemoved 6 = .ok (.goto 10, 3) := by decide +kernel
theorem dX8_behindRemoved_9 : decode cX8_behindRemoved 9 = .ok (.iload_n 1, 1) := by decide +kernel
theorem dX8_behindRemoved_10 : decode cX8_behindRemoved 10 = .ok (.iload_n 0, 1) := by decide +kernel
theorem dX8_behindRemoved_11 : decode cX8_behindRemoved 11 = .ok (.iload_n 2, 1) := by decide +kernel
theorem dX8_behindRemoved_12 : decode cX8_behindRemoved 12 = .ok (.isub, 1) := by decide +kernel
theorem dX8_behindRemoved_13 : decode cX8_behindRemoved 13 = .ok (.invokestatic 112, 3) := by decide +kernel
theorem dX8_behindRemoved_16 : decode cX8_behindRemoved 16 = .ok (.ireturn, 1) := by decide +kernel
theorem dX8_catchHas_0 : decode cX8_catchHas 0 = .ok (.iload_n 1, 1) := by decide +kernel
theorem dX8_catchHas_1 : decode cX8_catchHas 1 = .ok (.ifCond .lt 35, 3) := by decide +kernel
theorem dX8_catchHas_4 : decode cX8_catchHas 4 = .ok (.iload_n 1, 1) := by decide +kernel
theorem dX8_catchHas_5 : decode cX8_catchHas 5 = .ok (.aload_n 0, 1) := by decide +kernel
theorem dX8_catchHas_6 : decode cX8_catchHas 6 = .ok (.getfield 49, 3) := by decide +kernel
theorem dX8_catchHas_9 : decode cX8_catchHas 9 = .ok (.if_icmp .ge 27, 3) := by decide +kernel
theorem dX8_catchHas_12 : decode cX8_catchHas 12 = .ok (.aload_n 0, 1) := by decide +kernel
theorem dX8_catchHas_13 : decode cX8_catchHas 13 = .ok (.getfield 22, 3) := by decide +kernel
theorem dX8_catchHas_16 : decode cX8_catchHas 16 = .ok (.iload_n 1, 1) := by decide +kernel
theorem dX8_catchHas_17 : decode cX8_catchHas 17 = .ok (.iaload, 1) := by decide +kernel
theorem dX8_catchHas_18 : decode cX8_catchHas 18 = .ok (.iload_n 2, 1) := by decide +kernel

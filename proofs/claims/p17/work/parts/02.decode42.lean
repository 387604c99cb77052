theorem dX3_addToLoop_37 : decode cX3_addToLoop 37 = .ok (.aload_n 0, 1) := by decide +kernel
theorem dX3_addToLoop_38 : decode cX3_addToLoop 38 = .ok (.getfield 44, 3) := by decide +kernel
theorem dX3_addToLoop_41 : decode cX3_addToLoop 41 = .ok (.iload_n 2, 1) := by decide +kernel
theorem dX3_addToLoop_42 : decode cX3_addToLoop 42 = .ok (.dup2, 1) := by decide +kernel
theorem dX3_addToLoop_43 : decode cX3_addToLoop 43 = .ok (.iaload, 1) := by decide +kernel
theorem dX3_addToLoop_44 : decode cX3_addToLoop 44 = .ok (.iconst 1, 1) := by decide +kernel
theorem dX3_addToLoop_45 : decode cX3_addToLoop 45 = .ok (.iadd, 1) := by decide +kernel
theorem dX3_addToLoop_46 : decode cX3_addToLoop 46 = .ok (.iastore, 1) := by decide +kernel
theorem dX3_addToLoop_47 : decode cX3_addToLoop 47 = .ok (.aload_n 0, 1) := by decide +kernel
theorem dX3_addToLoop_48 : decode cX3_addToLoop 48 = .ok (.getfield 50, 3) := by decide +kernel
theorem dX3_addToLoop_51 : decode cX3_addToLoop 51 = .ok (.iload_n 3, 1) := by decide +kernel
theorem dX3_addToLoop_52 : decode cX3_addToLoop 52 = .ok (.iload_n 2, 1) := by decide +kernel
theorem dX3_addToLoop_53 : decode cX3_addToLoop 53 = .ok (.iastore, 1) := by decide +kernel
theorem dX3_addToLoop_54 : decode cX3_addToLoop 54 = .ok (.iload_n 3, 1) := by decide +kernel
theorem dX3_addToLoop_55 : decode cX3_addToLoop 55 = .ok (.iconst 1, 1) := by decide +kernel
theorem dX3_addToLoop_56 : decode cX3_addToLoop 56 = .ok (.iadd, 1) := by decide +kernel
theorem dX3_addToLoop_57 : decode cX3_addToLoop 57 = .ok (.ireturn, 1) := by decide +kernel
theorem dX3_begin_0 : decode cX3_begin 0 = .ok (.iload_n 1, 1) := by decide +kernel
theorem dX3_begin_1 : decode cX3_begin 1 = .ok (.ifCond .lt 21, 3) := by decide +kernel
theorem dX3_begin_4 : decode cX3_begin 4 = .ok (.iload_n 1, 1) := by decide +kernel
theorem dX3_begin_5 : decode cX3_begin 5 = .ok (.aload_n 0, 1) := by decide +kernel
theorem dX3_begin_6 : decode cX3_begin 6 = .ok (.getfield 53, 3) := by decide +kernel
theorem dX3_begin_9 : decode cX3_begin 9 = .ok (.getfield 82, 3) := by decide +kernel
theorem dX3_begin_12 : decode cX3_begin 12 = .ok (.if_icmp .ge 10, 3) := by decide +kernel
theorem dX3_begin_15 : decode cX3_begin 15 = .ok (.aload_n 0, 1) := by decide +kernel
theorem dX3_begin_16 : decode cX3_begin 16 = .ok (.getfield 15, 3) := by decide +kernel
theorem dX3_begin_19 : decode cX3_begin 19 = .ok (.iload_n 1, 1) := by decide +kernel
theorem dX3_begin_20 : decode cX3_begin 20 = .ok (.iconst 1, 1) := by decide +kernel
theorem dX3_begin_21 : decode cX3_begin 21 = .ok (.iastore, 1) := by decide +kernel
theorem dX3_begin_22 : decode cX3_begin 22 = .ok (.return_, 1) := by decide +kernel
theorem dX3_blockAt_0 : decode cX3_blockAt 0 = .ok (.iload_n 1, 1) := by decide +kernel
theorem dX3_blockAt_1 : decode cX3_blockAt 1 = .ok (.ifCond .lt 23, 3) := by decide +kernel
theorem dX3_blockAt_4 : decode cX3_blockAt 4 = .ok (.iload_n 1, 1) := by decide +kernel
theorem dX3_blockAt_5 : decode cX3_blockAt 5 = .ok (.aload_n 0, 1) := by decide +kernel
theorem dX3_blockAt_6 : decode cX3_blockAt 6 = .ok (.getfield 15, 3) := by decide +kernel
theorem dX3_blockAt_9 : decode cX3_blockAt 9 = .ok (.arraylength, 1) := by decide +kernel
theorem dX3_blockAt_10 : decode cX3_blockAt 10 = .ok (.if_icmp .ge 14, 3) := by decide +kernel
theorem dX3_blockAt_13 : decode cX3_blockAt 13 = .ok (.iload_n 1, 1) := by decide +kernel
theorem dX3_blockAt_14 : decode cX3_blockAt 14 = .ok (.aload_n 0, 1) := by decide +kernel
theorem dX3_blockAt_15 : decode cX3_blockAt 15 = .ok (.getfield 53, 3) := by decide +kernel
theorem dX3_blockAt_18 : decode cX3_blockAt 18 = .ok (.getfield 82, 3) := by decide +kernel
theorem dX3_blockAt_21 : decode cX3_blockAt 21 = .ok (.if_icmp .lt 5, 3) := by decide +kernel
theorem dX3_blockAt_24 : decode cX3_blockAt 24 = .ok (.iconst (-1), 1) := by decide +kernel
theorem dX3_blockAt_25 : decode cX3_blockAt 25 = .ok (.ireturn, 1) := by decide +kernel
theorem dX3_blockAt_26 : decode cX3_blockAt 26 = .ok (.aload_n 0, 1) := by decide +kernel
theorem dX3_blockAt_27 : decode cX3_blockAt 27 = .ok (.getfield 15, 3) := by decide +kernel
theorem dX3_blockAt_30 : decode cX3_blockAt 30 = .ok (.iload_n 1, 1) := by decide +kernel
theorem dX3_blockAt_31 : decode cX3_blockAt 31 = .ok (.iaload, 1) := by decide +kernel
theorem dX3_blockAt_32 : decode cX3_blockAt 32 = .ok (.istore_n 2, 1) := by decide +kernel
theorem dX3_blockAt_33 : decode cX3_blockAt 33 = .ok (.iload_n 2, 1) := by decide +kernel
theorem dX3_blockAt_34 : decode cX3_blockAt 34 = .ok (.ifCond .lt 25, 3) := by decide +kernel
theorem dX3_blockAt_37 : decode cX3_blockAt 37 = .ok (.iload_n 2, 1) := by decide +kernel
theorem dX3_blockAt_38 : decode cX3_blockAt 38 = .ok (.aload_n 0, 1) := by decide +kernel
theorem dX3_blockAt_39 : decode cX3_blockAt 39 = .ok (.getfield 78, 3) := by decide +kernel
theorem dX3_blockAt_42 : decode cX3_blockAt 42 = .ok (.if_icmp .ge 17, 3) := by decide +kernel
theorem dX3_blockAt_45 : decode cX3_blockAt 45 = .ok (.aload_n 0, 1) := by decide +kernel
theorem dX3_blockAt_46 : decode cX3_blockAt 46 = .ok (.getfield 9, 3) := by decide +kernel
theorem dX3_blockAt_49 : decode cX3_blockAt 49 = .ok (.iload_n 2, 1) := by decide +kernel
theorem dX3_blockAt_50 : decode cX3_blockAt 50 = .ok (.iaload, 1) := by decide +kernel
theorem dX3_blockAt_51 : decode cX3_blockAt 51 = .ok (.iload_n 1, 1) := by decide +kernel
theorem dX3_blockAt_52 : decode cX3_blockAt 52 = .ok (.if_icmp .ne 7, 3) := by decide +kernel
theorem dX3_blockAt_55 : decode cX3_blockAt 55 = .ok (.iload_n 2, 1) := by decide +kernel
theorem dX3_blockAt_56 : decode cX3_blockAt 56 = .ok (.goto 4, 3) := by decide +kernel
theorem dX3_blockAt_59 : decode cX3_blockAt 59 = .ok (.iconst (-1), 1) := by decide +kernel
theorem dX3_blockAt_60 : decode cX3_blockAt 60 = .ok (.ireturn, 1) := by decide +kernel
theorem dX3_dominates_0 : decode cX3_dominates 0 = .ok (.aload_n 0, 1) := by decide +kernel
theorem dX3_dominates_1 : decode cX3_dominates 1 = .ok (.getfield 34, 3) := by decide +kernel
theorem dX3_dominates_4 : decode cX3_dominates 4 = .ok (.iload_n 2, 1) := by decide +kernel
theorem dX3_dominates_5 : decode cX3_dominates 5 = .ok (.aload_n 0, 1) := by decide +kernel
theorem dX3_dominates_6 : decode cX3_dominates 6 = .ok (.getfield 124, 3) := by decide +kernel
theorem dX3_dominates_9 : decode cX3_dominates 9 = .ok (.imul, 1) := by decide +kernel
theorem dX3_dominates_10 : decode cX3_dominates 10 = .ok (.iload_n 1, 1) := by decide +kernel
theorem dX3_dominates_11 : decode cX3_dominates 11 = .ok (.bipush 6, 2) := by decide +kernel
theorem dX3_dominates_13 : decode cX3_dominates 13 = .ok (.ishr, 1) := by decide +kernel
theorem dX3_dominates_14 : decode cX3_dominates 14 = .ok (.iadd, 1) := by decide +kernel
theorem dX3_dominates_15 : decode cX3_dominates 15 = .ok (.laload, 1) := by decide +kernel
theorem dX3_dominates_16 : decode cX3_dominates 16 = .ok (.iload_n 1, 1) := by decide +kernel
theorem dX3_dominates_17 : decode cX3_dominates 17 = .ok (.bipush 63, 2) := by decide +kernel
theorem dX3_dominates_19 : decode cX3_dominates 19 = .ok (.iand, 1) := by decide +kernel
theorem dX3_dominates_20 : decode cX3_dominates 20 = .ok (.lushr, 1) := by decide +kernel
theorem dX3_dominates_21 : decode cX3_dominates 21 = .ok (.lconst 1, 1) := by decide +kernel
theorem dX3_dominates_22 : decode cX3_dominates 22 = .ok (.land, 1) := by decide +kernel
theorem dX3_dominates_23 : decode cX3_dominates 23 = .ok (.lconst 0, 1) := by decide +kernel
theorem dX3_dominates_24 : decode cX3_dominates 24 = .ok (.lcmp, 1) := by decide +kernel
theorem dX3_dominates_25 : decode cX3_dominates 25 = .ok (.ifCond .eq 7, 3) := by decide +kernel
theorem dX3_dominates_28 : decode cX3_dominates 28 = .ok (.iconst 1, 1) := by decide +kernel
theorem dX3_dominates_29 : decode cX3_dominates 29 = .ok (.goto 4, 3) := by decide +kernel
theorem dX3_dominates_32 : decode cX3_dominates 32 = .ok (.iconst 0, 1) := by decide +kernel
theorem dX3_dominates_33 : decode cX3_dominates 33 = .ok (.ireturn, 1) := by decide +kernel
theorem dX3_dominatorCount_0 : decode cX3_dominatorCount 0 = .ok (.iconst 0, 1) := by decide +kernel
theorem dX3_dominatorCount_1 : decode cX3_dominatorCount 1 = .ok (.istore_n 2, 1) := by decide +kernel
theorem dX3_dominatorCount_2 : decode cX3_dominatorCount 2 = .ok (.iconst 0, 1) := by decide +kernel
theorem dX3_dominatorCount_3 : decode cX3_dominatorCount 3 = .ok (.istore_n 3, 1) := by decide +kernel
theorem dX3_dominatorCount_4 : decode cX3_dominatorCount 4 = .ok (.iload_n 3, 1) := by decide +kernel
theorem dX3_dominatorCount_5 : decode cX3_dominatorCount 5 = .ok (.aload_n 0, 1) := by decide +kernel
theorem dX3_dominatorCount_6 : decode cX3_dominatorCount 6 = .ok (.getfield 124, 3) := by decide +kernel
theorem dX3_dominatorCount_9 : decode cX3_dominatorCount 9 = .ok (.if_icmp .ge 28, 3) := by decide +kernel
theorem dX3_dominatorCount_12 : decode cX3_dominatorCount 12 = .ok (.iload_n 2, 1) := by decide +kernel
theorem dX3_dominatorCount_13 : decode cX3_dominatorCount 13 = .ok (.aload_n 0, 1) := by decide +kernel
theorem dX3_dominatorCount_14 : decode cX3_dominatorCount 14 = .ok (.getfield 34, 3) := by decide +kernel
theorem dX3_dominatorCount_17 : decode cX3_dominatorCount 17 = .ok (.iload_n 1, 1) := by decide +kernel
theorem dX3_dominatorCount_18 : decode cX3_dominatorCount 18 = .ok (.aload_n 0, 1) := by decide +kernel
theorem dX3_dominatorCount_19 : decode cX3_dominatorCount 19 = .ok (.getfield 124, 3) := by decide +kernel
theorem dX3_dominatorCount_22 : decode cX3_dominatorCount 22 = .ok (.imul, 1) := by decide +kernel
theorem dX3_dominatorCount_23 : decode cX3_dominatorCount 23 = .ok (.iload_n 3, 1) := by decide +kernel
theorem dX3_dominatorCount_24 : decode cX3_dominatorCount 24 = .ok (.iadd, 1) := by decide +kernel
theorem dX3_dominatorCount_25 : decode cX3_dominatorCount 25 = .ok (.laload, 1) := by decide +kernel
theorem dX3_dominatorCount_26 : decode cX3_dominatorCount 26 = .ok (.invokestatic 160, 3) := by decide +kernel
theorem dX3_dominatorCount_29 : decode cX3_dominatorCount 29 = .ok (.iadd, 1) := by decide +kernel
theorem dX3_dominatorCount_30 : decode cX3_dominatorCount 30 = .ok (.istore_n 2, 1) := by decide +kernel
theorem dX3_dominatorCount_31 : decode cX3_dominatorCount 31 = .ok (.iinc 3 1, 3) := by decide +kernel
theorem dX3_dominatorCount_34 : decode cX3_dominatorCount 34 = .ok (.goto (-30), 3) := by decide +kernel
theorem dX3_dominatorCount_37 : decode cX3_dominatorCount 37 = .ok (.iload_n 2, 1) := by decide +kernel
theorem dX3_dominatorCount_38 : decode cX3_dominatorCount 38 = .ok (.ireturn, 1) := by decide +kernel
theorem dX3_draw_0 : decode cX3_draw 0 = .ok (.aload_n 1, 1) := by decide +kernel
theorem dX3_draw_1 : decode cX3_draw 1 = .ok (.ifnull 11, 3) := by decide +kernel
theorem dX3_draw_4 : decode cX3_draw 4 = .ok (.aload_n 1, 1) := by decide +kernel
theorem dX3_draw_5 : decode cX3_draw 5 = .ok (.aload_n 0, 1) := by decide +kernel
theorem dX3_draw_6 : decode cX3_draw 6 = .ok (.getfield 53, 3) := by decide +kernel
theorem dX3_draw_9 : decode cX3_draw 9 = .ok (.if_acmp .ne 4, 3) := by decide +kernel
theorem dX3_draw_12 : decode cX3_draw 12 = .ok (.return_, 1) := by decide +kernel
theorem dX3_draw_13 : decode cX3_draw 13 = .ok (.aload_n 0, 1) := by decide +kernel
theorem dX3_draw_14 : decode cX3_draw 14 = .ok (.aload_n 1, 1) := by decide +kernel
theorem dX3_draw_15 : decode cX3_draw 15 = .ok (.putfield 53, 3) := by decide +kernel
theorem dX3_draw_18 : decode cX3_draw 18 = .ok (.aload_n 0, 1) := by decide +kernel
theorem dX3_draw_19 : decode cX3_draw 19 = .ok (.invokevirtual 57, 3) := by decide +kernel
theorem dX3_draw_22 : decode cX3_draw 22 = .ok (.aload_n 0, 1) := by decide +kernel
theorem dX3_draw_23 : decode cX3_draw 23 = .ok (.invokevirtual 60, 3) := by decide +kernel
theorem dX3_draw_26 : decode cX3_draw 26 = .ok (.aload_n 0, 1) := by decide +kernel
theorem dX3_draw_27 : decode cX3_draw 27 = .ok (.invokevirtual 63, 3) := by decide +kernel
theorem dX3_draw_30 : decode cX3_draw 30 = .ok (.aload_n 0, 1) := by decide +kernel
theorem dX3_draw_31 : decode cX3_draw 31 = .ok (.invokevirtual 66, 3) := by decide +kernel
theorem dX3_draw_34 : decode cX3_draw 34 = .ok (.aload_n 0, 1) := by decide +kernel
theorem dX3_draw_35 : decode cX3_draw 35 = .ok (.invokevirtual 69, 3) := by decide +kernel
theorem dX3_draw_38 : decode cX3_draw 38 = .ok (.aload_n 0, 1) := by decide +kernel
theorem dX3_draw_39 : decode cX3_draw 39 = .ok (.invokevirtual 72, 3) := by decide +kernel
theorem dX3_draw_42 : decode cX3_draw 42 = .ok (.aload_n 0, 1) := by decide +kernel
theorem dX3_draw_43 : decode cX3_draw 43 = .ok (.invokevirtual 75, 3) := by decide +kernel
theorem dX3_draw_46 : decode cX3_draw 46 = .ok (.return_, 1) := by decide +kernel
theorem dX3_findBacks_0 : decode cX3_findBacks 0 = .ok (.aload_n 0, 1) := by decide +kernel
theorem dX3_findBacks_1 : decode cX3_findBacks 1 = .ok (.getfield 18, 3) := by decide +kernel
theorem dX3_findBacks_4 : decode cX3_findBacks 4 = .ok (.aload_n 0, 1) := by decide +kernel
theorem dX3_findBacks_5 : decode cX3_findBacks 5 = .ok (.getfield 78, 3) := by decide +kernel
theorem dX3_findBacks_8 : decode cX3_findBacks 8 = .ok (.iaload, 1) := by decide +kernel
theorem dX3_findBacks_9 : decode cX3_findBacks 9 = .ok (.istore_n 1, 1) := by decide +kernel
theorem dX3_findBacks_10 : decode cX3_findBacks 10 = .ok (.aload_n 0, 1) := by decide +kernel
theorem dX3_findBacks_11 : decode cX3_findBacks 11 = .ok (.getfield 27, 3) := by decide +kernel
theorem dX3_findBacks_14 : decode cX3_findBacks 14 = .ok (.arraylength, 1) := by decide +kernel
theorem dX3_findBacks_15 : decode cX3_findBacks 15 = .ok (.iload_n 1, 1) := by decide +kernel
theorem dX3_findBacks_16 : decode cX3_findBacks 16 = .ok (.if_icmp .ge 14, 3) := by decide +kernel

theorem dX14_run_33 : decode cX14_run 33 = .ok (.ireturn, 1) := by decide +kernel
theorem dX14_size_0 : decode cX14_size 0 = .ok (.aload_n 0, 1) := by decide +kernel
theorem dX14_size_1 : decode cX14_size 1 = .ok (.iload_n 1, 1) := by decide +kernel
theorem dX14_size_2 : decode cX14_size 2 = .ok (.invokevirtual 658, 3) := by decide +kernel
theorem dX14_size_5 : decode cX14_size 5 = .ok (.astore_n 3, 1) := by decide +kernel
theorem dX14_size_6 : decode cX14_size 6 = .ok (.aload_n 3, 1) := by decide +kernel
theorem dX14_size_7 : decode cX14_size 7 = .ok (.ifnonnull 5, 3) := by decide +kernel
theorem dX14_size_10 : decode cX14_size 10 = .ok (.iconst (-1), 1) := by decide +kernel
theorem dX14_size_11 : decode cX14_size 11 = .ok (.ireturn, 1) := by decide +kernel
theorem dX14_stage_0 : decode cX14_stage 0 = .ok (.aload_n 0, 1) := by decide +kernel
theorem dX14_stage_1 : decode cX14_stage 1 = .ok (.iload_n 1, 1) := by decide +kernel
theorem dX14_stage_2 : decode cX14_stage 2 = .ok (.invokevirtual 860, 3) := by decide +kernel
theorem dX14_stage_5 : decode cX14_stage 5 = .ok (.ifCond .ne 5, 3) := by decide +kernel
theorem dX14_stage_8 : decode cX14_stage 8 = .ok (.iconst 0, 1) := by decide +kernel
theorem dX14_stage_9 : decode cX14_stage 9 = .ok (.ireturn, 1) := by decide +kernel
theorem dX14_stateAt_0 : decode cX14_stateAt 0 = .ok (.aload_n 0, 1) := by decide +kernel
theorem dX14_stateAt_1 : decode cX14_stateAt 1 = .ok (.iload_n 1, 1) := by decide +kernel
theorem dX14_stateAt_2 : decode cX14_stateAt 2 = .ok (.invokevirtual 860, 3) := by decide +kernel
theorem dX14_stateAt_5 : decode cX14_stateAt 5 = .ok (.ifCond .eq 49, 3) := by decide +kernel
theorem dX14_stateAt_54 : decode cX14_stateAt 54 = .ok (.iconst (-1), 1) := by decide +kernel
theorem dX14_stateAt_55 : decode cX14_stateAt 55 = .ok (.ireturn, 1) := by decide +kernel
theorem dX14_steps_0 : decode cX14_steps 0 = .ok (.aload_n 0, 1) := by decide +kernel
theorem dX14_steps_1 : decode cX14_steps 1 = .ok (.getfield 983, 3) := by decide +kernel
theorem dX14_steps_4 : decode cX14_steps 4 = .ok (.ireturn, 1) := by decide +kernel
theorem dX14_strays_0 : decode cX14_strays 0 = .ok (.aload_n 0, 1) := by decide +kernel
theorem dX14_strays_1 : decode cX14_strays 1 = .ok (.getfield 1050, 3) := by decide +kernel
theorem dX14_strays_4 : decode cX14_strays 4 = .ok (.ireturn, 1) := by decide +kernel
theorem dX14_verify_0 : decode cX14_verify 0 = .ok (.aload_n 0, 1) := by decide +kernel
theorem dX14_verify_1 : decode cX14_verify 1 = .ok (.iconst (-1), 1) := by decide +kernel
theorem dX14_verify_2 : decode cX14_verify 2 = .ok (.putfield 105, 3) := by decide +kernel
theorem dX14_verify_5 : decode cX14_verify 5 = .ok (.aload_n 0, 1) := by decide +kernel
theorem dX14_verify_6 : decode cX14_verify 6 = .ok (.iconst (-1), 1) := by decide +kernel
theorem dX14_verify_7 : decode cX14_verify 7 = .ok (.putfield 108, 3) := by decide +kernel
theorem dX14_verify_10 : decode cX14_verify 10 = .ok (.aload_n 0, 1) := by decide +kernel
theorem dX14_verify_11 : decode cX14_verify 11 = .ok (.iload_n 1, 1) := by decide +kernel
theorem dX14_verify_12 : decode cX14_verify 12 = .ok (.invokevirtual 658, 3) := by decide +kernel
theorem dX14_verify_15 : decode cX14_verify 15 = .ok (.astore_n 2, 1) := by decide +kernel
theorem dX14_verify_16 : decode cX14_verify 16 = .ok (.aload_n 2, 1) := by decide +kernel
theorem dX14_verify_17 : decode cX14_verify 17 = .ok (.ifnonnull 5, 3) := by decide +kernel
theorem dX14_verify_20 : decode cX14_verify 20 = .ok (.iconst (-1), 1) := by decide +kernel
theorem dX14_verify_21 : decode cX14_verify 21 = .ok (.ireturn, 1) := by decide +kernel
theorem dX14_word_0 : decode cX14_word 0 = .ok (.iconst 0, 1) := by decide +kernel
theorem dX14_word_1 : decode cX14_word 1 = .ok (.istore_n 2, 1) := by decide +kernel
theorem dX14_word_2 : decode cX14_word 2 = .ok (.iload_n 2, 1) := by decide +kernel
theorem dX14_word_3 : decode cX14_word 3 = .ok (.iconst 4, 1) := by decide +kernel
theorem dX14_word_4 : decode cX14_word 4 = .ok (.if_icmp .ge 38, 3) := by decide +kernel
theorem dX14_word_7 : decode cX14_word 7 = .ok (.aload_n 0, 1) := by decide +kernel
theorem dX14_word_8 : decode cX14_word 8 = .ok (.getfield 15, 3) := by decide +kernel
theorem dX14_word_11 : decode cX14_word 11 = .ok (.aload_n 0, 1) := by decide +kernel
theorem dX14_word_12 : decode cX14_word 12 = .ok (.getfield 285, 3) := by decide +kernel
theorem dX14_word_15 : decode cX14_word 15 = .ok (.iload_n 1, 1) := by decide +kernel
theorem dX14_word_16 : decode cX14_word 16 = .ok (.bipush 24, 2) := by decide +kernel
theorem dX14_word_18 : decode cX14_word 18 = .ok (.bipush 8, 2) := by decide +kernel
theorem dX14_word_20 : decode cX14_word 20 = .ok (.iload_n 2, 1) := by decide +kernel
theorem dX14_word_21 : decode cX14_word 21 = .ok (.imul, 1) := by decide +kernel
theorem dX14_word_22 : decode cX14_word 22 = .ok (.isub, 1) := by decide +kernel
theorem dX14_word_23 : decode cX14_word 23 = .ok (.ishr, 1) := by decide +kernel
theorem dX14_word_24 : decode cX14_word 24 = .ok (.i2b, 1) := by decide +kernel
theorem dX14_word_25 : decode cX14_word 25 = .ok (.bastore, 1) := by decide +kernel
theorem dX14_word_26 : decode cX14_word 26 = .ok (.aload_n 0, 1) := by decide +kernel
theorem dX14_word_27 : decode cX14_word 27 = .ok (.dup, 1) := by decide +kernel
theorem dX14_word_28 : decode cX14_word 28 = .ok (.getfield 285, 3) := by decide +kernel
theorem dX14_word_31 : decode cX14_word 31 = .ok (.iconst 1, 1) := by decide +kernel
theorem dX14_word_32 : decode cX14_word 32 = .ok (.iadd, 1) := by decide +kernel
theorem dX14_word_33 : decode cX14_word 33 = .ok (.putfield 285, 3) := by decide +kernel
theorem dX14_word_36 : decode cX14_word 36 = .ok (.iinc 2 1, 3) := by decide +kernel
theorem dX14_word_39 : decode cX14_word 39 = .ok (.goto (-37), 3) := by decide +kernel
theorem dX14_word_42 : decode cX14_word 42 = .ok (.return_, 1) := by decide +kernel
theorem dX14_write_0 : decode cX14_write 0 = .ok (.aload_n 0, 1) := by decide +kernel
theorem dX14_write_1 : decode cX14_write 1 = .ok (.iload_n 1, 1) := by decide +kernel
theorem dX14_write_2 : decode cX14_write 2 = .ok (.invokevirtual 860, 3) := by decide +kernel
theorem dX14_write_5 : decode cX14_write 5 = .ok (.ifCond .ne 5, 3) := by decide +kernel
theorem dX14_write_8 : decode cX14_write 8 = .ok (.iconst (-1), 1) := by decide +kernel
theorem dX14_write_9 : decode cX14_write 9 = .ok (.ireturn, 1) := by decide +kernel
theorem dX1_init_0 : decode cX1_init 0 = .ok (.aload_n 0, 1) := by decide +kernel
theorem dX1_init_1 : decode cX1_init 1 = .ok (.invokespecial 3, 3) := by decide +kernel
theorem dX1_init_4 : decode cX1_init 4 = .ok (.aload_n 0, 1) := by decide +kernel
theorem dX1_init_5 : decode cX1_init 5 = .ok (.new 9, 3) := by decide +kernel
theorem dX1_init_8 : decode cX1_init 8 = .ok (.dup, 1) := by decide +kernel
theorem dX1_init_9 : decode cX1_init 9 = .ok (.invokespecial 11, 3) := by decide +kernel
theorem dX1_init_12 : decode cX1_init 12 = .ok (.putfield 12, 3) := by decide +kernel
theorem dX1_init_15 : decode cX1_init 15 = .ok (.aload_n 0, 1) := by decide +kernel
theorem dX1_init_16 : decode cX1_init 16 = .ok (.iconst 0, 1) := by decide +kernel
theorem dX1_init_17 : decode cX1_init 17 = .ok (.newarray .byte, 2) := by decide +kernel
theorem dX1_init_19 : decode cX1_init 19 = .ok (.putfield 18, 3) := by decide +kernel
theorem dX1_init_22 : decode cX1_init 22 = .ok (.aload_n 0, 1) := by decide +kernel
theorem dX1_init_23 : decode cX1_init 23 = .ok (.iconst 0, 1) := by decide +kernel
theorem dX1_init_24 : decode cX1_init 24 = .ok (.newarray .boolean, 2) := by decide +kernel
theorem dX1_init_26 : decode cX1_init 26 = .ok (.putfield 22, 3) := by decide +kernel
theorem dX1_init_29 : decode cX1_init 29 = .ok (.aload_n 0, 1) := by decide +kernel
theorem dX1_init_30 : decode cX1_init 30 = .ok (.iconst 0, 1) := by decide +kernel
theorem dX1_init_31 : decode cX1_init 31 = .ok (.newarray .boolean, 2) := by decide +kernel
theorem dX1_init_33 : decode cX1_init 33 = .ok (.putfield 26, 3) := by decide +kernel
theorem dX1_init_36 : decode cX1_init 36 = .ok (.aload_n 0, 1) := by decide +kernel
theorem dX1_init_37 : decode cX1_init 37 = .ok (.bipush 48, 2) := by decide +kernel
theorem dX1_init_39 : decode cX1_init 39 = .ok (.newarray .byte, 2) := by decide +kernel
theorem dX1_init_41 : decode cX1_init 41 = .ok (.putfield 29, 3) := by decide +kernel
theorem dX1_init_44 : decode cX1_init 44 = .ok (.return_, 1) := by decide +kernel
theorem dX2_init_0 : decode cX2_init 0 = .ok (.aload_n 0, 1) := by decide +kernel
theorem dX2_init_1 : decode cX2_init 1 = .ok (.invokespecial 3, 3) := by decide +kernel
theorem dX2_init_4 : decode cX2_init 4 = .ok (.aload_n 0, 1) := by decide +kernel
theorem dX2_init_5 : decode cX2_init 5 = .ok (.new 9, 3) := by decide +kernel
theorem dX2_init_8 : decode cX2_init 8 = .ok (.dup, 1) := by decide +kernel
theorem dX2_init_9 : decode cX2_init 9 = .ok (.invokespecial 11, 3) := by decide +kernel
theorem dX2_init_12 : decode cX2_init 12 = .ok (.putfield 12, 3) := by decide +kernel
theorem dX2_init_15 : decode cX2_init 15 = .ok (.aload_n 0, 1) := by decide +kernel
theorem dX2_init_16 : decode cX2_init 16 = .ok (.sipush 1201, 3) := by decide +kernel
theorem dX2_init_19 : decode cX2_init 19 = .ok (.newarray .int, 2) := by decide +kernel
theorem dX2_init_21 : decode cX2_init 21 = .ok (.putfield 18, 3) := by decide +kernel
theorem dX2_init_24 : decode cX2_init 24 = .ok (.return_, 1) := by decide +kernel
theorem dX2_unitOf_0 : decode cX2_unitOf 0 = .ok (.aload_n 0, 1) := by decide +kernel
theorem dX2_unitOf_1 : decode cX2_unitOf 1 = .ok (.getfield 12, 3) := by decide +kernel
theorem dX2_unitOf_4 : decode cX2_unitOf 4 = .ok (.aload_n 1, 1) := by decide +kernel
theorem dX2_unitOf_5 : decode cX2_unitOf 5 = .ok (.invokevirtual 22, 3) := by decide +kernel
theorem dX2_unitOf_8 : decode cX2_unitOf 8 = .ok (.ifCond .eq 24, 3) := by decide +kernel
theorem dX2_unitOf_32 : decode cX2_unitOf 32 = .ok (.aconst_null, 1) := by decide +kernel
theorem dX2_unitOf_33 : decode cX2_unitOf 33 = .ok (.areturn, 1) := by decide +kernel
theorem dX3_init_0 : decode cX3_init 0 = .ok (.aload_n 0, 1) := by decide +kernel
theorem dX3_init_1 : decode cX3_init 1 = .ok (.invokespecial 3, 3) := by decide +kernel
theorem dX3_init_4 : decode cX3_init 4 = .ok (.aload_n 0, 1) := by decide +kernel
theorem dX3_init_5 : decode cX3_init 5 = .ok (.iconst 0, 1) := by decide +kernel
theorem dX3_init_6 : decode cX3_init 6 = .ok (.newarray .int, 2) := by decide +kernel
theorem dX3_init_8 : decode cX3_init 8 = .ok (.putfield 9, 3) := by decide +kernel
theorem dX3_init_11 : decode cX3_init 11 = .ok (.aload_n 0, 1) := by decide +kernel
theorem dX3_init_12 : decode cX3_init 12 = .ok (.iconst 0, 1) := by decide +kernel
theorem dX3_init_13 : decode cX3_init 13 = .ok (.newarray .int, 2) := by decide +kernel
theorem dX3_init_15 : decode cX3_init 15 = .ok (.putfield 15, 3) := by decide +kernel
theorem dX3_init_18 : decode cX3_init 18 = .ok (.aload_n 0, 1) := by decide +kernel
theorem dX3_init_19 : decode cX3_init 19 = .ok (.iconst 0, 1) := by decide +kernel
theorem dX3_init_20 : decode cX3_init 20 = .ok (.newarray .int, 2) := by decide +kernel
theorem dX3_init_22 : decode cX3_init 22 = .ok (.putfield 18, 3) := by decide +kernel
theorem dX3_init_25 : decode cX3_init 25 = .ok (.aload_n 0, 1) := by decide +kernel
theorem dX3_init_26 : decode cX3_init 26 = .ok (.bipush 16, 2) := by decide +kernel
theorem dX3_init_28 : decode cX3_init 28 = .ok (.newarray .int, 2) := by decide +kernel
theorem dX3_init_30 : decode cX3_init 30 = .ok (.putfield 21, 3) := by decide +kernel
theorem dX3_init_33 : decode cX3_init 33 = .ok (.aload_n 0, 1) := by decide +kernel
theorem dX3_init_34 : decode cX3_init 34 = .ok (.iconst 0, 1) := by decide +kernel
theorem dX3_init_35 : decode cX3_init 35 = .ok (.newarray .int, 2) := by decide +kernel
theorem dX3_init_37 : decode cX3_init 37 = .ok (.putfield 24, 3) := by decide +kernel
theorem dX3_init_40 : decode cX3_init 40 = .ok (.aload_n 0, 1) := by decide +kernel
theorem dX3_init_41 : decode cX3_init 41 = .ok (.iconst 0, 1) := by decide +kernel
theorem dX3_init_42 : decode cX3_init 42 = .ok (.newarray .int, 2) := by decide +kernel
theorem dX3_init_44 : decode cX3_init 44 = .ok (.putfield 27, 3) := by decide +kernel
theorem dX3_init_47 : decode cX3_init 47 = .ok (.aload_n 0, 1) := by decide +kernel
theorem dX3_init_48 : decode cX3_init 48 = .ok (.iconst 0, 1) := by decide +kernel
theorem dX3_init_49 : decode cX3_init 49 = .ok (.newarray .boolean, 2) := by decide +kernel
theorem dX3_init_51 : decode cX3_init 51 = .ok (.putfield 30, 3) := by decide +kernel
theorem dX3_init_54 : decode cX3_init 54 = .ok (.aload_n 0, 1) := by decide +kernel
theorem dX3_init_55 : decode cX3_init 55 = .ok (.iconst 0, 1) := by decide +kernel
theorem dX3_init_56 : decode cX3_init 56 = .ok (.newarray .long, 2) := by decide +kernel

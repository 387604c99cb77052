theorem dX12_keep_27 : decode cX12_keep 27 = .ok (.getfield 94, 3) := by decide +kernel
theorem dX12_keep_30 : decode cX12_keep 30 = .ok (.iconst 1, 1) := by decide +kernel
theorem dX12_keep_31 : decode cX12_keep 31 = .ok (.iadd, 1) := by decide +kernel
theorem dX12_keep_32 : decode cX12_keep 32 = .ok (.putfield 94, 3) := by decide +kernel
theorem dX12_keep_35 : decode cX12_keep 35 = .ok (.aload_n 0, 1) := by decide +kernel
theorem dX12_keep_36 : decode cX12_keep 36 = .ok (.getfield 94, 3) := by decide +kernel
theorem dX12_keep_39 : decode cX12_keep 39 = .ok (.iconst 1, 1) := by decide +kernel
theorem dX12_keep_40 : decode cX12_keep 40 = .ok (.isub, 1) := by decide +kernel
theorem dX12_keep_41 : decode cX12_keep 41 = .ok (.ireturn, 1) := by decide +kernel
theorem dX12_length_0 : decode cX12_length 0 = .ok (.aload_n 0, 1) := by decide +kernel
theorem dX12_length_1 : decode cX12_length 1 = .ok (.iload_n 1, 1) := by decide +kernel
theorem dX12_length_2 : decode cX12_length 2 = .ok (.iload_n 2, 1) := by decide +kernel
theorem dX12_length_3 : decode cX12_length 3 = .ok (.invokevirtual 132, 3) := by decide +kernel
theorem dX12_length_6 : decode cX12_length 6 = .ok (.astore_n 3, 1) := by decide +kernel
theorem dX12_length_7 : decode cX12_length 7 = .ok (.aload_n 3, 1) := by decide +kernel
theorem dX12_length_8 : decode cX12_length 8 = .ok (.ifnonnull 7, 3) := by decide +kernel
theorem dX12_length_11 : decode cX12_length 11 = .ok (.iconst (-1), 1) := by decide +kernel
theorem dX12_length_12 : decode cX12_length 12 = .ok (.goto 7, 3) := by decide +kernel
theorem dX12_length_15 : decode cX12_length 15 = .ok (.aload_n 3, 1) := by decide +kernel
theorem dX12_length_16 : decode cX12_length 16 = .ok (.getfield 136, 3) := by decide +kernel
theorem dX12_length_19 : decode cX12_length 19 = .ok (.ireturn, 1) := by decide +kernel
theorem dX12_local_0 : decode cX12_local 0 = .ok (.aload_n 0, 1) := by decide +kernel
theorem dX12_local_1 : decode cX12_local 1 = .ok (.iload_n 1, 1) := by decide +kernel
theorem dX12_local_2 : decode cX12_local 2 = .ok (.invokevirtual 152, 3) := by decide +kernel
theorem dX12_local_5 : decode cX12_local 5 = .ok (.ifnonnull 7, 3) := by decide +kernel
theorem dX12_local_8 : decode cX12_local 8 = .ok (.aconst_null, 1) := by decide +kernel
theorem dX12_local_9 : decode cX12_local 9 = .ok (.goto 9, 3) := by decide +kernel
theorem dX12_local_12 : decode cX12_local 12 = .ok (.aload_n 0, 1) := by decide +kernel
theorem dX12_local_13 : decode cX12_local 13 = .ok (.iload_n 1, 1) := by decide +kernel
theorem dX12_local_14 : decode cX12_local 14 = .ok (.iload_n 2, 1) := by decide +kernel
theorem dX12_local_15 : decode cX12_local 15 = .ok (.invokevirtual 132, 3) := by decide +kernel
theorem dX12_local_18 : decode cX12_local 18 = .ok (.astore 5, 2) := by decide +kernel
theorem dX12_local_20 : decode cX12_local 20 = .ok (.aload 5, 2) := by decide +kernel
theorem dX12_local_22 : decode cX12_local 22 = .ok (.ifnull 24, 3) := by decide +kernel
theorem dX12_local_25 : decode cX12_local 25 = .ok (.aload 5, 2) := by decide +kernel
theorem dX12_local_27 : decode cX12_local 27 = .ok (.iload_n 3, 1) := by decide +kernel
theorem dX12_local_28 : decode cX12_local 28 = .ok (.invokevirtual 155, 3) := by decide +kernel
theorem dX12_local_31 : decode cX12_local 31 = .ok (.ifCond .lt 15, 3) := by decide +kernel
theorem dX12_local_34 : decode cX12_local 34 = .ok (.iload 4, 2) := by decide +kernel
theorem dX12_local_36 : decode cX12_local 36 = .ok (.ifCond .lt 10, 3) := by decide +kernel
theorem dX12_local_39 : decode cX12_local 39 = .ok (.iload 4, 2) := by decide +kernel
theorem dX12_local_41 : decode cX12_local 41 = .ok (.bipush 24, 2) := by decide +kernel
theorem dX12_local_43 : decode cX12_local 43 = .ok (.if_icmp .lt 5, 3) := by decide +kernel
theorem dX12_local_46 : decode cX12_local 46 = .ok (.iconst (-1), 1) := by decide +kernel
theorem dX12_local_47 : decode cX12_local 47 = .ok (.ireturn, 1) := by decide +kernel
theorem dX12_local_48 : decode cX12_local 48 = .ok (.aload 5, 2) := by decide +kernel
theorem dX12_local_50 : decode cX12_local 50 = .ok (.iload_n 3, 1) := by decide +kernel
theorem dX12_local_51 : decode cX12_local 51 = .ok (.iload 4, 2) := by decide +kernel
theorem dX12_local_53 : decode cX12_local 53 = .ok (.invokevirtual 159, 3) := by decide +kernel
theorem dX12_local_56 : decode cX12_local 56 = .ok (.ireturn, 1) := by decide +kernel
theorem dX12_method_0 : decode cX12_method 0 = .ok (.aload_n 0, 1) := by decide +kernel
theorem dX12_method_1 : decode cX12_method 1 = .ok (.getfield 74, 3) := by decide +kernel
theorem dX12_method_4 : decode cX12_method 4 = .ok (.ireturn, 1) := by decide +kernel
theorem dX12_place_0 : decode cX12_place 0 = .ok (.aload_n 0, 1) := by decide +kernel
theorem dX12_place_1 : decode cX12_place 1 = .ok (.getfield 70, 3) := by decide +kernel
theorem dX12_place_4 : decode cX12_place 4 = .ok (.ireturn, 1) := by decide +kernel
theorem dX12_result_0 : decode cX12_result 0 = .ok (.aload_n 0, 1) := by decide +kernel
theorem dX12_result_1 : decode cX12_result 1 = .ok (.getfield 52, 3) := by decide +kernel
theorem dX12_result_4 : decode cX12_result 4 = .ok (.getfield 195, 3) := by decide +kernel
theorem dX12_result_7 : decode cX12_result 7 = .ok (.lreturn, 1) := by decide +kernel
theorem dX12_rowAt_0 : decode cX12_rowAt 0 = .ok (.aload_n 0, 1) := by decide +kernel
theorem dX12_rowAt_1 : decode cX12_rowAt 1 = .ok (.iload_n 1, 1) := by decide +kernel
theorem dX12_rowAt_2 : decode cX12_rowAt 2 = .ok (.invokevirtual 116, 3) := by decide +kernel
theorem dX12_rowAt_5 : decode cX12_rowAt 5 = .ok (.astore_n 3, 1) := by decide +kernel
theorem dX12_rowAt_6 : decode cX12_rowAt 6 = .ok (.aload_n 3, 1) := by decide +kernel
theorem dX12_rowAt_7 : decode cX12_rowAt 7 = .ok (.ifnonnull 7, 3) := by decide +kernel
theorem dX12_rowAt_10 : decode cX12_rowAt 10 = .ok (.aconst_null, 1) := by decide +kernel
theorem dX12_rowAt_11 : decode cX12_rowAt 11 = .ok (.goto 8, 3) := by decide +kernel
theorem dX12_rowAt_14 : decode cX12_rowAt 14 = .ok (.aload_n 3, 1) := by decide +kernel
theorem dX12_rowAt_15 : decode cX12_rowAt 15 = .ok (.iload_n 2, 1) := by decide +kernel
theorem dX12_rowAt_16 : decode cX12_rowAt 16 = .ok (.invokevirtual 144, 3) := by decide +kernel
theorem dX12_rowAt_19 : decode cX12_rowAt 19 = .ok (.areturn, 1) := by decide +kernel
theorem dX12_rule_0 : decode cX12_rule 0 = .ok (.aload_n 0, 1) := by decide +kernel
theorem dX12_rule_1 : decode cX12_rule 1 = .ok (.getfield 110, 3) := by decide +kernel
theorem dX12_rule_4 : decode cX12_rule 4 = .ok (.ireturn, 1) := by decide +kernel
theorem dX12_run_0 : decode cX12_run 0 = .ok (.aload_n 0, 1) := by decide +kernel
theorem dX12_run_1 : decode cX12_run 1 = .ok (.getfield 52, 3) := by decide +kernel
theorem dX12_run_4 : decode cX12_run 4 = .ok (.iload_n 1, 1) := by decide +kernel
theorem dX12_run_5 : decode cX12_run 5 = .ok (.iload_n 2, 1) := by decide +kernel
theorem dX12_run_6 : decode cX12_run 6 = .ok (.invokevirtual 186, 3) := by decide +kernel
theorem dX12_run_9 : decode cX12_run 9 = .ok (.istore_n 3, 1) := by decide +kernel
theorem dX12_run_10 : decode cX12_run 10 = .ok (.iload_n 3, 1) := by decide +kernel
theorem dX12_run_11 : decode cX12_run 11 = .ok (.ifCond .ne 13, 3) := by decide +kernel
theorem dX12_run_14 : decode cX12_run 14 = .ok (.aload_n 0, 1) := by decide +kernel
theorem dX12_run_15 : decode cX12_run 15 = .ok (.getfield 52, 3) := by decide +kernel
theorem dX12_run_18 : decode cX12_run 18 = .ok (.iload_n 1, 1) := by decide +kernel
theorem dX12_run_19 : decode cX12_run 19 = .ok (.iload_n 2, 1) := by decide +kernel
theorem dX12_run_20 : decode cX12_run 20 = .ok (.invokevirtual 189, 3) := by decide +kernel
theorem dX12_run_23 : decode cX12_run 23 = .ok (.istore_n 3, 1) := by decide +kernel
theorem dX12_run_24 : decode cX12_run 24 = .ok (.aload_n 0, 1) := by decide +kernel
theorem dX12_run_25 : decode cX12_run 25 = .ok (.getfield 52, 3) := by decide +kernel
theorem dX12_run_28 : decode cX12_run 28 = .ok (.iconst 0, 1) := by decide +kernel
theorem dX12_run_29 : decode cX12_run 29 = .ok (.putfield 192, 3) := by decide +kernel
theorem dX12_run_32 : decode cX12_run 32 = .ok (.iload_n 3, 1) := by decide +kernel
theorem dX12_run_33 : decode cX12_run 33 = .ok (.ireturn, 1) := by decide +kernel
theorem dX12_size_0 : decode cX12_size 0 = .ok (.aload_n 0, 1) := by decide +kernel
theorem dX12_size_1 : decode cX12_size 1 = .ok (.iload_n 1, 1) := by decide +kernel
theorem dX12_size_2 : decode cX12_size 2 = .ok (.invokevirtual 116, 3) := by decide +kernel
theorem dX12_size_5 : decode cX12_size 5 = .ok (.astore_n 3, 1) := by decide +kernel
theorem dX12_size_6 : decode cX12_size 6 = .ok (.aload_n 3, 1) := by decide +kernel
theorem dX12_size_7 : decode cX12_size 7 = .ok (.ifnonnull 5, 3) := by decide +kernel
theorem dX12_size_10 : decode cX12_size 10 = .ok (.iconst (-1), 1) := by decide +kernel
theorem dX12_size_11 : decode cX12_size 11 = .ok (.ireturn, 1) := by decide +kernel
theorem dX12_size_12 : decode cX12_size 12 = .ok (.iload_n 2, 1) := by decide +kernel
theorem dX12_size_13 : decode cX12_size 13 = .ok (.tableswitch 51 0 3 #[31, 36, 41, 46], 31) := by decide +kernel
theorem dX12_size_44 : decode cX12_size 44 = .ok (.aload_n 3, 1) := by decide +kernel
theorem dX12_size_45 : decode cX12_size 45 = .ok (.getfield 120, 3) := by decide +kernel
theorem dX12_size_48 : decode cX12_size 48 = .ok (.ireturn, 1) := by decide +kernel
theorem dX12_size_49 : decode cX12_size 49 = .ok (.aload_n 3, 1) := by decide +kernel
theorem dX12_size_50 : decode cX12_size 50 = .ok (.getfield 123, 3) := by decide +kernel
theorem dX12_size_53 : decode cX12_size 53 = .ok (.ireturn, 1) := by decide +kernel
theorem dX12_size_54 : decode cX12_size 54 = .ok (.aload_n 3, 1) := by decide +kernel
theorem dX12_size_55 : decode cX12_size 55 = .ok (.getfield 126, 3) := by decide +kernel
theorem dX12_size_58 : decode cX12_size 58 = .ok (.ireturn, 1) := by decide +kernel
theorem dX12_size_59 : decode cX12_size 59 = .ok (.aload_n 3, 1) := by decide +kernel
theorem dX12_size_60 : decode cX12_size 60 = .ok (.getfield 129, 3) := by decide +kernel
theorem dX12_size_63 : decode cX12_size 63 = .ok (.ireturn, 1) := by decide +kernel
theorem dX12_size_64 : decode cX12_size 64 = .ok (.iconst (-1), 1) := by decide +kernel
theorem dX12_size_65 : decode cX12_size 65 = .ok (.ireturn, 1) := by decide +kernel
theorem dX12_soundUnitAt_0 : decode cX12_soundUnitAt 0 = .ok (.aload_n 0, 1) := by decide +kernel
theorem dX12_soundUnitAt_1 : decode cX12_soundUnitAt 1 = .ok (.iload_n 1, 1) := by decide +kernel
theorem dX12_soundUnitAt_2 : decode cX12_soundUnitAt 2 = .ok (.invokevirtual 116, 3) := by decide +kernel
theorem dX12_soundUnitAt_5 : decode cX12_soundUnitAt 5 = .ok (.astore_n 2, 1) := by decide +kernel
theorem dX12_soundUnitAt_6 : decode cX12_soundUnitAt 6 = .ok (.aload_n 2, 1) := by decide +kernel
theorem dX12_soundUnitAt_7 : decode cX12_soundUnitAt 7 = .ok (.ifnull 17, 3) := by decide +kernel
theorem dX12_soundUnitAt_10 : decode cX12_soundUnitAt 10 = .ok (.aload_n 2, 1) := by decide +kernel
theorem dX12_soundUnitAt_11 : decode cX12_soundUnitAt 11 = .ok (.getfield 139, 3) := by decide +kernel
theorem dX12_soundUnitAt_14 : decode cX12_soundUnitAt 14 = .ok (.ifCond .eq 10, 3) := by decide +kernel
theorem dX12_soundUnitAt_17 : decode cX12_soundUnitAt 17 = .ok (.aload_n 2, 1) := by decide +kernel
theorem dX12_soundUnitAt_18 : decode cX12_soundUnitAt 18 = .ok (.getfield 143, 3) := by decide +kernel
theorem dX12_soundUnitAt_21 : decode cX12_soundUnitAt 21 = .ok (.ifCond .lt 7, 3) := by decide +kernel
theorem dX12_soundUnitAt_24 : decode cX12_soundUnitAt 24 = .ok (.aconst_null, 1) := by decide +kernel
theorem dX12_soundUnitAt_25 : decode cX12_soundUnitAt 25 = .ok (.goto 4, 3) := by decide +kernel
theorem dX12_soundUnitAt_28 : decode cX12_soundUnitAt 28 = .ok (.aload_n 2, 1) := by decide +kernel
theorem dX12_soundUnitAt_29 : decode cX12_soundUnitAt 29 = .ok (.areturn, 1) := by decide +kernel
theorem dX12_stage_0 : decode cX12_stage 0 = .ok (.aload_n 0, 1) := by decide +kernel
theorem dX12_stage_1 : decode cX12_stage 1 = .ok (.iload_n 1, 1) := by decide +kernel
theorem dX12_stage_2 : decode cX12_stage 2 = .ok (.invokevirtual 152, 3) := by decide +kernel
theorem dX12_stage_5 : decode cX12_stage 5 = .ok (.astore_n 2, 1) := by decide +kernel
theorem dX12_stage_6 : decode cX12_stage 6 = .ok (.aload_n 2, 1) := by decide +kernel
theorem dX12_stage_7 : decode cX12_stage 7 = .ok (.ifnonnull 5, 3) := by decide +kernel
theorem dX12_stage_10 : decode cX12_stage 10 = .ok (.iconst 0, 1) := by decide +kernel
theorem dX12_stage_11 : decode cX12_stage 11 = .ok (.ireturn, 1) := by decide +kernel
theorem dX12_stage_12 : decode cX12_stage 12 = .ok (.aload_n 0, 1) := by decide +kernel
theorem dX12_stage_13 : decode cX12_stage 13 = .ok (.getfield 52, 3) := by decide +kernel
theorem dX12_stage_16 : decode cX12_stage 16 = .ok (.aload_n 2, 1) := by decide +kernel
theorem dX12_stage_17 : decode cX12_stage 17 = .ok (.invokevirtual 178, 3) := by decide +kernel
theorem dX12_stage_20 : decode cX12_stage 20 = .ok (.iconst 1, 1) := by decide +kernel
theorem dX12_stage_21 : decode cX12_stage 21 = .ok (.ireturn, 1) := by decide +kernel
theorem dX12_steps_0 : decode cX12_steps 0 = .ok (.aload_n 0, 1) := by decide +kernel
theorem dX12_steps_1 : decode cX12_steps 1 = .ok (.getfield 52, 3) := by decide +kernel
theorem dX12_steps_4 : decode cX12_steps 4 = .ok (.getfield 202, 3) := by decide +kernel
theorem dX12_steps_7 : decode cX12_steps 7 = .ok (.ireturn, 1) := by decide +kernel
theorem dX12_strays_0 : decode cX12_strays 0 = .ok (.aload_n 0, 1) := by decide +kernel
theorem dX12_strays_1 : decode cX12_strays 1 = .ok (.getfield 52, 3) := by decide +kernel
theorem dX12_strays_4 : decode cX12_strays 4 = .ok (.getfield 259, 3) := by decide +kernel
theorem dX12_strays_7 : decode cX12_strays 7 = .ok (.ireturn, 1) := by decide +kernel
theorem dX12_unitAt_0 : decode cX12_unitAt 0 = .ok (.iload_n 1, 1) := by decide +kernel
theorem dX12_unitAt_1 : decode cX12_unitAt 1 = .ok (.ifCond .lt 11, 3) := by decide +kernel
theorem dX12_unitAt_4 : decode cX12_unitAt 4 = .ok (.iload_n 1, 1) := by decide +kernel
theorem dX12_unitAt_5 : decode cX12_unitAt 5 = .ok (.aload_n 0, 1) := by decide +kernel
theorem dX12_unitAt_6 : decode cX12_unitAt 6 = .ok (.getfield 94, 3) := by decide +kernel
theorem dX12_unitAt_9 : decode cX12_unitAt 9 = .ok (.if_icmp .lt 7, 3) := by decide +kernel
theorem dX12_unitAt_12 : decode cX12_unitAt 12 = .ok (.aconst_null, 1) := by decide +kernel
theorem dX12_unitAt_13 : decode cX12_unitAt 13 = .ok (.goto 9, 3) := by decide +kernel
theorem dX12_unitAt_16 : decode cX12_unitAt 16 = .ok (.aload_n 0, 1) := by decide +kernel
theorem dX12_unitAt_17 : decode cX12_unitAt 17 = .ok (.getfield 24, 3) := by decide +kernel
theorem dX12_unitAt_20 : decode cX12_unitAt 20 = .ok (.iload_n 1, 1) := by decide +kernel
theorem dX12_unitAt_21 : decode cX12_unitAt 21 = .ok (.aaload, 1) := by decide +kernel
theorem dX12_unitAt_22 : decode cX12_unitAt 22 = .ok (.areturn, 1) := by decide +kernel
theorem dX12_verify_0 : decode cX12_verify 0 = .ok (.aload_n 0, 1) := by decide +kernel
theorem dX12_verify_1 : decode cX12_verify 1 = .ok (.iconst (-1), 1) := by decide +kernel
theorem dX12_verify_2 : decode cX12_verify 2 = .ok (.putfield 74, 3) := by decide +kernel
theorem dX12_verify_5 : decode cX12_verify 5 = .ok (.aload_n 0, 1) := by decide +kernel
theorem dX12_verify_6 : decode cX12_verify 6 = .ok (.iconst (-1), 1) := by decide +kernel
theorem dX12_verify_7 : decode cX12_verify 7 = .ok (.putfield 77, 3) := by decide +kernel
theorem dX12_verify_10 : decode cX12_verify 10 = .ok (.aload_n 0, 1) := by decide +kernel
theorem dX12_verify_11 : decode cX12_verify 11 = .ok (.iload_n 1, 1) := by decide +kernel
theorem dX12_verify_12 : decode cX12_verify 12 = .ok (.invokevirtual 116, 3) := by decide +kernel
theorem dX12_verify_15 : decode cX12_verify 15 = .ok (.astore_n 2, 1) := by decide +kernel
theorem dX12_verify_16 : decode cX12_verify 16 = .ok (.aload_n 2, 1) := by decide +kernel
theorem dX12_verify_17 : decode cX12_verify 17 = .ok (.ifnonnull 5, 3) := by decide +kernel
theorem dX12_verify_20 : decode cX12_verify 20 = .ok (.iconst (-1), 1) := by decide +kernel
theorem dX12_verify_21 : decode cX12_verify 21 = .ok (.ireturn, 1) := by decide +kernel
theorem dX12_verify_22 : decode cX12_verify 22 = .ok (.iconst 0, 1) := by decide +kernel
theorem dX12_verify_23 : decode cX12_verify 23 = .ok (.istore_n 3, 1) := by decide +kernel
theorem dX12_verify_24 : decode cX12_verify 24 = .ok (.aload_n 2, 1) := by decide +kernel
theorem dX12_verify_25 : decode cX12_verify 25 = .ok (.getfield 139, 3) := by decide +kernel
theorem dX12_verify_28 : decode cX12_verify 28 = .ok (.ifCond .ne 57, 3) := by decide +kernel
theorem dX12_verify_31 : decode cX12_verify 31 = .ok (.aload_n 2, 1) := by decide +kernel
theorem dX12_verify_32 : decode cX12_verify 32 = .ok (.getfield 143, 3) := by decide +kernel
theorem dX12_verify_35 : decode cX12_verify 35 = .ok (.ifCond .ge 50, 3) := by decide +kernel
theorem dX12_verify_38 : decode cX12_verify 38 = .ok (.iload_n 3, 1) := by decide +kernel
theorem dX12_verify_39 : decode cX12_verify 39 = .ok (.aload_n 2, 1) := by decide +kernel
theorem dX12_verify_40 : decode cX12_verify 40 = .ok (.getfield 123, 3) := by decide +kernel
theorem dX12_verify_43 : decode cX12_verify 43 = .ok (.if_icmp .ge 42, 3) := by decide +kernel
theorem dX12_verify_46 : decode cX12_verify 46 = .ok (.aload_n 2, 1) := by decide +kernel
theorem dX12_verify_47 : decode cX12_verify 47 = .ok (.aload_n 0, 1) := by decide +kernel
theorem dX12_verify_48 : decode cX12_verify 48 = .ok (.getfield 38, 3) := by decide +kernel
theorem dX12_verify_51 : decode cX12_verify 51 = .ok (.aload_n 2, 1) := by decide +kernel
theorem dX12_verify_52 : decode cX12_verify 52 = .ok (.aload_n 2, 1) := by decide +kernel
theorem dX12_verify_53 : decode cX12_verify 53 = .ok (.iload_n 3, 1) := by decide +kernel
theorem dX12_verify_54 : decode cX12_verify 54 = .ok (.invokevirtual 144, 3) := by decide +kernel
theorem dX12_verify_57 : decode cX12_verify 57 = .ok (.invokevirtual 147, 3) := by decide +kernel
theorem dX12_verify_60 : decode cX12_verify 60 = .ok (.putfield 151, 3) := by decide +kernel
theorem dX12_verify_63 : decode cX12_verify 63 = .ok (.aload_n 2, 1) := by decide +kernel
theorem dX12_verify_64 : decode cX12_verify 64 = .ok (.aload_n 2, 1) := by decide +kernel
theorem dX12_verify_65 : decode cX12_verify 65 = .ok (.getfield 151, 3) := by decide +kernel
theorem dX12_verify_68 : decode cX12_verify 68 = .ok (.ifCond .ge 7, 3) := by decide +kernel
theorem dX12_verify_71 : decode cX12_verify 71 = .ok (.iconst (-1), 1) := by decide +kernel
theorem dX12_verify_72 : decode cX12_verify 72 = .ok (.goto 4, 3) := by decide +kernel
theorem dX12_verify_75 : decode cX12_verify 75 = .ok (.iload_n 3, 1) := by decide +kernel
theorem dX12_verify_76 : decode cX12_verify 76 = .ok (.putfield 143, 3) := by decide +kernel
theorem dX12_verify_79 : decode cX12_verify 79 = .ok (.iinc 3 1, 3) := by decide +kernel
theorem dX12_verify_82 : decode cX12_verify 82 = .ok (.goto (-58), 3) := by decide +kernel
theorem dX12_verify_85 : decode cX12_verify 85 = .ok (.aload_n 2, 1) := by decide +kernel
theorem dX12_verify_86 : decode cX12_verify 86 = .ok (.iconst 1, 1) := by decide +kernel
theorem dX12_verify_87 : decode cX12_verify 87 = .ok (.putfield 139, 3) := by decide +kernel
theorem dX12_verify_90 : decode cX12_verify 90 = .ok (.aload_n 0, 1) := by decide +kernel
theorem dX12_verify_91 : decode cX12_verify 91 = .ok (.aload_n 2, 1) := by decide +kernel
theorem dX12_verify_92 : decode cX12_verify 92 = .ok (.getfield 143, 3) := by decide +kernel
theorem dX12_verify_95 : decode cX12_verify 95 = .ok (.putfield 74, 3) := by decide +kernel
theorem dX12_verify_98 : decode cX12_verify 98 = .ok (.aload_n 0, 1) := by decide +kernel
theorem dX12_verify_99 : decode cX12_verify 99 = .ok (.aload_n 2, 1) := by decide +kernel
theorem dX12_verify_100 : decode cX12_verify 100 = .ok (.getfield 151, 3) := by decide +kernel
theorem dX12_verify_103 : decode cX12_verify 103 = .ok (.putfield 77, 3) := by decide +kernel
theorem dX12_verify_106 : decode cX12_verify 106 = .ok (.aload_n 0, 1) := by decide +kernel
theorem dX12_verify_107 : decode cX12_verify 107 = .ok (.getfield 74, 3) := by decide +kernel
theorem dX12_verify_110 : decode cX12_verify 110 = .ok (.ifCond .ge 7, 3) := by decide +kernel
theorem dX12_verify_113 : decode cX12_verify 113 = .ok (.iconst 0, 1) := by decide +kernel
theorem dX12_verify_114 : decode cX12_verify 114 = .ok (.goto 4, 3) := by decide +kernel
theorem dX12_verify_117 : decode cX12_verify 117 = .ok (.iconst 1, 1) := by decide +kernel
theorem dX12_verify_118 : decode cX12_verify 118 = .ok (.ireturn, 1) := by decide +kernel
theorem dX12_write_0 : decode cX12_write 0 = .ok (.aload_n 0, 1) := by decide +kernel
theorem dX12_write_1 : decode cX12_write 1 = .ok (.iload_n 1, 1) := by decide +kernel
theorem dX12_write_2 : decode cX12_write 2 = .ok (.invokevirtual 152, 3) := by decide +kernel
theorem dX12_write_5 : decode cX12_write 5 = .ok (.astore_n 2, 1) := by decide +kernel
theorem dX12_write_6 : decode cX12_write 6 = .ok (.aload_n 2, 1) := by decide +kernel
theorem dX12_write_7 : decode cX12_write 7 = .ok (.ifnonnull 5, 3) := by decide +kernel
theorem dX12_write_10 : decode cX12_write 10 = .ok (.iconst (-1), 1) := by decide +kernel
theorem dX12_write_11 : decode cX12_write 11 = .ok (.ireturn, 1) := by decide +kernel
theorem dX12_write_12 : decode cX12_write 12 = .ok (.iload_n 1, 1) := by decide +kernel
theorem dX12_write_13 : decode cX12_write 13 = .ok (.aload_n 0, 1) := by decide +kernel
theorem dX12_write_14 : decode cX12_write 14 = .ok (.getfield 80, 3) := by decide +kernel
theorem dX12_write_17 : decode cX12_write 17 = .ok (.if_icmp .eq 56, 3) := by decide +kernel
theorem dX12_write_20 : decode cX12_write 20 = .ok (.aload_n 0, 1) := by decide +kernel
theorem dX12_write_21 : decode cX12_write 21 = .ok (.getfield 45, 3) := by decide +kernel
theorem dX12_write_24 : decode cX12_write 24 = .ok (.aload_n 2, 1) := by decide +kernel
theorem dX12_write_25 : decode cX12_write 25 = .ok (.iconst 0, 1) := by decide +kernel
theorem dX12_write_26 : decode cX12_write 26 = .ok (.invokevirtual 163, 3) := by decide +kernel
theorem dX12_write_29 : decode cX12_write 29 = .ok (.iconst 0, 1) := by decide +kernel
theorem dX12_write_30 : decode cX12_write 30 = .ok (.istore_n 3, 1) := by decide +kernel
theorem dX12_write_31 : decode cX12_write 31 = .ok (.iload_n 3, 1) := by decide +kernel
theorem dX12_write_32 : decode cX12_write 32 = .ok (.aload_n 2, 1) := by decide +kernel
theorem dX12_write_33 : decode cX12_write 33 = .ok (.getfield 123, 3) := by decide +kernel
theorem dX12_write_36 : decode cX12_write 36 = .ok (.if_icmp .ge 21, 3) := by decide +kernel
theorem dX12_write_39 : decode cX12_write 39 = .ok (.aload_n 0, 1) := by decide +kernel
theorem dX12_write_40 : decode cX12_write 40 = .ok (.getfield 45, 3) := by decide +kernel
theorem dX12_write_43 : decode cX12_write 43 = .ok (.aload_n 2, 1) := by decide +kernel
theorem dX12_write_44 : decode cX12_write 44 = .ok (.iload_n 3, 1) := by decide +kernel
theorem dX12_write_45 : decode cX12_write 45 = .ok (.invokevirtual 144, 3) := by decide +kernel
theorem dX12_write_48 : decode cX12_write 48 = .ok (.invokevirtual 167, 3) := by decide +kernel
theorem dX12_write_51 : decode cX12_write 51 = .ok (.iinc 3 1, 3) := by decide +kernel
theorem dX12_write_54 : decode cX12_write 54 = .ok (.goto (-23), 3) := by decide +kernel
theorem dX12_write_57 : decode cX12_write 57 = .ok (.aload_n 0, 1) := by decide +kernel
theorem dX12_write_58 : decode cX12_write 58 = .ok (.getfield 45, 3) := by decide +kernel
theorem dX12_write_61 : decode cX12_write 61 = .ok (.aload_n 0, 1) := by decide +kernel
theorem dX12_write_62 : decode cX12_write 62 = .ok (.getfield 16, 3) := by decide +kernel
theorem dX12_write_65 : decode cX12_write 65 = .ok (.invokevirtual 171, 3) := by decide +kernel
theorem dX12_write_68 : decode cX12_write 68 = .ok (.aload_n 0, 1) := by decide +kernel
theorem dX12_write_69 : decode cX12_write 69 = .ok (.iload_n 1, 1) := by decide +kernel
theorem dX12_write_70 : decode cX12_write 70 = .ok (.putfield 80, 3) := by decide +kernel
theorem dX12_write_73 : decode cX12_write 73 = .ok (.aload_n 0, 1) := by decide +kernel
theorem dX12_write_74 : decode cX12_write 74 = .ok (.getfield 16, 3) := by decide +kernel
theorem dX12_write_77 : decode cX12_write 77 = .ok (.getfield 83, 3) := by decide +kernel
theorem dX12_write_80 : decode cX12_write 80 = .ok (.ireturn, 1) := by decide +kernel
theorem dX1_beginBody_0 : decode cX1_beginBody 0 = .ok (.iconst 0, 1) := by decide +kernel
theorem dX1_beginBody_1 : decode cX1_beginBody 1 = .ok (.istore_n 1, 1) := by decide +kernel
theorem dX1_beginBody_2 : decode cX1_beginBody 2 = .ok (.iload_n 1, 1) := by decide +kernel
theorem dX1_beginBody_3 : decode cX1_beginBody 3 = .ok (.bipush 48, 2) := by decide +kernel
theorem dX1_beginBody_5 : decode cX1_beginBody 5 = .ok (.if_icmp .ge 16, 3) := by decide +kernel
theorem dX1_beginBody_8 : decode cX1_beginBody 8 = .ok (.aload_n 0, 1) := by decide +kernel
theorem dX1_beginBody_9 : decode cX1_beginBody 9 = .ok (.getfield 29, 3) := by decide +kernel
theorem dX1_beginBody_12 : decode cX1_beginBody 12 = .ok (.iload_n 1, 1) := by decide +kernel
theorem dX1_beginBody_13 : decode cX1_beginBody 13 = .ok (.iconst 0, 1) := by decide +kernel
theorem dX1_beginBody_14 : decode cX1_beginBody 14 = .ok (.bastore, 1) := by decide +kernel
theorem dX1_beginBody_15 : decode cX1_beginBody 15 = .ok (.iinc 1 1, 3) := by decide +kernel
theorem dX1_beginBody_18 : decode cX1_beginBody 18 = .ok (.goto (-16), 3) := by decide +kernel
theorem dX1_beginBody_21 : decode cX1_beginBody 21 = .ok (.aload_n 0, 1) := by decide +kernel
theorem dX1_beginBody_22 : decode cX1_beginBody 22 = .ok (.getfield 32, 3) := by decide +kernel
theorem dX1_beginBody_25 : decode cX1_beginBody 25 = .ok (.aload_n 0, 1) := by decide +kernel
theorem dX1_beginBody_26 : decode cX1_beginBody 26 = .ok (.getfield 36, 3) := by decide +kernel
theorem dX1_beginBody_29 : decode cX1_beginBody 29 = .ok (.getfield 78, 3) := by decide +kernel
theorem dX1_beginBody_32 : decode cX1_beginBody 32 = .ok (.invokevirtual 81, 3) := by decide +kernel
theorem dX1_beginBody_35 : decode cX1_beginBody 35 = .ok (.istore_n 1, 1) := by decide +kernel
theorem dX1_beginBody_36 : decode cX1_beginBody 36 = .ok (.iload_n 1, 1) := by decide +kernel
theorem dX1_beginBody_37 : decode cX1_beginBody 37 = .ok (.invokestatic 87, 3) := by decide +kernel
theorem dX1_beginBody_40 : decode cX1_beginBody 40 = .ok (.istore_n 2, 1) := by decide +kernel
theorem dX1_beginBody_41 : decode cX1_beginBody 41 = .ok (.iconst 0, 1) := by decide +kernel
theorem dX1_beginBody_42 : decode cX1_beginBody 42 = .ok (.istore_n 3, 1) := by decide +kernel
theorem dX1_beginBody_43 : decode cX1_beginBody 43 = .ok (.iconst 0, 1) := by decide +kernel
theorem dX1_beginBody_44 : decode cX1_beginBody 44 = .ok (.istore 4, 2) := by decide +kernel
theorem dX1_beginBody_46 : decode cX1_beginBody 46 = .ok (.iload 4, 2) := by decide +kernel
theorem dX1_beginBody_48 : decode cX1_beginBody 48 = .ok (.iload_n 2, 1) := by decide +kernel
theorem dX1_beginBody_49 : decode cX1_beginBody 49 = .ok (.if_icmp .ge 55, 3) := by decide +kernel
theorem dX1_beginBody_52 : decode cX1_beginBody 52 = .ok (.iload_n 1, 1) := by decide +kernel
theorem dX1_beginBody_53 : decode cX1_beginBody 53 = .ok (.iload 4, 2) := by decide +kernel
theorem dX1_beginBody_55 : decode cX1_beginBody 55 = .ok (.invokestatic 92, 3) := by decide +kernel
theorem dX1_beginBody_58 : decode cX1_beginBody 58 = .ok (.istore 5, 2) := by decide +kernel
theorem dX1_beginBody_60 : decode cX1_beginBody 60 = .ok (.aload_n 0, 1) := by decide +kernel
theorem dX1_beginBody_61 : decode cX1_beginBody 61 = .ok (.iload_n 3, 1) := by decide +kernel
theorem dX1_beginBody_62 : decode cX1_beginBody 62 = .ok (.iload 5, 2) := by decide +kernel
theorem dX1_beginBody_64 : decode cX1_beginBody 64 = .ok (.invokestatic 96, 3) := by decide +kernel
theorem dX1_beginBody_67 : decode cX1_beginBody 67 = .ok (.invokevirtual 99, 3) := by decide +kernel
theorem dX1_beginBody_70 : decode cX1_beginBody 70 = .ok (.iload 5, 2) := by decide +kernel
theorem dX1_beginBody_72 : decode cX1_beginBody 72 = .ok (.iconst 2, 1) := by decide +kernel
theorem dX1_beginBody_73 : decode cX1_beginBody 73 = .ok (.if_icmp .ne 11, 3) := by decide +kernel
theorem dX1_beginBody_76 : decode cX1_beginBody 76 = .ok (.aload_n 0, 1) := by decide +kernel
theorem dX1_beginBody_77 : decode cX1_beginBody 77 = .ok (.iload_n 3, 1) := by decide +kernel
theorem dX1_beginBody_78 : decode cX1_beginBody 78 = .ok (.iconst 1, 1) := by decide +kernel
theorem dX1_beginBody_79 : decode cX1_beginBody 79 = .ok (.iadd, 1) := by decide +kernel
theorem dX1_beginBody_80 : decode cX1_beginBody 80 = .ok (.iconst 3, 1) := by decide +kernel
theorem dX1_beginBody_81 : decode cX1_beginBody 81 = .ok (.invokevirtual 99, 3) := by decide +kernel
theorem dX1_beginBody_84 : decode cX1_beginBody 84 = .ok (.iload_n 3, 1) := by decide +kernel
theorem dX1_beginBody_85 : decode cX1_beginBody 85 = .ok (.iload 5, 2) := by decide +kernel
theorem dX1_beginBody_87 : decode cX1_beginBody 87 = .ok (.iconst 2, 1) := by decide +kernel
theorem dX1_beginBody_88 : decode cX1_beginBody 88 = .ok (.if_icmp .ne 7, 3) := by decide +kernel
theorem dX1_beginBody_91 : decode cX1_beginBody 91 = .ok (.iconst 2, 1) := by decide +kernel
theorem dX1_beginBody_92 : decode cX1_beginBody 92 = .ok (.goto 4, 3) := by decide +kernel
theorem dX1_beginBody_95 : decode cX1_beginBody 95 = .ok (.iconst 1, 1) := by decide +kernel
theorem dX1_beginBody_96 : decode cX1_beginBody 96 = .ok (.iadd, 1) := by decide +kernel
theorem dX1_beginBody_97 : decode cX1_beginBody 97 = .ok (.istore_n 3, 1) := by decide +kernel
theorem dX1_beginBody_98 : decode cX1_beginBody 98 = .ok (.iinc 4 1, 3) := by decide +kernel
theorem dX1_beginBody_101 : decode cX1_beginBody 101 = .ok (.goto (-55), 3) := by decide +kernel
theorem dX1_beginBody_104 : decode cX1_beginBody 104 = .ok (.aload_n 0, 1) := by decide +kernel
theorem dX1_beginBody_105 : decode cX1_beginBody 105 = .ok (.iconst 0, 1) := by decide +kernel
theorem dX1_beginBody_106 : decode cX1_beginBody 106 = .ok (.putfield 103, 3) := by decide +kernel
theorem dX1_beginBody_109 : decode cX1_beginBody 109 = .ok (.aload_n 0, 1) := by decide +kernel
theorem dX1_beginBody_110 : decode cX1_beginBody 110 = .ok (.iconst 0, 1) := by decide +kernel
theorem dX1_beginBody_111 : decode cX1_beginBody 111 = .ok (.invokevirtual 106, 3) := by decide +kernel
theorem dX1_beginBody_114 : decode cX1_beginBody 114 = .ok (.return_, 1) := by decide +kernel
theorem dX1_comeTo_0 : decode cX1_comeTo 0 = .ok (.iload_n 1, 1) := by decide +kernel
theorem dX1_comeTo_1 : decode cX1_comeTo 1 = .ok (.ifCond .lt 25, 3) := by decide +kernel
theorem dX1_comeTo_4 : decode cX1_comeTo 4 = .ok (.iload_n 1, 1) := by decide +kernel
theorem dX1_comeTo_5 : decode cX1_comeTo 5 = .ok (.aload_n 0, 1) := by decide +kernel
theorem dX1_comeTo_6 : decode cX1_comeTo 6 = .ok (.getfield 36, 3) := by decide +kernel
theorem dX1_comeTo_9 : decode cX1_comeTo 9 = .ok (.getfield 50, 3) := by decide +kernel
theorem dX1_comeTo_12 : decode cX1_comeTo 12 = .ok (.if_icmp .ge 14, 3) := by decide +kernel
theorem dX1_comeTo_15 : decode cX1_comeTo 15 = .ok (.aload_n 0, 1) := by decide +kernel
theorem dX1_comeTo_16 : decode cX1_comeTo 16 = .ok (.getfield 12, 3) := by decide +kernel
theorem dX1_comeTo_19 : decode cX1_comeTo 19 = .ok (.iload_n 1, 1) := by decide +kernel
theorem dX1_comeTo_20 : decode cX1_comeTo 20 = .ok (.invokevirtual 68, 3) := by decide +kernel
theorem dX1_comeTo_23 : decode cX1_comeTo 23 = .ok (.ifCond .eq 4, 3) := by decide +kernel
theorem dX1_comeTo_26 : decode cX1_comeTo 26 = .ok (.return_, 1) := by decide +kernel
theorem dX1_comeTo_27 : decode cX1_comeTo 27 = .ok (.iload_n 1, 1) := by decide +kernel
theorem dX1_comeTo_28 : decode cX1_comeTo 28 = .ok (.bipush 48, 2) := by decide +kernel
theorem dX1_comeTo_30 : decode cX1_comeTo 30 = .ok (.imul, 1) := by decide +kernel
theorem dX1_comeTo_31 : decode cX1_comeTo 31 = .ok (.istore_n 2, 1) := by decide +kernel
theorem dX1_comeTo_32 : decode cX1_comeTo 32 = .ok (.aload_n 0, 1) := by decide +kernel
theorem dX1_comeTo_33 : decode cX1_comeTo 33 = .ok (.getfield 22, 3) := by decide +kernel
theorem dX1_comeTo_36 : decode cX1_comeTo 36 = .ok (.iload_n 1, 1) := by decide +kernel
theorem dX1_comeTo_37 : decode cX1_comeTo 37 = .ok (.baload, 1) := by decide +kernel
theorem dX1_comeTo_38 : decode cX1_comeTo 38 = .ok (.ifCond .ne 7, 3) := by decide +kernel
theorem dX1_comeTo_41 : decode cX1_comeTo 41 = .ok (.iconst 1, 1) := by decide +kernel
theorem dX1_comeTo_42 : decode cX1_comeTo 42 = .ok (.goto 4, 3) := by decide +kernel
theorem dX1_comeTo_45 : decode cX1_comeTo 45 = .ok (.iconst 0, 1) := by decide +kernel
theorem dX1_comeTo_46 : decode cX1_comeTo 46 = .ok (.istore_n 3, 1) := by decide +kernel
theorem dX1_comeTo_47 : decode cX1_comeTo 47 = .ok (.iconst 0, 1) := by decide +kernel
theorem dX1_comeTo_48 : decode cX1_comeTo 48 = .ok (.istore 4, 2) := by decide +kernel
theorem dX1_comeTo_50 : decode cX1_comeTo 50 = .ok (.iload 4, 2) := by decide +kernel
theorem dX1_comeTo_52 : decode cX1_comeTo 52 = .ok (.bipush 24, 2) := by decide +kernel
theorem dX1_comeTo_54 : decode cX1_comeTo 54 = .ok (.aload_n 0, 1) := by decide +kernel
theorem dX1_comeTo_55 : decode cX1_comeTo 55 = .ok (.getfield 103, 3) := by decide +kernel
theorem dX1_comeTo_58 : decode cX1_comeTo 58 = .ok (.iadd, 1) := by decide +kernel
theorem dX1_comeTo_59 : decode cX1_comeTo 59 = .ok (.if_icmp .ge 93, 3) := by decide +kernel
theorem dX1_comeTo_62 : decode cX1_comeTo 62 = .ok (.iload 4, 2) := by decide +kernel
theorem dX1_comeTo_64 : decode cX1_comeTo 64 = .ok (.bipush 48, 2) := by decide +kernel
theorem dX1_comeTo_66 : decode cX1_comeTo 66 = .ok (.if_icmp .ge 86, 3) := by decide +kernel
theorem dX1_comeTo_69 : decode cX1_comeTo 69 = .ok (.iload_n 3, 1) := by decide +kernel
theorem dX1_comeTo_70 : decode cX1_comeTo 70 = .ok (.ifCond .eq 13, 3) := by decide +kernel
theorem dX1_comeTo_73 : decode cX1_comeTo 73 = .ok (.aload_n 0, 1) := by decide +kernel
theorem dX1_comeTo_74 : decode cX1_comeTo 74 = .ok (.getfield 29, 3) := by decide +kernel
theorem dX1_comeTo_77 : decode cX1_comeTo 77 = .ok (.iload 4, 2) := by decide +kernel
theorem dX1_comeTo_79 : decode cX1_comeTo 79 = .ok (.baload, 1) := by decide +kernel
theorem dX1_comeTo_80 : decode cX1_comeTo 80 = .ok (.goto 22, 3) := by decide +kernel
theorem dX1_comeTo_83 : decode cX1_comeTo 83 = .ok (.aload_n 0, 1) := by decide +kernel
theorem dX1_comeTo_84 : decode cX1_comeTo 84 = .ok (.getfield 18, 3) := by decide +kernel
theorem dX1_comeTo_87 : decode cX1_comeTo 87 = .ok (.iload_n 2, 1) := by decide +kernel
theorem dX1_comeTo_88 : decode cX1_comeTo 88 = .ok (.iload 4, 2) := by decide +kernel
theorem dX1_comeTo_90 : decode cX1_comeTo 90 = .ok (.iadd, 1) := by decide +kernel
theorem dX1_comeTo_91 : decode cX1_comeTo 91 = .ok (.baload, 1) := by decide +kernel
theorem dX1_comeTo_92 : decode cX1_comeTo 92 = .ok (.aload_n 0, 1) := by decide +kernel
theorem dX1_comeTo_93 : decode cX1_comeTo 93 = .ok (.getfield 29, 3) := by decide +kernel
theorem dX1_comeTo_96 : decode cX1_comeTo 96 = .ok (.iload 4, 2) := by decide +kernel
theorem dX1_comeTo_98 : decode cX1_comeTo 98 = .ok (.baload, 1) := by decide +kernel
theorem dX1_comeTo_99 : decode cX1_comeTo 99 = .ok (.invokestatic 109, 3) := by decide +kernel
theorem dX1_comeTo_102 : decode cX1_comeTo 102 = .ok (.istore 5, 2) := by decide +kernel
theorem dX1_comeTo_104 : decode cX1_comeTo 104 = .ok (.iload_n 3, 1) := by decide +kernel
theorem dX1_comeTo_105 : decode cX1_comeTo 105 = .ok (.ifCond .ne 17, 3) := by decide +kernel
theorem dX1_comeTo_108 : decode cX1_comeTo 108 = .ok (.iload 5, 2) := by decide +kernel
theorem dX1_comeTo_110 : decode cX1_comeTo 110 = .ok (.aload_n 0, 1) := by decide +kernel
theorem dX1_comeTo_111 : decode cX1_comeTo 111 = .ok (.getfield 18, 3) := by decide +kernel
theorem dX1_comeTo_114 : decode cX1_comeTo 114 = .ok (.iload_n 2, 1) := by decide +kernel
theorem dX1_comeTo_115 : decode cX1_comeTo 115 = .ok (.iload 4, 2) := by decide +kernel
theorem dX1_comeTo_117 : decode cX1_comeTo 117 = .ok (.iadd, 1) := by decide +kernel
theorem dX1_comeTo_118 : decode cX1_comeTo 118 = .ok (.baload, 1) := by decide +kernel
theorem dX1_comeTo_119 : decode cX1_comeTo 119 = .ok (.if_icmp .eq 27, 3) := by decide +kernel
theorem dX1_comeTo_122 : decode cX1_comeTo 122 = .ok (.aload_n 0, 1) := by decide +kernel
theorem dX1_comeTo_123 : decode cX1_comeTo 123 = .ok (.getfield 18, 3) := by decide +kernel
theorem dX1_comeTo_126 : decode cX1_comeTo 126 = .ok (.iload_n 2, 1) := by decide +kernel
theorem dX1_comeTo_127 : decode cX1_comeTo 127 = .ok (.iload 4, 2) := by decide +kernel
theorem dX1_comeTo_129 : decode cX1_comeTo 129 = .ok (.iadd, 1) := by decide +kernel
theorem dX1_comeTo_130 : decode cX1_comeTo 130 = .ok (.iload 5, 2) := by decide +kernel
theorem dX1_comeTo_132 : decode cX1_comeTo 132 = .ok (.i2b, 1) := by decide +kernel
theorem dX1_comeTo_133 : decode cX1_comeTo 133 = .ok (.bastore, 1) := by decide +kernel
theorem dX1_comeTo_134 : decode cX1_comeTo 134 = .ok (.aload_n 0, 1) := by decide +kernel
theorem dX1_comeTo_135 : decode cX1_comeTo 135 = .ok (.getfield 26, 3) := by decide +kernel
theorem dX1_comeTo_138 : decode cX1_comeTo 138 = .ok (.iload_n 1, 1) := by decide +kernel
theorem dX1_comeTo_139 : decode cX1_comeTo 139 = .ok (.iconst 1, 1) := by decide +kernel
theorem dX1_comeTo_140 : decode cX1_comeTo 140 = .ok (.bastore, 1) := by decide +kernel
theorem dX1_comeTo_141 : decode cX1_comeTo 141 = .ok (.aload_n 0, 1) := by decide +kernel
theorem dX1_comeTo_142 : decode cX1_comeTo 142 = .ok (.iconst 1, 1) := by decide +kernel
theorem dX1_comeTo_143 : decode cX1_comeTo 143 = .ok (.putfield 60, 3) := by decide +kernel
theorem dX1_comeTo_146 : decode cX1_comeTo 146 = .ok (.iinc 4 1, 3) := by decide +kernel
theorem dX1_comeTo_149 : decode cX1_comeTo 149 = .ok (.goto (-99), 3) := by decide +kernel
theorem dX1_comeTo_152 : decode cX1_comeTo 152 = .ok (.aload_n 0, 1) := by decide +kernel
theorem dX1_comeTo_153 : decode cX1_comeTo 153 = .ok (.getfield 22, 3) := by decide +kernel
theorem dX1_comeTo_156 : decode cX1_comeTo 156 = .ok (.iload_n 1, 1) := by decide +kernel
theorem dX1_comeTo_157 : decode cX1_comeTo 157 = .ok (.iconst 1, 1) := by decide +kernel
theorem dX1_comeTo_158 : decode cX1_comeTo 158 = .ok (.bastore, 1) := by decide +kernel
theorem dX1_comeTo_159 : decode cX1_comeTo 159 = .ok (.return_, 1) := by decide +kernel
theorem dX1_firstFault_0 : decode cX1_firstFault 0 = .ok (.aload_n 2, 1) := by decide +kernel
theorem dX1_firstFault_1 : decode cX1_firstFault 1 = .ok (.ifnonnull 5, 3) := by decide +kernel
theorem dX1_firstFault_4 : decode cX1_firstFault 4 = .ok (.iconst (-1), 1) := by decide +kernel
theorem dX1_firstFault_5 : decode cX1_firstFault 5 = .ok (.ireturn, 1) := by decide +kernel
theorem dX1_firstFault_6 : decode cX1_firstFault 6 = .ok (.aload_n 0, 1) := by decide +kernel
theorem dX1_firstFault_7 : decode cX1_firstFault 7 = .ok (.aload_n 1, 1) := by decide +kernel
theorem dX1_firstFault_8 : decode cX1_firstFault 8 = .ok (.putfield 32, 3) := by decide +kernel
theorem dX1_firstFault_11 : decode cX1_firstFault 11 = .ok (.aload_n 0, 1) := by decide +kernel
theorem dX1_firstFault_12 : decode cX1_firstFault 12 = .ok (.aload_n 2, 1) := by decide +kernel
theorem dX1_firstFault_13 : decode cX1_firstFault 13 = .ok (.putfield 36, 3) := by decide +kernel
theorem dX1_firstFault_16 : decode cX1_firstFault 16 = .ok (.aload_n 0, 1) := by decide +kernel
theorem dX1_firstFault_17 : decode cX1_firstFault 17 = .ok (.getfield 12, 3) := by decide +kernel
theorem dX1_firstFault_20 : decode cX1_firstFault 20 = .ok (.aload_n 0, 1) := by decide +kernel
theorem dX1_firstFault_21 : decode cX1_firstFault 21 = .ok (.getfield 32, 3) := by decide +kernel
theorem dX1_firstFault_24 : decode cX1_firstFault 24 = .ok (.aload_n 0, 1) := by decide +kernel
theorem dX1_firstFault_25 : decode cX1_firstFault 25 = .ok (.getfield 36, 3) := by decide +kernel
theorem dX1_firstFault_28 : decode cX1_firstFault 28 = .ok (.aload_n 0, 1) := by decide +kernel
theorem dX1_firstFault_29 : decode cX1_firstFault 29 = .ok (.getfield 36, 3) := by decide +kernel
theorem dX1_firstFault_32 : decode cX1_firstFault 32 = .ok (.getfield 40, 3) := by decide +kernel
theorem dX1_firstFault_35 : decode cX1_firstFault 35 = .ok (.invokevirtual 46, 3) := by decide +kernel
theorem dX1_firstFault_38 : decode cX1_firstFault 38 = .ok (.aload_n 0, 1) := by decide +kernel
theorem dX1_firstFault_39 : decode cX1_firstFault 39 = .ok (.aload_n 0, 1) := by decide +kernel
theorem dX1_firstFault_40 : decode cX1_firstFault 40 = .ok (.getfield 36, 3) := by decide +kernel
theorem dX1_firstFault_43 : decode cX1_firstFault 43 = .ok (.getfield 50, 3) := by decide +kernel
theorem dX1_firstFault_46 : decode cX1_firstFault 46 = .ok (.invokevirtual 53, 3) := by decide +kernel
theorem dX1_firstFault_49 : decode cX1_firstFault 49 = .ok (.aload_n 0, 1) := by decide +kernel
theorem dX1_firstFault_50 : decode cX1_firstFault 50 = .ok (.invokevirtual 57, 3) := by decide +kernel
theorem dX1_firstFault_53 : decode cX1_firstFault 53 = .ok (.aload_n 0, 1) := by decide +kernel
theorem dX1_firstFault_54 : decode cX1_firstFault 54 = .ok (.iconst 1, 1) := by decide +kernel
theorem dX1_firstFault_55 : decode cX1_firstFault 55 = .ok (.putfield 60, 3) := by decide +kernel
theorem dX1_firstFault_58 : decode cX1_firstFault 58 = .ok (.iconst 0, 1) := by decide +kernel
theorem dX1_firstFault_59 : decode cX1_firstFault 59 = .ok (.istore_n 3, 1) := by decide +kernel
theorem dX1_firstFault_60 : decode cX1_firstFault 60 = .ok (.aload_n 0, 1) := by decide +kernel
theorem dX1_firstFault_61 : decode cX1_firstFault 61 = .ok (.getfield 60, 3) := by decide +kernel
theorem dX1_firstFault_64 : decode cX1_firstFault 64 = .ok (.ifCond .eq 65, 3) := by decide +kernel
theorem dX1_firstFault_67 : decode cX1_firstFault 67 = .ok (.iload_n 3, 1) := by decide +kernel
theorem dX1_firstFault_68 : decode cX1_firstFault 68 = .ok (.ldc 64, 2) := by decide +kernel
theorem dX1_firstFault_70 : decode cX1_firstFault 70 = .ok (.if_icmp .ge 59, 3) := by decide +kernel
theorem dX1_firstFault_73 : decode cX1_firstFault 73 = .ok (.aload_n 0, 1) := by decide +kernel
theorem dX1_firstFault_74 : decode cX1_firstFault 74 = .ok (.iconst 0, 1) := by decide +kernel
theorem dX1_firstFault_75 : decode cX1_firstFault 75 = .ok (.putfield 60, 3) := by decide +kernel
theorem dX1_firstFault_78 : decode cX1_firstFault 78 = .ok (.iconst 0, 1) := by decide +kernel
theorem dX1_firstFault_79 : decode cX1_firstFault 79 = .ok (.istore 4, 2) := by decide +kernel
theorem dX1_firstFault_81 : decode cX1_firstFault 81 = .ok (.iload 4, 2) := by decide +kernel
theorem dX1_firstFault_83 : decode cX1_firstFault 83 = .ok (.aload_n 0, 1) := by decide +kernel
theorem dX1_firstFault_84 : decode cX1_firstFault 84 = .ok (.getfield 36, 3) := by decide +kernel
theorem dX1_firstFault_87 : decode cX1_firstFault 87 = .ok (.getfield 50, 3) := by decide +kernel
theorem dX1_firstFault_90 : decode cX1_firstFault 90 = .ok (.if_icmp .ge 33, 3) := by decide +kernel
theorem dX1_firstFault_93 : decode cX1_firstFault 93 = .ok (.aload_n 0, 1) := by decide +kernel
theorem dX1_firstFault_94 : decode cX1_firstFault 94 = .ok (.getfield 26, 3) := by decide +kernel
theorem dX1_firstFault_97 : decode cX1_firstFault 97 = .ok (.iload 4, 2) := by decide +kernel
theorem dX1_firstFault_99 : decode cX1_firstFault 99 = .ok (.baload, 1) := by decide +kernel
theorem dX1_firstFault_100 : decode cX1_firstFault 100 = .ok (.ifCond .eq 17, 3) := by decide +kernel
theorem dX1_firstFault_103 : decode cX1_firstFault 103 = .ok (.aload_n 0, 1) := by decide +kernel
theorem dX1_firstFault_104 : decode cX1_firstFault 104 = .ok (.getfield 26, 3) := by decide +kernel
theorem dX1_firstFault_107 : decode cX1_firstFault 107 = .ok (.iload 4, 2) := by decide +kernel
theorem dX1_firstFault_109 : decode cX1_firstFault 109 = .ok (.iconst 0, 1) := by decide +kernel
theorem dX1_firstFault_110 : decode cX1_firstFault 110 = .ok (.bastore, 1) := by decide +kernel
theorem dX1_firstFault_111 : decode cX1_firstFault 111 = .ok (.aload_n 0, 1) := by decide +kernel
theorem dX1_firstFault_112 : decode cX1_firstFault 112 = .ok (.iload 4, 2) := by decide +kernel
theorem dX1_firstFault_114 : decode cX1_firstFault 114 = .ok (.invokevirtual 65, 3) := by decide +kernel
theorem dX1_firstFault_117 : decode cX1_firstFault 117 = .ok (.iinc 4 1, 3) := by decide +kernel
theorem dX1_firstFault_120 : decode cX1_firstFault 120 = .ok (.goto (-39), 3) := by decide +kernel
theorem dX1_firstFault_123 : decode cX1_firstFault 123 = .ok (.iinc 3 1, 3) := by decide +kernel
theorem dX1_firstFault_126 : decode cX1_firstFault 126 = .ok (.goto (-66), 3) := by decide +kernel
theorem dX1_firstFault_129 : decode cX1_firstFault 129 = .ok (.iconst 0, 1) := by decide +kernel
theorem dX1_firstFault_130 : decode cX1_firstFault 130 = .ok (.istore_n 3, 1) := by decide +kernel
theorem dX1_firstFault_131 : decode cX1_firstFault 131 = .ok (.iload_n 3, 1) := by decide +kernel
theorem dX1_firstFault_132 : decode cX1_firstFault 132 = .ok (.aload_n 0, 1) := by decide +kernel
theorem dX1_firstFault_133 : decode cX1_firstFault 133 = .ok (.getfield 36, 3) := by decide +kernel
theorem dX1_firstFault_136 : decode cX1_firstFault 136 = .ok (.getfield 50, 3) := by decide +kernel
theorem dX1_firstFault_139 : decode cX1_firstFault 139 = .ok (.if_icmp .ge 30, 3) := by decide +kernel
theorem dX1_firstFault_142 : decode cX1_firstFault 142 = .ok (.aload_n 0, 1) := by decide +kernel
theorem dX1_firstFault_143 : decode cX1_firstFault 143 = .ok (.getfield 12, 3) := by decide +kernel
theorem dX1_firstFault_146 : decode cX1_firstFault 146 = .ok (.iload_n 3, 1) := by decide +kernel
theorem dX1_firstFault_147 : decode cX1_firstFault 147 = .ok (.invokevirtual 68, 3) := by decide +kernel
theorem dX1_firstFault_150 : decode cX1_firstFault 150 = .ok (.ifCond .ne 11, 3) := by decide +kernel
theorem dX1_firstFault_153 : decode cX1_firstFault 153 = .ok (.aload_n 0, 1) := by decide +kernel
theorem dX1_firstFault_154 : decode cX1_firstFault 154 = .ok (.iload_n 3, 1) := by decide +kernel
theorem dX1_firstFault_155 : decode cX1_firstFault 155 = .ok (.invokevirtual 72, 3) := by decide +kernel
theorem dX1_firstFault_158 : decode cX1_firstFault 158 = .ok (.ifCond .eq 5, 3) := by decide +kernel
theorem dX1_firstFault_161 : decode cX1_firstFault 161 = .ok (.iload_n 3, 1) := by decide +kernel
theorem dX1_firstFault_162 : decode cX1_firstFault 162 = .ok (.ireturn, 1) := by decide +kernel
theorem dX1_firstFault_163 : decode cX1_firstFault 163 = .ok (.iinc 3 1, 3) := by decide +kernel
theorem dX1_firstFault_166 : decode cX1_firstFault 166 = .ok (.goto (-35), 3) := by decide +kernel
theorem dX1_firstFault_169 : decode cX1_firstFault 169 = .ok (.aload_n 0, 1) := by decide +kernel
theorem dX1_firstFault_170 : decode cX1_firstFault 170 = .ok (.invokevirtual 75, 3) := by decide +kernel
theorem dX1_firstFault_173 : decode cX1_firstFault 173 = .ok (.iconst (-1), 1) := by decide +kernel
theorem dX1_firstFault_174 : decode cX1_firstFault 174 = .ok (.ireturn, 1) := by decide +kernel
theorem dX1_flowFrom_0 : decode cX1_flowFrom 0 = .ok (.aload_n 0, 1) := by decide +kernel
theorem dX1_flowFrom_1 : decode cX1_flowFrom 1 = .ok (.getfield 36, 3) := by decide +kernel
theorem dX1_flowFrom_4 : decode cX1_flowFrom 4 = .ok (.iload_n 1, 1) := by decide +kernel
theorem dX1_flowFrom_5 : decode cX1_flowFrom 5 = .ok (.invokevirtual 129, 3) := by decide +kernel
theorem dX1_flowFrom_8 : decode cX1_flowFrom 8 = .ok (.ifCond .eq 64, 3) := by decide +kernel
theorem dX1_flowFrom_11 : decode cX1_flowFrom 11 = .ok (.aload_n 0, 1) := by decide +kernel
theorem dX1_flowFrom_12 : decode cX1_flowFrom 12 = .ok (.iload_n 1, 1) := by decide +kernel
theorem dX1_flowFrom_13 : decode cX1_flowFrom 13 = .ok (.invokevirtual 132, 3) := by decide +kernel
theorem dX1_flowFrom_16 : decode cX1_flowFrom 16 = .ok (.aload_n 0, 1) := by decide +kernel
theorem dX1_flowFrom_17 : decode cX1_flowFrom 17 = .ok (.iconst 1, 1) := by decide +kernel
theorem dX1_flowFrom_18 : decode cX1_flowFrom 18 = .ok (.putfield 103, 3) := by decide +kernel
theorem dX1_flowFrom_21 : decode cX1_flowFrom 21 = .ok (.aload_n 0, 1) := by decide +kernel
theorem dX1_flowFrom_22 : decode cX1_flowFrom 22 = .ok (.bipush 24, 2) := by decide +kernel
theorem dX1_flowFrom_24 : decode cX1_flowFrom 24 = .ok (.iconst 5, 1) := by decide +kernel
theorem dX1_flowFrom_25 : decode cX1_flowFrom 25 = .ok (.invokevirtual 99, 3) := by decide +kernel
theorem dX1_flowFrom_28 : decode cX1_flowFrom 28 = .ok (.iconst 0, 1) := by decide +kernel
theorem dX1_flowFrom_29 : decode cX1_flowFrom 29 = .ok (.istore_n 2, 1) := by decide +kernel
theorem dX1_flowFrom_30 : decode cX1_flowFrom 30 = .ok (.iload_n 2, 1) := by decide +kernel
theorem dX1_flowFrom_31 : decode cX1_flowFrom 31 = .ok (.aload_n 0, 1) := by decide +kernel
theorem dX1_flowFrom_32 : decode cX1_flowFrom 32 = .ok (.getfield 36, 3) := by decide +kernel
theorem dX1_flowFrom_35 : decode cX1_flowFrom 35 = .ok (.getfield 135, 3) := by decide +kernel
theorem dX1_flowFrom_38 : decode cX1_flowFrom 38 = .ok (.if_icmp .ge 34, 3) := by decide +kernel
theorem dX1_flowFrom_41 : decode cX1_flowFrom 41 = .ok (.aload_n 0, 1) := by decide +kernel
theorem dX1_flowFrom_42 : decode cX1_flowFrom 42 = .ok (.getfield 36, 3) := by decide +kernel
theorem dX1_flowFrom_45 : decode cX1_flowFrom 45 = .ok (.iload_n 2, 1) := by decide +kernel
theorem dX1_flowFrom_46 : decode cX1_flowFrom 46 = .ok (.iload_n 1, 1) := by decide +kernel
theorem dX1_flowFrom_47 : decode cX1_flowFrom 47 = .ok (.invokevirtual 138, 3) := by decide +kernel
theorem dX1_flowFrom_50 : decode cX1_flowFrom 50 = .ok (.ifCond .eq 16, 3) := by decide +kernel
theorem dX1_flowFrom_53 : decode cX1_flowFrom 53 = .ok (.aload_n 0, 1) := by decide +kernel
theorem dX1_flowFrom_54 : decode cX1_flowFrom 54 = .ok (.aload_n 0, 1) := by decide +kernel
theorem dX1_flowFrom_55 : decode cX1_flowFrom 55 = .ok (.getfield 36, 3) := by decide +kernel
theorem dX1_flowFrom_58 : decode cX1_flowFrom 58 = .ok (.getfield 142, 3) := by decide +kernel
theorem dX1_flowFrom_61 : decode cX1_flowFrom 61 = .ok (.iload_n 2, 1) := by decide +kernel
theorem dX1_flowFrom_62 : decode cX1_flowFrom 62 = .ok (.iaload, 1) := by decide +kernel
theorem dX1_flowFrom_63 : decode cX1_flowFrom 63 = .ok (.invokevirtual 106, 3) := by decide +kernel
theorem dX1_flowFrom_66 : decode cX1_flowFrom 66 = .ok (.iinc 2 1, 3) := by decide +kernel
theorem dX1_flowFrom_69 : decode cX1_flowFrom 69 = .ok (.goto (-39), 3) := by decide +kernel
theorem dX1_flowFrom_72 : decode cX1_flowFrom 72 = .ok (.aload_n 0, 1) := by decide +kernel
theorem dX1_flowFrom_73 : decode cX1_flowFrom 73 = .ok (.iload_n 1, 1) := by decide +kernel
theorem dX1_flowFrom_74 : decode cX1_flowFrom 74 = .ok (.invokevirtual 132, 3) := by decide +kernel
theorem dX1_flowFrom_77 : decode cX1_flowFrom 77 = .ok (.aload_n 0, 1) := by decide +kernel
theorem dX1_flowFrom_78 : decode cX1_flowFrom 78 = .ok (.iload_n 1, 1) := by decide +kernel
theorem dX1_flowFrom_79 : decode cX1_flowFrom 79 = .ok (.invokevirtual 146, 3) := by decide +kernel
theorem dX1_flowFrom_82 : decode cX1_flowFrom 82 = .ok (.aload_n 0, 1) := by decide +kernel
theorem dX1_flowFrom_83 : decode cX1_flowFrom 83 = .ok (.getfield 36, 3) := by decide +kernel
theorem dX1_flowFrom_86 : decode cX1_flowFrom 86 = .ok (.iload_n 1, 1) := by decide +kernel
theorem dX1_flowFrom_87 : decode cX1_flowFrom 87 = .ok (.invokevirtual 149, 3) := by decide +kernel
theorem dX1_flowFrom_90 : decode cX1_flowFrom 90 = .ok (.invokestatic 152, 3) := by decide +kernel
theorem dX1_flowFrom_93 : decode cX1_flowFrom 93 = .ok (.ifCond .eq 10, 3) := by decide +kernel
theorem dX1_flowFrom_96 : decode cX1_flowFrom 96 = .ok (.aload_n 0, 1) := by decide +kernel
theorem dX1_flowFrom_97 : decode cX1_flowFrom 97 = .ok (.iload_n 1, 1) := by decide +kernel
theorem dX1_flowFrom_98 : decode cX1_flowFrom 98 = .ok (.iconst 1, 1) := by decide +kernel
theorem dX1_flowFrom_99 : decode cX1_flowFrom 99 = .ok (.iadd, 1) := by decide +kernel
theorem dX1_flowFrom_100 : decode cX1_flowFrom 100 = .ok (.invokevirtual 106, 3) := by decide +kernel
theorem dX1_flowFrom_103 : decode cX1_flowFrom 103 = .ok (.aload_n 0, 1) := by decide +kernel
theorem dX1_flowFrom_104 : decode cX1_flowFrom 104 = .ok (.getfield 36, 3) := by decide +kernel
theorem dX1_flowFrom_107 : decode cX1_flowFrom 107 = .ok (.iload_n 1, 1) := by decide +kernel
theorem dX1_flowFrom_108 : decode cX1_flowFrom 108 = .ok (.invokevirtual 155, 3) := by decide +kernel
theorem dX1_flowFrom_111 : decode cX1_flowFrom 111 = .ok (.istore_n 2, 1) := by decide +kernel
theorem dX1_flowFrom_112 : decode cX1_flowFrom 112 = .ok (.iconst 0, 1) := by decide +kernel
theorem dX1_flowFrom_113 : decode cX1_flowFrom 113 = .ok (.istore_n 3, 1) := by decide +kernel
theorem dX1_flowFrom_114 : decode cX1_flowFrom 114 = .ok (.iload_n 3, 1) := by decide +kernel
theorem dX1_flowFrom_115 : decode cX1_flowFrom 115 = .ok (.iload_n 2, 1) := by decide +kernel
theorem dX1_flowFrom_116 : decode cX1_flowFrom 116 = .ok (.if_icmp .ge 22, 3) := by decide +kernel
theorem dX1_flowFrom_119 : decode cX1_flowFrom 119 = .ok (.aload_n 0, 1) := by decide +kernel
theorem dX1_flowFrom_120 : decode cX1_flowFrom 120 = .ok (.aload_n 0, 1) := by decide +kernel
theorem dX1_flowFrom_121 : decode cX1_flowFrom 121 = .ok (.getfield 36, 3) := by decide +kernel
theorem dX1_flowFrom_124 : decode cX1_flowFrom 124 = .ok (.iload_n 1, 1) := by decide +kernel
theorem dX1_flowFrom_125 : decode cX1_flowFrom 125 = .ok (.iload_n 3, 1) := by decide +kernel
theorem dX1_flowFrom_126 : decode cX1_flowFrom 126 = .ok (.invokevirtual 158, 3) := by decide +kernel
theorem dX1_flowFrom_129 : decode cX1_flowFrom 129 = .ok (.invokevirtual 106, 3) := by decide +kernel
theorem dX1_flowFrom_132 : decode cX1_flowFrom 132 = .ok (.iinc 3 1, 3) := by decide +kernel
theorem dX1_flowFrom_135 : decode cX1_flowFrom 135 = .ok (.goto (-21), 3) := by decide +kernel
theorem dX1_flowFrom_138 : decode cX1_flowFrom 138 = .ok (.return_, 1) := by decide +kernel
theorem dX1_give_0 : decode cX1_give 0 = .ok (.iload_n 1, 1) := by decide +kernel
theorem dX1_give_1 : decode cX1_give 1 = .ok (.ifCond .eq 11, 3) := by decide +kernel
theorem dX1_give_4 : decode cX1_give 4 = .ok (.aload_n 0, 1) := by decide +kernel
theorem dX1_give_5 : decode cX1_give 5 = .ok (.iload_n 1, 1) := by decide +kernel
theorem dX1_give_6 : decode cX1_give 6 = .ok (.invokestatic 96, 3) := by decide +kernel
theorem dX1_give_9 : decode cX1_give 9 = .ok (.invokevirtual 211, 3) := by decide +kernel
theorem dX1_give_12 : decode cX1_give 12 = .ok (.iload_n 1, 1) := by decide +kernel
theorem dX1_give_13 : decode cX1_give 13 = .ok (.iconst 2, 1) := by decide +kernel
theorem dX1_give_14 : decode cX1_give 14 = .ok (.if_icmp .ne 8, 3) := by decide +kernel
theorem dX1_give_17 : decode cX1_give 17 = .ok (.aload_n 0, 1) := by decide +kernel
theorem dX1_give_18 : decode cX1_give 18 = .ok (.iconst 3, 1) := by decide +kernel
theorem dX1_give_19 : decode cX1_give 19 = .ok (.invokevirtual 211, 3) := by decide +kernel
theorem dX1_give_22 : decode cX1_give 22 = .ok (.return_, 1) := by decide +kernel
theorem dX1_goThrough_0 : decode cX1_goThrough 0 = .ok (.aload_n 0, 1) := by decide +kernel
theorem dX1_goThrough_1 : decode cX1_goThrough 1 = .ok (.getfield 36, 3) := by decide +kernel
theorem dX1_goThrough_4 : decode cX1_goThrough 4 = .ok (.iload_n 1, 1) := by decide +kernel
theorem dX1_goThrough_5 : decode cX1_goThrough 5 = .ok (.invokevirtual 149, 3) := by decide +kernel
theorem dX1_goThrough_8 : decode cX1_goThrough 8 = .ok (.istore_n 2, 1) := by decide +kernel
theorem dX1_goThrough_9 : decode cX1_goThrough 9 = .ok (.iload_n 2, 1) := by decide +kernel
theorem dX1_goThrough_10 : decode cX1_goThrough 10 = .ok (.bipush 87, 2) := by decide +kernel
theorem dX1_goThrough_12 : decode cX1_goThrough 12 = .ok (.if_icmp .lt 17, 3) := by decide +kernel
theorem dX1_goThrough_15 : decode cX1_goThrough 15 = .ok (.iload_n 2, 1) := by decide +kernel
theorem dX1_goThrough_16 : decode cX1_goThrough 16 = .ok (.bipush 95, 2) := by decide +kernel
theorem dX1_goThrough_18 : decode cX1_goThrough 18 = .ok (.if_icmp .gt 11, 3) := by decide +kernel
theorem dX1_goThrough_21 : decode cX1_goThrough 21 = .ok (.aload_n 0, 1) := by decide +kernel
theorem dX1_goThrough_22 : decode cX1_goThrough 22 = .ok (.iload_n 2, 1) := by decide +kernel
theorem dX1_goThrough_23 : decode cX1_goThrough 23 = .ok (.invokevirtual 164, 3) := by decide +kernel
theorem dX1_goThrough_26 : decode cX1_goThrough 26 = .ok (.goto 191, 3) := by decide +kernel
theorem dX1_goThrough_29 : decode cX1_goThrough 29 = .ok (.iload_n 2, 1) := by decide +kernel
theorem dX1_goThrough_30 : decode cX1_goThrough 30 = .ok (.invokestatic 167, 3) := by decide +kernel
theorem dX1_goThrough_33 : decode cX1_goThrough 33 = .ok (.ifCond .eq 19, 3) := by decide +kernel
theorem dX1_goThrough_36 : decode cX1_goThrough 36 = .ok (.aload_n 0, 1) := by decide +kernel
theorem dX1_goThrough_37 : decode cX1_goThrough 37 = .ok (.iload_n 2, 1) := by decide +kernel
theorem dX1_goThrough_38 : decode cX1_goThrough 38 = .ok (.aload_n 0, 1) := by decide +kernel
theorem dX1_goThrough_39 : decode cX1_goThrough 39 = .ok (.getfield 36, 3) := by decide +kernel
theorem dX1_goThrough_42 : decode cX1_goThrough 42 = .ok (.iload_n 1, 1) := by decide +kernel
theorem dX1_goThrough_43 : decode cX1_goThrough 43 = .ok (.invokevirtual 170, 3) := by decide +kernel
theorem dX1_goThrough_46 : decode cX1_goThrough 46 = .ok (.invokevirtual 173, 3) := by decide +kernel
theorem dX1_goThrough_49 : decode cX1_goThrough 49 = .ok (.goto 168, 3) := by decide +kernel
theorem dX1_goThrough_52 : decode cX1_goThrough 52 = .ok (.iload_n 2, 1) := by decide +kernel
theorem dX1_goThrough_53 : decode cX1_goThrough 53 = .ok (.invokestatic 176, 3) := by decide +kernel
theorem dX1_goThrough_56 : decode cX1_goThrough 56 = .ok (.ifCond .eq 19, 3) := by decide +kernel
theorem dX1_goThrough_59 : decode cX1_goThrough 59 = .ok (.aload_n 0, 1) := by decide +kernel
theorem dX1_goThrough_60 : decode cX1_goThrough 60 = .ok (.iload_n 2, 1) := by decide +kernel
theorem dX1_goThrough_61 : decode cX1_goThrough 61 = .ok (.aload_n 0, 1) := by decide +kernel
theorem dX1_goThrough_62 : decode cX1_goThrough 62 = .ok (.getfield 36, 3) := by decide +kernel
theorem dX1_goThrough_65 : decode cX1_goThrough 65 = .ok (.iload_n 1, 1) := by decide +kernel
theorem dX1_goThrough_66 : decode cX1_goThrough 66 = .ok (.invokevirtual 170, 3) := by decide +kernel
theorem dX1_goThrough_69 : decode cX1_goThrough 69 = .ok (.invokevirtual 179, 3) := by decide +kernel
theorem dX1_goThrough_72 : decode cX1_goThrough 72 = .ok (.goto 145, 3) := by decide +kernel
theorem dX1_goThrough_75 : decode cX1_goThrough 75 = .ok (.iload_n 2, 1) := by decide +kernel
theorem dX1_goThrough_76 : decode cX1_goThrough 76 = .ok (.sipush 132, 3) := by decide +kernel
theorem dX1_goThrough_79 : decode cX1_goThrough 79 = .ok (.if_icmp .ne 36, 3) := by decide +kernel
theorem dX1_goThrough_82 : decode cX1_goThrough 82 = .ok (.aload_n 0, 1) := by decide +kernel
theorem dX1_goThrough_83 : decode cX1_goThrough 83 = .ok (.dup, 1) := by decide +kernel
theorem dX1_goThrough_84 : decode cX1_goThrough 84 = .ok (.getfield 161, 3) := by decide +kernel
theorem dX1_goThrough_87 : decode cX1_goThrough 87 = .ok (.aload_n 0, 1) := by decide +kernel
theorem dX1_goThrough_88 : decode cX1_goThrough 88 = .ok (.aload_n 0, 1) := by decide +kernel
theorem dX1_goThrough_89 : decode cX1_goThrough 89 = .ok (.getfield 36, 3) := by decide +kernel
theorem dX1_goThrough_92 : decode cX1_goThrough 92 = .ok (.iload_n 1, 1) := by decide +kernel
theorem dX1_goThrough_93 : decode cX1_goThrough 93 = .ok (.invokevirtual 170, 3) := by decide +kernel
theorem dX1_goThrough_96 : decode cX1_goThrough 96 = .ok (.invokevirtual 182, 3) := by decide +kernel
theorem dX1_goThrough_99 : decode cX1_goThrough 99 = .ok (.iconst 1, 1) := by decide +kernel
theorem dX1_goThrough_100 : decode cX1_goThrough 100 = .ok (.if_icmp .eq 7, 3) := by decide +kernel
theorem dX1_goThrough_103 : decode cX1_goThrough 103 = .ok (.iconst 1, 1) := by decide +kernel
theorem dX1_goThrough_104 : decode cX1_goThrough 104 = .ok (.goto 4, 3) := by decide +kernel
theorem dX1_goThrough_107 : decode cX1_goThrough 107 = .ok (.iconst 0, 1) := by decide +kernel
theorem dX1_goThrough_108 : decode cX1_goThrough 108 = .ok (.ior, 1) := by decide +kernel
theorem dX1_goThrough_109 : decode cX1_goThrough 109 = .ok (.putfield 161, 3) := by decide +kernel
theorem dX1_goThrough_112 : decode cX1_goThrough 112 = .ok (.goto 105, 3) := by decide +kernel
theorem dX1_goThrough_115 : decode cX1_goThrough 115 = .ok (.aload_n 0, 1) := by decide +kernel
theorem dX1_goThrough_116 : decode cX1_goThrough 116 = .ok (.getfield 32, 3) := by decide +kernel
theorem dX1_goThrough_119 : decode cX1_goThrough 119 = .ok (.aload_n 0, 1) := by decide +kernel
theorem dX1_goThrough_120 : decode cX1_goThrough 120 = .ok (.getfield 36, 3) := by decide +kernel
theorem dX1_goThrough_123 : decode cX1_goThrough 123 = .ok (.iload_n 1, 1) := by decide +kernel
theorem dX1_goThrough_124 : decode cX1_goThrough 124 = .ok (.invokevirtual 185, 3) := by decide +kernel
theorem dX1_goThrough_127 : decode cX1_goThrough 127 = .ok (.istore_n 3, 1) := by decide +kernel
theorem dX1_goThrough_128 : decode cX1_goThrough 128 = .ok (.iload_n 3, 1) := by decide +kernel
theorem dX1_goThrough_129 : decode cX1_goThrough 129 = .ok (.istore 4, 2) := by decide +kernel
theorem dX1_goThrough_131 : decode cX1_goThrough 131 = .ok (.iload 4, 2) := by decide +kernel
theorem dX1_goThrough_133 : decode cX1_goThrough 133 = .ok (.ifCond .le 22, 3) := by decide +kernel
theorem dX1_goThrough_136 : decode cX1_goThrough 136 = .ok (.aload_n 0, 1) := by decide +kernel
theorem dX1_goThrough_137 : decode cX1_goThrough 137 = .ok (.iload 4, 2) := by decide +kernel
theorem dX1_goThrough_139 : decode cX1_goThrough 139 = .ok (.bipush 15, 2) := by decide +kernel
theorem dX1_goThrough_141 : decode cX1_goThrough 141 = .ok (.iand, 1) := by decide +kernel
theorem dX1_goThrough_142 : decode cX1_goThrough 142 = .ok (.invokevirtual 189, 3) := by decide +kernel
theorem dX1_goThrough_145 : decode cX1_goThrough 145 = .ok (.pop, 1) := by decide +kernel
theorem dX1_goThrough_146 : decode cX1_goThrough 146 = .ok (.iload 4, 2) := by decide +kernel
theorem dX1_goThrough_148 : decode cX1_goThrough 148 = .ok (.iconst 4, 1) := by decide +kernel
theorem dX1_goThrough_149 : decode cX1_goThrough 149 = .ok (.ishr, 1) := by decide +kernel
theorem dX1_goThrough_150 : decode cX1_goThrough 150 = .ok (.istore 4, 2) := by decide +kernel
theorem dX1_goThrough_152 : decode cX1_goThrough 152 = .ok (.goto (-21), 3) := by decide +kernel
theorem dX1_goThrough_155 : decode cX1_goThrough 155 = .ok (.aload_n 0, 1) := by decide +kernel
theorem dX1_goThrough_156 : decode cX1_goThrough 156 = .ok (.aload_n 0, 1) := by decide +kernel
theorem dX1_goThrough_157 : decode cX1_goThrough 157 = .ok (.getfield 32, 3) := by decide +kernel
theorem dX1_goThrough_160 : decode cX1_goThrough 160 = .ok (.aload_n 0, 1) := by decide +kernel
theorem dX1_goThrough_161 : decode cX1_goThrough 161 = .ok (.getfield 36, 3) := by decide +kernel
theorem dX1_goThrough_164 : decode cX1_goThrough 164 = .ok (.iload_n 1, 1) := by decide +kernel
theorem dX1_goThrough_165 : decode cX1_goThrough 165 = .ok (.invokevirtual 192, 3) := by decide +kernel
theorem dX1_goThrough_168 : decode cX1_goThrough 168 = .ok (.invokevirtual 195, 3) := by decide +kernel
theorem dX1_goThrough_171 : decode cX1_goThrough 171 = .ok (.aload_n 0, 1) := by decide +kernel
theorem dX1_goThrough_172 : decode cX1_goThrough 172 = .ok (.dup, 1) := by decide +kernel
theorem dX1_goThrough_173 : decode cX1_goThrough 173 = .ok (.getfield 161, 3) := by decide +kernel
theorem dX1_goThrough_176 : decode cX1_goThrough 176 = .ok (.iload_n 2, 1) := by decide +kernel
theorem dX1_goThrough_177 : decode cX1_goThrough 177 = .ok (.sipush 172, 3) := by decide +kernel
theorem dX1_goThrough_180 : decode cX1_goThrough 180 = .ok (.if_icmp .lt 32, 3) := by decide +kernel
theorem dX1_goThrough_183 : decode cX1_goThrough 183 = .ok (.iload_n 2, 1) := by decide +kernel
theorem dX1_goThrough_184 : decode cX1_goThrough 184 = .ok (.sipush 177, 3) := by decide +kernel
theorem dX1_goThrough_187 : decode cX1_goThrough 187 = .ok (.if_icmp .gt 25, 3) := by decide +kernel
theorem dX1_goThrough_190 : decode cX1_goThrough 190 = .ok (.iload_n 3, 1) := by decide +kernel
theorem dX1_goThrough_191 : decode cX1_goThrough 191 = .ok (.aload_n 0, 1) := by decide +kernel
theorem dX1_goThrough_192 : decode cX1_goThrough 192 = .ok (.getfield 32, 3) := by decide +kernel
theorem dX1_goThrough_195 : decode cX1_goThrough 195 = .ok (.aload_n 0, 1) := by decide +kernel
theorem dX1_goThrough_196 : decode cX1_goThrough 196 = .ok (.getfield 36, 3) := by decide +kernel
theorem dX1_goThrough_199 : decode cX1_goThrough 199 = .ok (.getfield 78, 3) := by decide +kernel
theorem dX1_goThrough_202 : decode cX1_goThrough 202 = .ok (.invokevirtual 198, 3) := by decide +kernel
theorem dX1_goThrough_205 : decode cX1_goThrough 205 = .ok (.if_icmp .eq 7, 3) := by decide +kernel
theorem dX1_goThrough_208 : decode cX1_goThrough 208 = .ok (.iconst 1, 1) := by decide +kernel
theorem dX1_goThrough_209 : decode cX1_goThrough 209 = .ok (.goto 4, 3) := by decide +kernel
theorem dX1_goThrough_212 : decode cX1_goThrough 212 = .ok (.iconst 0, 1) := by decide +kernel
theorem dX1_goThrough_213 : decode cX1_goThrough 213 = .ok (.ior, 1) := by decide +kernel
theorem dX1_goThrough_214 : decode cX1_goThrough 214 = .ok (.putfield 161, 3) := by decide +kernel
theorem dX1_goThrough_217 : decode cX1_goThrough 217 = .ok (.return_, 1) := by decide +kernel
theorem dX1_hasBadTypes_0 : decode cX1_hasBadTypes 0 = .ok (.aload_n 0, 1) := by decide +kernel
theorem dX1_hasBadTypes_1 : decode cX1_hasBadTypes 1 = .ok (.getfield 22, 3) := by decide +kernel
theorem dX1_hasBadTypes_4 : decode cX1_hasBadTypes 4 = .ok (.iload_n 1, 1) := by decide +kernel
theorem dX1_hasBadTypes_5 : decode cX1_hasBadTypes 5 = .ok (.baload, 1) := by decide +kernel
theorem dX1_hasBadTypes_6 : decode cX1_hasBadTypes 6 = .ok (.ifCond .ne 5, 3) := by decide +kernel
theorem dX1_hasBadTypes_9 : decode cX1_hasBadTypes 9 = .ok (.iconst 0, 1) := by decide +kernel
theorem dX1_hasBadTypes_10 : decode cX1_hasBadTypes 10 = .ok (.ireturn, 1) := by decide +kernel
theorem dX1_hasBadTypes_11 : decode cX1_hasBadTypes 11 = .ok (.aload_n 0, 1) := by decide +kernel
theorem dX1_hasBadTypes_12 : decode cX1_hasBadTypes 12 = .ok (.iload_n 1, 1) := by decide +kernel
theorem dX1_hasBadTypes_13 : decode cX1_hasBadTypes 13 = .ok (.invokevirtual 132, 3) := by decide +kernel
theorem dX1_hasBadTypes_16 : decode cX1_hasBadTypes 16 = .ok (.aload_n 0, 1) := by decide +kernel
theorem dX1_hasBadTypes_17 : decode cX1_hasBadTypes 17 = .ok (.iconst 0, 1) := by decide +kernel
theorem dX1_hasBadTypes_18 : decode cX1_hasBadTypes 18 = .ok (.putfield 161, 3) := by decide +kernel
theorem dX1_hasBadTypes_21 : decode cX1_hasBadTypes 21 = .ok (.aload_n 0, 1) := by decide +kernel
theorem dX1_hasBadTypes_22 : decode cX1_hasBadTypes 22 = .ok (.iload_n 1, 1) := by decide +kernel
theorem dX1_hasBadTypes_23 : decode cX1_hasBadTypes 23 = .ok (.invokevirtual 146, 3) := by decide +kernel
theorem dX1_hasBadTypes_26 : decode cX1_hasBadTypes 26 = .ok (.aload_n 0, 1) := by decide +kernel
theorem dX1_hasBadTypes_27 : decode cX1_hasBadTypes 27 = .ok (.getfield 161, 3) := by decide +kernel
theorem dX1_hasBadTypes_30 : decode cX1_hasBadTypes 30 = .ok (.ireturn, 1) := by decide +kernel
theorem dX1_hasLong_0 : decode cX1_hasLong 0 = .ok (.aload_n 0, 1) := by decide +kernel
theorem dX1_hasLong_1 : decode cX1_hasLong 1 = .ok (.getfield 103, 3) := by decide +kernel
theorem dX1_hasLong_4 : decode cX1_hasLong 4 = .ok (.iconst 2, 1) := by decide +kernel
theorem dX1_hasLong_5 : decode cX1_hasLong 5 = .ok (.if_icmp .lt 41, 3) := by decide +kernel
theorem dX1_hasLong_8 : decode cX1_hasLong 8 = .ok (.aload_n 0, 1) := by decide +kernel
theorem dX1_hasLong_9 : decode cX1_hasLong 9 = .ok (.bipush 24, 2) := by decide +kernel
theorem dX1_hasLong_11 : decode cX1_hasLong 11 = .ok (.aload_n 0, 1) := by decide +kernel
theorem dX1_hasLong_12 : decode cX1_hasLong 12 = .ok (.getfield 103, 3) := by decide +kernel
theorem dX1_hasLong_15 : decode cX1_hasLong 15 = .ok (.iadd, 1) := by decide +kernel
theorem dX1_hasLong_16 : decode cX1_hasLong 16 = .ok (.iconst 1, 1) := by decide +kernel
theorem dX1_hasLong_17 : decode cX1_hasLong 17 = .ok (.isub, 1) := by decide +kernel
theorem dX1_hasLong_18 : decode cX1_hasLong 18 = .ok (.invokevirtual 182, 3) := by decide +kernel
theorem dX1_hasLong_21 : decode cX1_hasLong 21 = .ok (.iconst 3, 1) := by decide +kernel
theorem dX1_hasLong_22 : decode cX1_hasLong 22 = .ok (.if_icmp .ne 24, 3) := by decide +kernel
theorem dX1_hasLong_25 : decode cX1_hasLong 25 = .ok (.aload_n 0, 1) := by decide +kernel
theorem dX1_hasLong_26 : decode cX1_hasLong 26 = .ok (.bipush 24, 2) := by decide +kernel
theorem dX1_hasLong_28 : decode cX1_hasLong 28 = .ok (.aload_n 0, 1) := by decide +kernel
theorem dX1_hasLong_29 : decode cX1_hasLong 29 = .ok (.getfield 103, 3) := by decide +kernel
theorem dX1_hasLong_32 : decode cX1_hasLong 32 = .ok (.iadd, 1) := by decide +kernel
theorem dX1_hasLong_33 : decode cX1_hasLong 33 = .ok (.iconst 2, 1) := by decide +kernel
theorem dX1_hasLong_34 : decode cX1_hasLong 34 = .ok (.isub, 1) := by decide +kernel
theorem dX1_hasLong_35 : decode cX1_hasLong 35 = .ok (.invokevirtual 182, 3) := by decide +kernel
theorem dX1_hasLong_38 : decode cX1_hasLong 38 = .ok (.iconst 2, 1) := by decide +kernel
theorem dX1_hasLong_39 : decode cX1_hasLong 39 = .ok (.if_icmp .ne 7, 3) := by decide +kernel
theorem dX1_hasLong_42 : decode cX1_hasLong 42 = .ok (.iconst 1, 1) := by decide +kernel
theorem dX1_hasLong_43 : decode cX1_hasLong 43 = .ok (.goto 4, 3) := by decide +kernel
theorem dX1_hasLong_46 : decode cX1_hasLong 46 = .ok (.iconst 0, 1) := by decide +kernel
theorem dX1_hasLong_47 : decode cX1_hasLong 47 = .ok (.ireturn, 1) := by decide +kernel
theorem dX1_init_0 : decode cX1_init 0 = .ok (.aload_n 0, 1) := by decide +kernel
theorem dX1_init_1 : decode cX1_init 1 = .ok (.invokespecial 3, 3) := by decide +kernel
theorem dX1_init_4 : decode cX1_init 4 = .ok (.aload_n 0, 1) := by decide +kernel
theorem dX1_init_5 : decode cX1_init 5 = .ok (.new 9, 3) := by decide +kernel
theorem dX1_init_8 : decode cX1_init 8 = .ok (.dup, 1) := by decide +kernel
theorem dX1_init_9 : decode cX1_init 9 = .ok (.invokespecial 11, 3) := by decide +kernel
theorem dX1_init_12 : decode cX1_init 12 = .ok (.putfield 12, 3) := by decide +kernel
theorem dX1_init_15 : decode cX1_init 15 = .ok (.aload_n 0, 1) := by decide +kernel
theorem dX1_init_16 : decode cX1_init 16 = .ok (.iconst 0, 1) := by decide +kernel
theorem dX1_init_17 : decode cX1_init 17 = .ok (.newarray .byte, 2) := by decide +kernel
theorem dX1_init_19 : decode cX1_init 19 = .ok (.putfield 18, 3) := by decide +kernel
theorem dX1_init_22 : decode cX1_init 22 = .ok (.aload_n 0, 1) := by decide +kernel
theorem dX1_init_23 : decode cX1_init 23 = .ok (.iconst 0, 1) := by decide +kernel
theorem dX1_init_24 : decode cX1_init 24 = .ok (.newarray .boolean, 2) := by decide +kernel
theorem dX1_init_26 : decode cX1_init 26 = .ok (.putfield 22, 3) := by decide +kernel
theorem dX1_init_29 : decode cX1_init 29 = .ok (.aload_n 0, 1) := by decide +kernel
theorem dX1_init_30 : decode cX1_init 30 = .ok (.iconst 0, 1) := by decide +kernel
theorem dX1_init_31 : decode cX1_init 31 = .ok (.newarray .boolean, 2) := by decide +kernel
theorem dX1_init_33 : decode cX1_init 33 = .ok (.putfield 26, 3) := by decide +kernel
theorem dX1_init_36 : decode cX1_init 36 = .ok (.aload_n 0, 1) := by decide +kernel
theorem dX1_init_37 : decode cX1_init 37 = .ok (.bipush 48, 2) := by decide +kernel
theorem dX1_init_39 : decode cX1_init 39 = .ok (.newarray .byte, 2) := by decide +kernel
theorem dX1_init_41 : decode cX1_init 41 = .ok (.putfield 29, 3) := by decide +kernel
theorem dX1_init_44 : decode cX1_init 44 = .ok (.return_, 1) := by decide +kernel
theorem dX1_isOnePlace_0 : decode cX1_isOnePlace 0 = .ok (.iload_n 0, 1) := by decide +kernel
theorem dX1_isOnePlace_1 : decode cX1_isOnePlace 1 = .ok (.iconst 1, 1) := by decide +kernel
theorem dX1_isOnePlace_2 : decode cX1_isOnePlace 2 = .ok (.if_icmp .eq 19, 3) := by decide +kernel
theorem dX1_isOnePlace_5 : decode cX1_isOnePlace 5 = .ok (.iload_n 0, 1) := by decide +kernel
theorem dX1_isOnePlace_6 : decode cX1_isOnePlace 6 = .ok (.iconst 4, 1) := by decide +kernel
theorem dX1_isOnePlace_7 : decode cX1_isOnePlace 7 = .ok (.if_icmp .eq 14, 3) := by decide +kernel
theorem dX1_isOnePlace_10 : decode cX1_isOnePlace 10 = .ok (.iload_n 0, 1) := by decide +kernel
theorem dX1_isOnePlace_11 : decode cX1_isOnePlace 11 = .ok (.iconst 5, 1) := by decide +kernel
theorem dX1_isOnePlace_12 : decode cX1_isOnePlace 12 = .ok (.if_icmp .eq 9, 3) := by decide +kernel
theorem dX1_isOnePlace_15 : decode cX1_isOnePlace 15 = .ok (.iload_n 0, 1) := by decide +kernel
theorem dX1_isOnePlace_16 : decode cX1_isOnePlace 16 = .ok (.bipush 6, 2) := by decide +kernel
theorem dX1_isOnePlace_18 : decode cX1_isOnePlace 18 = .ok (.if_icmp .ne 7, 3) := by decide +kernel
theorem dX1_isOnePlace_21 : decode cX1_isOnePlace 21 = .ok (.iconst 1, 1) := by decide +kernel
theorem dX1_isOnePlace_22 : decode cX1_isOnePlace 22 = .ok (.goto 4, 3) := by decide +kernel
theorem dX1_isOnePlace_25 : decode cX1_isOnePlace 25 = .ok (.iconst 0, 1) := by decide +kernel
theorem dX1_isOnePlace_26 : decode cX1_isOnePlace 26 = .ok (.ireturn, 1) := by decide +kernel
theorem dX1_isReference_0 : decode cX1_isReference 0 = .ok (.iload_n 0, 1) := by decide +kernel
theorem dX1_isReference_1 : decode cX1_isReference 1 = .ok (.iconst 4, 1) := by decide +kernel
theorem dX1_isReference_2 : decode cX1_isReference 2 = .ok (.if_icmp .eq 14, 3) := by decide +kernel
theorem dX1_isReference_5 : decode cX1_isReference 5 = .ok (.iload_n 0, 1) := by decide +kernel
theorem dX1_isReference_6 : decode cX1_isReference 6 = .ok (.iconst 5, 1) := by decide +kernel
theorem dX1_isReference_7 : decode cX1_isReference 7 = .ok (.if_icmp .eq 9, 3) := by decide +kernel
theorem dX1_isReference_10 : decode cX1_isReference 10 = .ok (.iload_n 0, 1) := by decide +kernel
theorem dX1_isReference_11 : decode cX1_isReference 11 = .ok (.bipush 6, 2) := by decide +kernel
theorem dX1_isReference_13 : decode cX1_isReference 13 = .ok (.if_icmp .ne 7, 3) := by decide +kernel
theorem dX1_isReference_16 : decode cX1_isReference 16 = .ok (.iconst 1, 1) := by decide +kernel
theorem dX1_isReference_17 : decode cX1_isReference 17 = .ok (.goto 4, 3) := by decide +kernel
theorem dX1_isReference_20 : decode cX1_isReference 20 = .ok (.iconst 0, 1) := by decide +kernel
theorem dX1_isReference_21 : decode cX1_isReference 21 = .ok (.ireturn, 1) := by decide +kernel
theorem dX1_join_0 : decode cX1_join 0 = .ok (.iload_n 0, 1) := by decide +kernel
theorem dX1_join_1 : decode cX1_join 1 = .ok (.iload_n 1, 1) := by decide +kernel
theorem dX1_join_2 : decode cX1_join 2 = .ok (.if_icmp .eq 19, 3) := by decide +kernel
theorem dX1_join_5 : decode cX1_join 5 = .ok (.iload_n 1, 1) := by decide +kernel
theorem dX1_join_6 : decode cX1_join 6 = .ok (.bipush 6, 2) := by decide +kernel
theorem dX1_join_8 : decode cX1_join 8 = .ok (.if_icmp .ne 15, 3) := by decide +kernel
theorem dX1_join_11 : decode cX1_join 11 = .ok (.iload_n 0, 1) := by decide +kernel
theorem dX1_join_12 : decode cX1_join 12 = .ok (.iconst 4, 1) := by decide +kernel
theorem dX1_join_13 : decode cX1_join 13 = .ok (.if_icmp .eq 8, 3) := by decide +kernel
theorem dX1_join_16 : decode cX1_join 16 = .ok (.iload_n 0, 1) := by decide +kernel
theorem dX1_join_17 : decode cX1_join 17 = .ok (.iconst 5, 1) := by decide +kernel
theorem dX1_join_18 : decode cX1_join 18 = .ok (.if_icmp .ne 5, 3) := by decide +kernel
theorem dX1_join_21 : decode cX1_join 21 = .ok (.iload_n 0, 1) := by decide +kernel
theorem dX1_join_22 : decode cX1_join 22 = .ok (.ireturn, 1) := by decide +kernel
theorem dX1_join_23 : decode cX1_join 23 = .ok (.iload_n 0, 1) := by decide +kernel
theorem dX1_join_24 : decode cX1_join 24 = .ok (.bipush 6, 2) := by decide +kernel
theorem dX1_join_26 : decode cX1_join 26 = .ok (.if_icmp .ne 17, 3) := by decide +kernel
theorem dX1_join_29 : decode cX1_join 29 = .ok (.iload_n 1, 1) := by decide +kernel
theorem dX1_join_30 : decode cX1_join 30 = .ok (.iconst 4, 1) := by decide +kernel
theorem dX1_join_31 : decode cX1_join 31 = .ok (.if_icmp .eq 8, 3) := by decide +kernel
theorem dX1_join_34 : decode cX1_join 34 = .ok (.iload_n 1, 1) := by decide +kernel
theorem dX1_join_35 : decode cX1_join 35 = .ok (.iconst 5, 1) := by decide +kernel
theorem dX1_join_36 : decode cX1_join 36 = .ok (.if_icmp .ne 7, 3) := by decide +kernel
theorem dX1_join_39 : decode cX1_join 39 = .ok (.iload_n 1, 1) := by decide +kernel
theorem dX1_join_40 : decode cX1_join 40 = .ok (.goto 4, 3) := by decide +kernel
theorem dX1_join_43 : decode cX1_join 43 = .ok (.iconst 0, 1) := by decide +kernel
theorem dX1_join_44 : decode cX1_join 44 = .ok (.ireturn, 1) := by decide +kernel
theorem dX1_keepTypes_0 : decode cX1_keepTypes 0 = .ok (.aload_n 0, 1) := by decide +kernel
theorem dX1_keepTypes_1 : decode cX1_keepTypes 1 = .ok (.getfield 36, 3) := by decide +kernel
theorem dX1_keepTypes_4 : decode cX1_keepTypes 4 = .ok (.aload_n 0, 1) := by decide +kernel
theorem dX1_keepTypes_5 : decode cX1_keepTypes 5 = .ok (.getfield 36, 3) := by decide +kernel
theorem dX1_keepTypes_8 : decode cX1_keepTypes 8 = .ok (.getfield 50, 3) := by decide +kernel
theorem dX1_keepTypes_11 : decode cX1_keepTypes 11 = .ok (.newarray .byte, 2) := by decide +kernel
theorem dX1_keepTypes_13 : decode cX1_keepTypes 13 = .ok (.putfield 228, 3) := by decide +kernel
theorem dX1_keepTypes_16 : decode cX1_keepTypes 16 = .ok (.aload_n 0, 1) := by decide +kernel
theorem dX1_keepTypes_17 : decode cX1_keepTypes 17 = .ok (.getfield 36, 3) := by decide +kernel
theorem dX1_keepTypes_20 : decode cX1_keepTypes 20 = .ok (.aload_n 0, 1) := by decide +kernel
theorem dX1_keepTypes_21 : decode cX1_keepTypes 21 = .ok (.getfield 36, 3) := by decide +kernel
theorem dX1_keepTypes_24 : decode cX1_keepTypes 24 = .ok (.getfield 50, 3) := by decide +kernel
theorem dX1_keepTypes_27 : decode cX1_keepTypes 27 = .ok (.newarray .long, 2) := by decide +kernel
theorem dX1_keepTypes_29 : decode cX1_keepTypes 29 = .ok (.putfield 230, 3) := by decide +kernel
theorem dX1_keepTypes_32 : decode cX1_keepTypes 32 = .ok (.aload_n 0, 1) := by decide +kernel
theorem dX1_keepTypes_33 : decode cX1_keepTypes 33 = .ok (.getfield 36, 3) := by decide +kernel
theorem dX1_keepTypes_36 : decode cX1_keepTypes 36 = .ok (.aload_n 0, 1) := by decide +kernel
theorem dX1_keepTypes_37 : decode cX1_keepTypes 37 = .ok (.getfield 36, 3) := by decide +kernel
theorem dX1_keepTypes_40 : decode cX1_keepTypes 40 = .ok (.getfield 50, 3) := by decide +kernel
theorem dX1_keepTypes_43 : decode cX1_keepTypes 43 = .ok (.newarray .long, 2) := by decide +kernel
theorem dX1_keepTypes_45 : decode cX1_keepTypes 45 = .ok (.putfield 234, 3) := by decide +kernel
theorem dX1_keepTypes_48 : decode cX1_keepTypes 48 = .ok (.iconst 0, 1) := by decide +kernel
theorem dX1_keepTypes_49 : decode cX1_keepTypes 49 = .ok (.istore_n 1, 1) := by decide +kernel
theorem dX1_keepTypes_50 : decode cX1_keepTypes 50 = .ok (.iload_n 1, 1) := by decide +kernel
theorem dX1_keepTypes_51 : decode cX1_keepTypes 51 = .ok (.aload_n 0, 1) := by decide +kernel
theorem dX1_keepTypes_52 : decode cX1_keepTypes 52 = .ok (.getfield 36, 3) := by decide +kernel
theorem dX1_keepTypes_55 : decode cX1_keepTypes 55 = .ok (.getfield 50, 3) := by decide +kernel
theorem dX1_keepTypes_58 : decode cX1_keepTypes 58 = .ok (.if_icmp .ge 109, 3) := by decide +kernel
theorem dX1_keepTypes_61 : decode cX1_keepTypes 61 = .ok (.aload_n 0, 1) := by decide +kernel
theorem dX1_keepTypes_62 : decode cX1_keepTypes 62 = .ok (.getfield 36, 3) := by decide +kernel
theorem dX1_keepTypes_65 : decode cX1_keepTypes 65 = .ok (.getfield 228, 3) := by decide +kernel
theorem dX1_keepTypes_68 : decode cX1_keepTypes 68 = .ok (.iload_n 1, 1) := by decide +kernel
theorem dX1_keepTypes_69 : decode cX1_keepTypes 69 = .ok (.aload_n 0, 1) := by decide +kernel
theorem dX1_keepTypes_70 : decode cX1_keepTypes 70 = .ok (.getfield 12, 3) := by decide +kernel
theorem dX1_keepTypes_73 : decode cX1_keepTypes 73 = .ok (.iload_n 1, 1) := by decide +kernel
theorem dX1_keepTypes_74 : decode cX1_keepTypes 74 = .ok (.invokevirtual 112, 3) := by decide +kernel
theorem dX1_keepTypes_77 : decode cX1_keepTypes 77 = .ok (.i2b, 1) := by decide +kernel
theorem dX1_keepTypes_78 : decode cX1_keepTypes 78 = .ok (.bastore, 1) := by decide +kernel
theorem dX1_keepTypes_79 : decode cX1_keepTypes 79 = .ok (.iconst 0, 1) := by decide +kernel
theorem dX1_keepTypes_80 : decode cX1_keepTypes 80 = .ok (.istore_n 2, 1) := by decide +kernel
theorem dX1_keepTypes_81 : decode cX1_keepTypes 81 = .ok (.aload_n 0, 1) := by decide +kernel
theorem dX1_keepTypes_82 : decode cX1_keepTypes 82 = .ok (.getfield 22, 3) := by decide +kernel
theorem dX1_keepTypes_85 : decode cX1_keepTypes 85 = .ok (.iload_n 1, 1) := by decide +kernel
theorem dX1_keepTypes_86 : decode cX1_keepTypes 86 = .ok (.baload, 1) := by decide +kernel
theorem dX1_keepTypes_87 : decode cX1_keepTypes 87 = .ok (.ifCond .eq 74, 3) := by decide +kernel
theorem dX1_keepTypes_90 : decode cX1_keepTypes 90 = .ok (.iload_n 2, 1) := by decide +kernel
theorem dX1_keepTypes_91 : decode cX1_keepTypes 91 = .ok (.bipush 24, 2) := by decide +kernel
theorem dX1_keepTypes_93 : decode cX1_keepTypes 93 = .ok (.if_icmp .ge 68, 3) := by decide +kernel
theorem dX1_keepTypes_96 : decode cX1_keepTypes 96 = .ok (.aload_n 0, 1) := by decide +kernel
theorem dX1_keepTypes_97 : decode cX1_keepTypes 97 = .ok (.getfield 18, 3) := by decide +kernel
theorem dX1_keepTypes_100 : decode cX1_keepTypes 100 = .ok (.iload_n 1, 1) := by decide +kernel
theorem dX1_keepTypes_101 : decode cX1_keepTypes 101 = .ok (.bipush 48, 2) := by decide +kernel
theorem dX1_keepTypes_103 : decode cX1_keepTypes 103 = .ok (.imul, 1) := by decide +kernel
theorem dX1_keepTypes_104 : decode cX1_keepTypes 104 = .ok (.iload_n 2, 1) := by decide +kernel
theorem dX1_keepTypes_105 : decode cX1_keepTypes 105 = .ok (.iadd, 1) := by decide +kernel
theorem dX1_keepTypes_106 : decode cX1_keepTypes 106 = .ok (.baload, 1) := by decide +kernel
theorem dX1_keepTypes_107 : decode cX1_keepTypes 107 = .ok (.i2l, 1) := by decide +kernel
theorem dX1_keepTypes_108 : decode cX1_keepTypes 108 = .ok (.lstore_n 3, 1) := by decide +kernel
theorem dX1_keepTypes_109 : decode cX1_keepTypes 109 = .ok (.iload_n 2, 1) := by decide +kernel
theorem dX1_keepTypes_110 : decode cX1_keepTypes 110 = .ok (.bipush 16, 2) := by decide +kernel
theorem dX1_keepTypes_112 : decode cX1_keepTypes 112 = .ok (.if_icmp .ge 23, 3) := by decide +kernel
theorem dX1_keepTypes_115 : decode cX1_keepTypes 115 = .ok (.aload_n 0, 1) := by decide +kernel
theorem dX1_keepTypes_116 : decode cX1_keepTypes 116 = .ok (.getfield 36, 3) := by decide +kernel
theorem dX1_keepTypes_119 : decode cX1_keepTypes 119 = .ok (.getfield 230, 3) := by decide +kernel
theorem dX1_keepTypes_122 : decode cX1_keepTypes 122 = .ok (.iload_n 1, 1) := by decide +kernel
theorem dX1_keepTypes_123 : decode cX1_keepTypes 123 = .ok (.dup2, 1) := by decide +kernel
theorem dX1_keepTypes_124 : decode cX1_keepTypes 124 = .ok (.laload, 1) := by decide +kernel
theorem dX1_keepTypes_125 : decode cX1_keepTypes 125 = .ok (.lload_n 3, 1) := by decide +kernel
theorem dX1_keepTypes_126 : decode cX1_keepTypes 126 = .ok (.iconst 4, 1) := by decide +kernel
theorem dX1_keepTypes_127 : decode cX1_keepTypes 127 = .ok (.iload_n 2, 1) := by decide +kernel
theorem dX1_keepTypes_128 : decode cX1_keepTypes 128 = .ok (.imul, 1) := by decide +kernel
theorem dX1_keepTypes_129 : decode cX1_keepTypes 129 = .ok (.lshl, 1) := by decide +kernel
theorem dX1_keepTypes_130 : decode cX1_keepTypes 130 = .ok (.lor, 1) := by decide +kernel
theorem dX1_keepTypes_131 : decode cX1_keepTypes 131 = .ok (.lastore, 1) := by decide +kernel
theorem dX1_keepTypes_132 : decode cX1_keepTypes 132 = .ok (.goto 23, 3) := by decide +kernel
theorem dX1_keepTypes_135 : decode cX1_keepTypes 135 = .ok (.aload_n 0, 1) := by decide +kernel
theorem dX1_keepTypes_136 : decode cX1_keepTypes 136 = .ok (.getfield 36, 3) := by decide +kernel
theorem dX1_keepTypes_139 : decode cX1_keepTypes 139 = .ok (.getfield 234, 3) := by decide +kernel
theorem dX1_keepTypes_142 : decode cX1_keepTypes 142 = .ok (.iload_n 1, 1) := by decide +kernel
theorem dX1_keepTypes_143 : decode cX1_keepTypes 143 = .ok (.dup2, 1) := by decide +kernel
theorem dX1_keepTypes_144 : decode cX1_keepTypes 144 = .ok (.laload, 1) := by decide +kernel
theorem dX1_keepTypes_145 : decode cX1_keepTypes 145 = .ok (.lload_n 3, 1) := by decide +kernel
theorem dX1_keepTypes_146 : decode cX1_keepTypes 146 = .ok (.iconst 4, 1) := by decide +kernel
theorem dX1_keepTypes_147 : decode cX1_keepTypes 147 = .ok (.iload_n 2, 1) := by decide +kernel
theorem dX1_keepTypes_148 : decode cX1_keepTypes 148 = .ok (.bipush 16, 2) := by decide +kernel
theorem dX1_keepTypes_150 : decode cX1_keepTypes 150 = .ok (.isub, 1) := by decide +kernel
theorem dX1_keepTypes_151 : decode cX1_keepTypes 151 = .ok (.imul, 1) := by decide +kernel
theorem dX1_keepTypes_152 : decode cX1_keepTypes 152 = .ok (.lshl, 1) := by decide +kernel
theorem dX1_keepTypes_153 : decode cX1_keepTypes 153 = .ok (.lor, 1) := by decide +kernel
theorem dX1_keepTypes_154 : decode cX1_keepTypes 154 = .ok (.lastore, 1) := by decide +kernel
theorem dX1_keepTypes_155 : decode cX1_keepTypes 155 = .ok (.iinc 2 1, 3) := by decide +kernel
theorem dX1_keepTypes_158 : decode cX1_keepTypes 158 = .ok (.goto (-77), 3) := by decide +kernel
theorem dX1_keepTypes_161 : decode cX1_keepTypes 161 = .ok (.iinc 1 1, 3) := by decide +kernel
theorem dX1_keepTypes_164 : decode cX1_keepTypes 164 = .ok (.goto (-114), 3) := by decide +kernel
theorem dX1_keepTypes_167 : decode cX1_keepTypes 167 = .ok (.return_, 1) := by decide +kernel
theorem dX1_load_0 : decode cX1_load 0 = .ok (.aload_n 0, 1) := by decide +kernel
theorem dX1_load_1 : decode cX1_load 1 = .ok (.iload_n 2, 1) := by decide +kernel
theorem dX1_load_2 : decode cX1_load 2 = .ok (.invokevirtual 182, 3) := by decide +kernel
theorem dX1_load_5 : decode cX1_load 5 = .ok (.istore_n 3, 1) := by decide +kernel
theorem dX1_load_6 : decode cX1_load 6 = .ok (.iload_n 1, 1) := by decide +kernel
theorem dX1_load_7 : decode cX1_load 7 = .ok (.bipush 25, 2) := by decide +kernel
theorem dX1_load_9 : decode cX1_load 9 = .ok (.if_icmp .ne 41, 3) := by decide +kernel
theorem dX1_load_12 : decode cX1_load 12 = .ok (.aload_n 0, 1) := by decide +kernel
theorem dX1_load_13 : decode cX1_load 13 = .ok (.dup, 1) := by decide +kernel
theorem dX1_load_14 : decode cX1_load 14 = .ok (.getfield 161, 3) := by decide +kernel
theorem dX1_load_17 : decode cX1_load 17 = .ok (.iload_n 3, 1) := by decide +kernel
theorem dX1_load_18 : decode cX1_load 18 = .ok (.invokestatic 205, 3) := by decide +kernel
theorem dX1_load_21 : decode cX1_load 21 = .ok (.ifCond .ne 7, 3) := by decide +kernel
theorem dX1_load_24 : decode cX1_load 24 = .ok (.iconst 1, 1) := by decide +kernel
theorem dX1_load_25 : decode cX1_load 25 = .ok (.goto 4, 3) := by decide +kernel
theorem dX1_load_28 : decode cX1_load 28 = .ok (.iconst 0, 1) := by decide +kernel
theorem dX1_load_29 : decode cX1_load 29 = .ok (.ior, 1) := by decide +kernel
theorem dX1_load_30 : decode cX1_load 30 = .ok (.putfield 161, 3) := by decide +kernel
theorem dX1_load_33 : decode cX1_load 33 = .ok (.aload_n 0, 1) := by decide +kernel
theorem dX1_load_34 : decode cX1_load 34 = .ok (.iload_n 3, 1) := by decide +kernel
theorem dX1_load_35 : decode cX1_load 35 = .ok (.invokestatic 205, 3) := by decide +kernel
theorem dX1_load_38 : decode cX1_load 38 = .ok (.ifCond .eq 7, 3) := by decide +kernel
theorem dX1_load_41 : decode cX1_load 41 = .ok (.iload_n 3, 1) := by decide +kernel
theorem dX1_load_42 : decode cX1_load 42 = .ok (.goto 4, 3) := by decide +kernel
theorem dX1_load_45 : decode cX1_load 45 = .ok (.iconst 0, 1) := by decide +kernel
theorem dX1_load_46 : decode cX1_load 46 = .ok (.invokevirtual 211, 3) := by decide +kernel
theorem dX1_load_49 : decode cX1_load 49 = .ok (.return_, 1) := by decide +kernel
theorem dX1_load_50 : decode cX1_load 50 = .ok (.aload_n 0, 1) := by decide +kernel
theorem dX1_load_51 : decode cX1_load 51 = .ok (.dup, 1) := by decide +kernel
theorem dX1_load_52 : decode cX1_load 52 = .ok (.getfield 161, 3) := by decide +kernel
theorem dX1_load_55 : decode cX1_load 55 = .ok (.iload_n 1, 1) := by decide +kernel
theorem dX1_load_56 : decode cX1_load 56 = .ok (.bipush 21, 2) := by decide +kernel
theorem dX1_load_58 : decode cX1_load 58 = .ok (.if_icmp .ne 16, 3) := by decide +kernel
theorem dX1_load_61 : decode cX1_load 61 = .ok (.iload_n 3, 1) := by decide +kernel
theorem dX1_load_62 : decode cX1_load 62 = .ok (.iconst 1, 1) := by decide +kernel
theorem dX1_load_63 : decode cX1_load 63 = .ok (.if_icmp .eq 7, 3) := by decide +kernel
theorem dX1_load_66 : decode cX1_load 66 = .ok (.iconst 1, 1) := by decide +kernel
theorem dX1_load_67 : decode cX1_load 67 = .ok (.goto 28, 3) := by decide +kernel
theorem dX1_load_70 : decode cX1_load 70 = .ok (.iconst 0, 1) := by decide +kernel
theorem dX1_load_71 : decode cX1_load 71 = .ok (.goto 24, 3) := by decide +kernel
theorem dX1_load_74 : decode cX1_load 74 = .ok (.iload_n 3, 1) := by decide +kernel
theorem dX1_load_75 : decode cX1_load 75 = .ok (.iconst 2, 1) := by decide +kernel
theorem dX1_load_76 : decode cX1_load 76 = .ok (.if_icmp .ne 14, 3) := by decide +kernel
theorem dX1_load_79 : decode cX1_load 79 = .ok (.aload_n 0, 1) := by decide +kernel
theorem dX1_load_80 : decode cX1_load 80 = .ok (.iload_n 2, 1) := by decide +kernel
theorem dX1_load_81 : decode cX1_load 81 = .ok (.iconst 1, 1) := by decide +kernel
theorem dX1_load_82 : decode cX1_load 82 = .ok (.iadd, 1) := by decide +kernel
theorem dX1_load_83 : decode cX1_load 83 = .ok (.invokevirtual 182, 3) := by decide +kernel
theorem dX1_load_86 : decode cX1_load 86 = .ok (.iconst 3, 1) := by decide +kernel
theorem dX1_load_87 : decode cX1_load 87 = .ok (.if_icmp .eq 7, 3) := by decide +kernel
theorem dX1_load_90 : decode cX1_load 90 = .ok (.iconst 1, 1) := by decide +kernel
theorem dX1_load_91 : decode cX1_load 91 = .ok (.goto 4, 3) := by decide +kernel
theorem dX1_load_94 : decode cX1_load 94 = .ok (.iconst 0, 1) := by decide +kernel
theorem dX1_load_95 : decode cX1_load 95 = .ok (.ior, 1) := by decide +kernel
theorem dX1_load_96 : decode cX1_load 96 = .ok (.putfield 161, 3) := by decide +kernel
theorem dX1_load_99 : decode cX1_load 99 = .ok (.aload_n 0, 1) := by decide +kernel
theorem dX1_load_100 : decode cX1_load 100 = .ok (.iload_n 1, 1) := by decide +kernel
theorem dX1_load_101 : decode cX1_load 101 = .ok (.invokestatic 214, 3) := by decide +kernel
theorem dX1_load_104 : decode cX1_load 104 = .ok (.invokevirtual 195, 3) := by decide +kernel
theorem dX1_load_107 : decode cX1_load 107 = .ok (.return_, 1) := by decide +kernel
theorem dX1_lowerType_0 : decode cX1_lowerType 0 = .ok (.iload_n 0, 1) := by decide +kernel
theorem dX1_lowerType_1 : decode cX1_lowerType 1 = .ok (.tableswitch 52 1 7 #[43, 45, 47, 52, 52, 52, 49], 43) := by decide +kernel
theorem dX1_lowerType_44 : decode cX1_lowerType 44 = .ok (.iconst 1, 1) := by decide +kernel
theorem dX1_lowerType_45 : decode cX1_lowerType 45 = .ok (.ireturn, 1) := by decide +kernel
theorem dX1_lowerType_46 : decode cX1_lowerType 46 = .ok (.iconst 2, 1) := by decide +kernel
theorem dX1_lowerType_47 : decode cX1_lowerType 47 = .ok (.ireturn, 1) := by decide +kernel
theorem dX1_lowerType_48 : decode cX1_lowerType 48 = .ok (.iconst 4, 1) := by decide +kernel
theorem dX1_lowerType_49 : decode cX1_lowerType 49 = .ok (.ireturn, 1) := by decide +kernel
theorem dX1_lowerType_50 : decode cX1_lowerType 50 = .ok (.bipush 6, 2) := by decide +kernel
theorem dX1_lowerType_52 : decode cX1_lowerType 52 = .ok (.ireturn, 1) := by decide +kernel
theorem dX1_lowerType_53 : decode cX1_lowerType 53 = .ok (.iconst 0, 1) := by decide +kernel
theorem dX1_lowerType_54 : decode cX1_lowerType 54 = .ok (.ireturn, 1) := by decide +kernel
theorem dX1_makeRoom_0 : decode cX1_makeRoom 0 = .ok (.aload_n 0, 1) := by decide +kernel
theorem dX1_makeRoom_1 : decode cX1_makeRoom 1 = .ok (.getfield 22, 3) := by decide +kernel
theorem dX1_makeRoom_4 : decode cX1_makeRoom 4 = .ok (.arraylength, 1) := by decide +kernel
theorem dX1_makeRoom_5 : decode cX1_makeRoom 5 = .ok (.iload_n 1, 1) := by decide +kernel
theorem dX1_makeRoom_6 : decode cX1_makeRoom 6 = .ok (.if_icmp .ge 31, 3) := by decide +kernel
theorem dX1_makeRoom_9 : decode cX1_makeRoom 9 = .ok (.aload_n 0, 1) := by decide +kernel
theorem dX1_makeRoom_10 : decode cX1_makeRoom 10 = .ok (.bipush 96, 2) := by decide +kernel
theorem dX1_makeRoom_12 : decode cX1_makeRoom 12 = .ok (.iload_n 1, 1) := by decide +kernel
theorem dX1_makeRoom_13 : decode cX1_makeRoom 13 = .ok (.imul, 1) := by decide +kernel
theorem dX1_makeRoom_14 : decode cX1_makeRoom 14 = .ok (.newarray .byte, 2) := by decide +kernel
theorem dX1_makeRoom_16 : decode cX1_makeRoom 16 = .ok (.putfield 18, 3) := by decide +kernel
theorem dX1_makeRoom_19 : decode cX1_makeRoom 19 = .ok (.aload_n 0, 1) := by decide +kernel
theorem dX1_makeRoom_20 : decode cX1_makeRoom 20 = .ok (.iconst 2, 1) := by decide +kernel
theorem dX1_makeRoom_21 : decode cX1_makeRoom 21 = .ok (.iload_n 1, 1) := by decide +kernel
theorem dX1_makeRoom_22 : decode cX1_makeRoom 22 = .ok (.imul, 1) := by decide +kernel
theorem dX1_makeRoom_23 : decode cX1_makeRoom 23 = .ok (.newarray .boolean, 2) := by decide +kernel
theorem dX1_makeRoom_25 : decode cX1_makeRoom 25 = .ok (.putfield 22, 3) := by decide +kernel
theorem dX1_makeRoom_28 : decode cX1_makeRoom 28 = .ok (.aload_n 0, 1) := by decide +kernel
theorem dX1_makeRoom_29 : decode cX1_makeRoom 29 = .ok (.iconst 2, 1) := by decide +kernel
theorem dX1_makeRoom_30 : decode cX1_makeRoom 30 = .ok (.iload_n 1, 1) := by decide +kernel
theorem dX1_makeRoom_31 : decode cX1_makeRoom 31 = .ok (.imul, 1) := by decide +kernel
theorem dX1_makeRoom_32 : decode cX1_makeRoom 32 = .ok (.newarray .boolean, 2) := by decide +kernel
theorem dX1_makeRoom_34 : decode cX1_makeRoom 34 = .ok (.putfield 26, 3) := by decide +kernel
theorem dX1_makeRoom_37 : decode cX1_makeRoom 37 = .ok (.iconst 0, 1) := by decide +kernel
theorem dX1_makeRoom_38 : decode cX1_makeRoom 38 = .ok (.istore_n 2, 1) := by decide +kernel
theorem dX1_makeRoom_39 : decode cX1_makeRoom 39 = .ok (.iload_n 2, 1) := by decide +kernel
theorem dX1_makeRoom_40 : decode cX1_makeRoom 40 = .ok (.aload_n 0, 1) := by decide +kernel
theorem dX1_makeRoom_41 : decode cX1_makeRoom 41 = .ok (.getfield 22, 3) := by decide +kernel
theorem dX1_makeRoom_44 : decode cX1_makeRoom 44 = .ok (.arraylength, 1) := by decide +kernel
theorem dX1_makeRoom_45 : decode cX1_makeRoom 45 = .ok (.if_icmp .ge 23, 3) := by decide +kernel
theorem dX1_makeRoom_48 : decode cX1_makeRoom 48 = .ok (.aload_n 0, 1) := by decide +kernel
theorem dX1_makeRoom_49 : decode cX1_makeRoom 49 = .ok (.getfield 22, 3) := by decide +kernel
theorem dX1_makeRoom_52 : decode cX1_makeRoom 52 = .ok (.iload_n 2, 1) := by decide +kernel
theorem dX1_makeRoom_53 : decode cX1_makeRoom 53 = .ok (.iconst 0, 1) := by decide +kernel
theorem dX1_makeRoom_54 : decode cX1_makeRoom 54 = .ok (.bastore, 1) := by decide +kernel
theorem dX1_makeRoom_55 : decode cX1_makeRoom 55 = .ok (.aload_n 0, 1) := by decide +kernel
theorem dX1_makeRoom_56 : decode cX1_makeRoom 56 = .ok (.getfield 26, 3) := by decide +kernel
theorem dX1_makeRoom_59 : decode cX1_makeRoom 59 = .ok (.iload_n 2, 1) := by decide +kernel
theorem dX1_makeRoom_60 : decode cX1_makeRoom 60 = .ok (.iconst 0, 1) := by decide +kernel
theorem dX1_makeRoom_61 : decode cX1_makeRoom 61 = .ok (.bastore, 1) := by decide +kernel
theorem dX1_makeRoom_62 : decode cX1_makeRoom 62 = .ok (.iinc 2 1, 3) := by decide +kernel
theorem dX1_makeRoom_65 : decode cX1_makeRoom 65 = .ok (.goto (-26), 3) := by decide +kernel
theorem dX1_makeRoom_68 : decode cX1_makeRoom 68 = .ok (.return_, 1) := by decide +kernel
theorem dX1_placeAt_0 : decode cX1_placeAt 0 = .ok (.iload_n 1, 1) := by decide +kernel
theorem dX1_placeAt_1 : decode cX1_placeAt 1 = .ok (.ifCond .lt 9, 3) := by decide +kernel
theorem dX1_placeAt_4 : decode cX1_placeAt 4 = .ok (.iload_n 1, 1) := by decide +kernel
theorem dX1_placeAt_5 : decode cX1_placeAt 5 = .ok (.bipush 48, 2) := by decide +kernel
theorem dX1_placeAt_7 : decode cX1_placeAt 7 = .ok (.if_icmp .lt 7, 3) := by decide +kernel
theorem dX1_placeAt_10 : decode cX1_placeAt 10 = .ok (.iconst 0, 1) := by decide +kernel
theorem dX1_placeAt_11 : decode cX1_placeAt 11 = .ok (.goto 9, 3) := by decide +kernel
theorem dX1_placeAt_14 : decode cX1_placeAt 14 = .ok (.aload_n 0, 1) := by decide +kernel
theorem dX1_placeAt_15 : decode cX1_placeAt 15 = .ok (.getfield 29, 3) := by decide +kernel
theorem dX1_placeAt_18 : decode cX1_placeAt 18 = .ok (.iload_n 1, 1) := by decide +kernel
theorem dX1_placeAt_19 : decode cX1_placeAt 19 = .ok (.baload, 1) := by decide +kernel
theorem dX1_placeAt_20 : decode cX1_placeAt 20 = .ok (.ireturn, 1) := by decide +kernel
theorem dX1_pop_0 : decode cX1_pop 0 = .ok (.aload_n 0, 1) := by decide +kernel
theorem dX1_pop_1 : decode cX1_pop 1 = .ok (.getfield 103, 3) := by decide +kernel
theorem dX1_pop_4 : decode cX1_pop 4 = .ok (.iconst 1, 1) := by decide +kernel
theorem dX1_pop_5 : decode cX1_pop 5 = .ok (.if_icmp .lt 12, 3) := by decide +kernel
theorem dX1_pop_8 : decode cX1_pop 8 = .ok (.aload_n 0, 1) := by decide +kernel
theorem dX1_pop_9 : decode cX1_pop 9 = .ok (.getfield 103, 3) := by decide +kernel
theorem dX1_pop_12 : decode cX1_pop 12 = .ok (.bipush 24, 2) := by decide +kernel
theorem dX1_pop_14 : decode cX1_pop 14 = .ok (.if_icmp .le 5, 3) := by decide +kernel
theorem dX1_pop_17 : decode cX1_pop 17 = .ok (.iconst 0, 1) := by decide +kernel
theorem dX1_pop_18 : decode cX1_pop 18 = .ok (.ireturn, 1) := by decide +kernel
theorem dX1_pop_19 : decode cX1_pop 19 = .ok (.aload_n 0, 1) := by decide +kernel
theorem dX1_pop_20 : decode cX1_pop 20 = .ok (.dup, 1) := by decide +kernel
theorem dX1_pop_21 : decode cX1_pop 21 = .ok (.getfield 103, 3) := by decide +kernel
theorem dX1_pop_24 : decode cX1_pop 24 = .ok (.iconst 1, 1) := by decide +kernel
theorem dX1_pop_25 : decode cX1_pop 25 = .ok (.isub, 1) := by decide +kernel
theorem dX1_pop_26 : decode cX1_pop 26 = .ok (.putfield 103, 3) := by decide +kernel
theorem dX1_pop_29 : decode cX1_pop 29 = .ok (.aload_n 0, 1) := by decide +kernel
theorem dX1_pop_30 : decode cX1_pop 30 = .ok (.getfield 29, 3) := by decide +kernel
theorem dX1_pop_33 : decode cX1_pop 33 = .ok (.bipush 24, 2) := by decide +kernel
theorem dX1_pop_35 : decode cX1_pop 35 = .ok (.aload_n 0, 1) := by decide +kernel
theorem dX1_pop_36 : decode cX1_pop 36 = .ok (.getfield 103, 3) := by decide +kernel
theorem dX1_pop_39 : decode cX1_pop 39 = .ok (.iadd, 1) := by decide +kernel
theorem dX1_pop_40 : decode cX1_pop 40 = .ok (.baload, 1) := by decide +kernel
theorem dX1_pop_41 : decode cX1_pop 41 = .ok (.ireturn, 1) := by decide +kernel
theorem dX1_push_0 : decode cX1_push 0 = .ok (.aload_n 0, 1) := by decide +kernel
theorem dX1_push_1 : decode cX1_push 1 = .ok (.getfield 103, 3) := by decide +kernel
theorem dX1_push_4 : decode cX1_push 4 = .ok (.ifCond .lt 36, 3) := by decide +kernel
theorem dX1_push_7 : decode cX1_push 7 = .ok (.aload_n 0, 1) := by decide +kernel
theorem dX1_push_8 : decode cX1_push 8 = .ok (.getfield 103, 3) := by decide +kernel
theorem dX1_push_11 : decode cX1_push 11 = .ok (.bipush 24, 2) := by decide +kernel
theorem dX1_push_13 : decode cX1_push 13 = .ok (.if_icmp .ge 27, 3) := by decide +kernel
theorem dX1_push_16 : decode cX1_push 16 = .ok (.aload_n 0, 1) := by decide +kernel
theorem dX1_push_17 : decode cX1_push 17 = .ok (.getfield 29, 3) := by decide +kernel
theorem dX1_push_20 : decode cX1_push 20 = .ok (.bipush 24, 2) := by decide +kernel
theorem dX1_push_22 : decode cX1_push 22 = .ok (.aload_n 0, 1) := by decide +kernel
theorem dX1_push_23 : decode cX1_push 23 = .ok (.getfield 103, 3) := by decide +kernel
theorem dX1_push_26 : decode cX1_push 26 = .ok (.iadd, 1) := by decide +kernel
theorem dX1_push_27 : decode cX1_push 27 = .ok (.iload_n 1, 1) := by decide +kernel
theorem dX1_push_28 : decode cX1_push 28 = .ok (.i2b, 1) := by decide +kernel
theorem dX1_push_29 : decode cX1_push 29 = .ok (.bastore, 1) := by decide +kernel
theorem dX1_push_30 : decode cX1_push 30 = .ok (.aload_n 0, 1) := by decide +kernel
theorem dX1_push_31 : decode cX1_push 31 = .ok (.dup, 1) := by decide +kernel
theorem dX1_push_32 : decode cX1_push 32 = .ok (.getfield 103, 3) := by decide +kernel
theorem dX1_push_35 : decode cX1_push 35 = .ok (.iconst 1, 1) := by decide +kernel
theorem dX1_push_36 : decode cX1_push 36 = .ok (.iadd, 1) := by decide +kernel
theorem dX1_push_37 : decode cX1_push 37 = .ok (.putfield 103, 3) := by decide +kernel
theorem dX1_push_40 : decode cX1_push 40 = .ok (.return_, 1) := by decide +kernel
theorem dX1_setPlace_0 : decode cX1_setPlace 0 = .ok (.iload_n 1, 1) := by decide +kernel
theorem dX1_setPlace_1 : decode cX1_setPlace 1 = .ok (.ifCond .lt 17, 3) := by decide +kernel
theorem dX1_setPlace_4 : decode cX1_setPlace 4 = .ok (.iload_n 1, 1) := by decide +kernel
theorem dX1_setPlace_5 : decode cX1_setPlace 5 = .ok (.bipush 48, 2) := by decide +kernel
theorem dX1_setPlace_7 : decode cX1_setPlace 7 = .ok (.if_icmp .ge 11, 3) := by decide +kernel
theorem dX1_setPlace_10 : decode cX1_setPlace 10 = .ok (.aload_n 0, 1) := by decide +kernel
theorem dX1_setPlace_11 : decode cX1_setPlace 11 = .ok (.getfield 29, 3) := by decide +kernel
theorem dX1_setPlace_14 : decode cX1_setPlace 14 = .ok (.iload_n 1, 1) := by decide +kernel
theorem dX1_setPlace_15 : decode cX1_setPlace 15 = .ok (.iload_n 2, 1) := by decide +kernel
theorem dX1_setPlace_16 : decode cX1_setPlace 16 = .ok (.i2b, 1) := by decide +kernel
theorem dX1_setPlace_17 : decode cX1_setPlace 17 = .ok (.bastore, 1) := by decide +kernel
theorem dX1_setPlace_18 : decode cX1_setPlace 18 = .ok (.return_, 1) := by decide +kernel
theorem dX1_shuffle_0 : decode cX1_shuffle 0 = .ok (.iload_n 1, 1) := by decide +kernel
theorem dX1_shuffle_1 : decode cX1_shuffle 1 = .ok (.bipush 88, 2) := by decide +kernel
theorem dX1_shuffle_3 : decode cX1_shuffle 3 = .ok (.if_icmp .eq 9, 3) := by decide +kernel
theorem dX1_shuffle_6 : decode cX1_shuffle 6 = .ok (.iload_n 1, 1) := by decide +kernel
theorem dX1_shuffle_7 : decode cX1_shuffle 7 = .ok (.bipush 92, 2) := by decide +kernel
theorem dX1_shuffle_9 : decode cX1_shuffle 9 = .ok (.if_icmp .ne 31, 3) := by decide +kernel
theorem dX1_shuffle_12 : decode cX1_shuffle 12 = .ok (.aload_n 0, 1) := by decide +kernel
theorem dX1_shuffle_13 : decode cX1_shuffle 13 = .ok (.invokevirtual 221, 3) := by decide +kernel
theorem dX1_shuffle_16 : decode cX1_shuffle 16 = .ok (.ifCond .eq 24, 3) := by decide +kernel
theorem dX1_shuffle_19 : decode cX1_shuffle 19 = .ok (.iload_n 1, 1) := by decide +kernel
theorem dX1_shuffle_20 : decode cX1_shuffle 20 = .ok (.bipush 88, 2) := by decide +kernel
theorem dX1_shuffle_22 : decode cX1_shuffle 22 = .ok (.if_icmp .ne 12, 3) := by decide +kernel
theorem dX1_shuffle_25 : decode cX1_shuffle 25 = .ok (.aload_n 0, 1) := by decide +kernel
theorem dX1_shuffle_26 : decode cX1_shuffle 26 = .ok (.iconst 2, 1) := by decide +kernel
theorem dX1_shuffle_27 : decode cX1_shuffle 27 = .ok (.invokevirtual 189, 3) := by decide +kernel
theorem dX1_shuffle_30 : decode cX1_shuffle 30 = .ok (.pop, 1) := by decide +kernel
theorem dX1_shuffle_31 : decode cX1_shuffle 31 = .ok (.goto 8, 3) := by decide +kernel
theorem dX1_shuffle_34 : decode cX1_shuffle 34 = .ok (.aload_n 0, 1) := by decide +kernel
theorem dX1_shuffle_35 : decode cX1_shuffle 35 = .ok (.iconst 2, 1) := by decide +kernel
theorem dX1_shuffle_36 : decode cX1_shuffle 36 = .ok (.invokevirtual 195, 3) := by decide +kernel
theorem dX1_shuffle_39 : decode cX1_shuffle 39 = .ok (.return_, 1) := by decide +kernel
theorem dX1_shuffle_40 : decode cX1_shuffle 40 = .ok (.aload_n 0, 1) := by decide +kernel
theorem dX1_shuffle_41 : decode cX1_shuffle 41 = .ok (.invokevirtual 225, 3) := by decide +kernel
theorem dX1_shuffle_44 : decode cX1_shuffle 44 = .ok (.istore_n 2, 1) := by decide +kernel
theorem dX1_shuffle_45 : decode cX1_shuffle 45 = .ok (.iload_n 1, 1) := by decide +kernel
theorem dX1_shuffle_46 : decode cX1_shuffle 46 = .ok (.bipush 87, 2) := by decide +kernel
theorem dX1_shuffle_48 : decode cX1_shuffle 48 = .ok (.if_icmp .eq 9, 3) := by decide +kernel
theorem dX1_shuffle_51 : decode cX1_shuffle 51 = .ok (.iload_n 1, 1) := by decide +kernel
theorem dX1_shuffle_52 : decode cX1_shuffle 52 = .ok (.bipush 89, 2) := by decide +kernel
theorem dX1_shuffle_54 : decode cX1_shuffle 54 = .ok (.if_icmp .ne 7, 3) := by decide +kernel
theorem dX1_shuffle_57 : decode cX1_shuffle 57 = .ok (.iconst 0, 1) := by decide +kernel
theorem dX1_shuffle_58 : decode cX1_shuffle 58 = .ok (.goto 7, 3) := by decide +kernel
theorem dX1_shuffle_61 : decode cX1_shuffle 61 = .ok (.aload_n 0, 1) := by decide +kernel
theorem dX1_shuffle_62 : decode cX1_shuffle 62 = .ok (.invokevirtual 225, 3) := by decide +kernel
theorem dX1_shuffle_65 : decode cX1_shuffle 65 = .ok (.istore_n 3, 1) := by decide +kernel
theorem dX1_shuffle_66 : decode cX1_shuffle 66 = .ok (.iload_n 1, 1) := by decide +kernel
theorem dX1_shuffle_67 : decode cX1_shuffle 67 = .ok (.tableswitch 108 89 95 #[41, 54, 108, 72, 108, 108, 95], 41) := by decide +kernel
theorem dX1_shuffle_108 : decode cX1_shuffle 108 = .ok (.aload_n 0, 1) := by decide +kernel
theorem dX1_shuffle_109 : decode cX1_shuffle 109 = .ok (.iload_n 2, 1) := by decide +kernel
theorem dX1_shuffle_110 : decode cX1_shuffle 110 = .ok (.invokevirtual 211, 3) := by decide +kernel
theorem dX1_shuffle_113 : decode cX1_shuffle 113 = .ok (.aload_n 0, 1) := by decide +kernel
theorem dX1_shuffle_114 : decode cX1_shuffle 114 = .ok (.iload_n 2, 1) := by decide +kernel
theorem dX1_shuffle_115 : decode cX1_shuffle 115 = .ok (.invokevirtual 211, 3) := by decide +kernel
theorem dX1_shuffle_118 : decode cX1_shuffle 118 = .ok (.goto 57, 3) := by decide +kernel
theorem dX1_shuffle_121 : decode cX1_shuffle 121 = .ok (.aload_n 0, 1) := by decide +kernel
theorem dX1_shuffle_122 : decode cX1_shuffle 122 = .ok (.iload_n 2, 1) := by decide +kernel
theorem dX1_shuffle_123 : decode cX1_shuffle 123 = .ok (.invokevirtual 211, 3) := by decide +kernel
theorem dX1_shuffle_126 : decode cX1_shuffle 126 = .ok (.aload_n 0, 1) := by decide +kernel
theorem dX1_shuffle_127 : decode cX1_shuffle 127 = .ok (.iload_n 3, 1) := by decide +kernel
theorem dX1_shuffle_128 : decode cX1_shuffle 128 = .ok (.invokevirtual 211, 3) := by decide +kernel
theorem dX1_shuffle_131 : decode cX1_shuffle 131 = .ok (.aload_n 0, 1) := by decide +kernel
theorem dX1_shuffle_132 : decode cX1_shuffle 132 = .ok (.iload_n 2, 1) := by decide +kernel
theorem dX1_shuffle_133 : decode cX1_shuffle 133 = .ok (.invokevirtual 211, 3) := by decide +kernel
theorem dX1_shuffle_136 : decode cX1_shuffle 136 = .ok (.goto 39, 3) := by decide +kernel
theorem dX1_shuffle_139 : decode cX1_shuffle 139 = .ok (.aload_n 0, 1) := by decide +kernel
theorem dX1_shuffle_140 : decode cX1_shuffle 140 = .ok (.iload_n 3, 1) := by decide +kernel
theorem dX1_shuffle_141 : decode cX1_shuffle 141 = .ok (.invokevirtual 211, 3) := by decide +kernel
theorem dX1_shuffle_144 : decode cX1_shuffle 144 = .ok (.aload_n 0, 1) := by decide +kernel
theorem dX1_shuffle_145 : decode cX1_shuffle 145 = .ok (.iload_n 2, 1) := by decide +kernel
theorem dX1_shuffle_146 : decode cX1_shuffle 146 = .ok (.invokevirtual 211, 3) := by decide +kernel
theorem dX1_shuffle_149 : decode cX1_shuffle 149 = .ok (.aload_n 0, 1) := by decide +kernel
theorem dX1_shuffle_150 : decode cX1_shuffle 150 = .ok (.iload_n 3, 1) := by decide +kernel
theorem dX1_shuffle_151 : decode cX1_shuffle 151 = .ok (.invokevirtual 211, 3) := by decide +kernel
theorem dX1_shuffle_154 : decode cX1_shuffle 154 = .ok (.aload_n 0, 1) := by decide +kernel
theorem dX1_shuffle_155 : decode cX1_shuffle 155 = .ok (.iload_n 2, 1) := by decide +kernel
theorem dX1_shuffle_156 : decode cX1_shuffle 156 = .ok (.invokevirtual 211, 3) := by decide +kernel
theorem dX1_shuffle_159 : decode cX1_shuffle 159 = .ok (.goto 16, 3) := by decide +kernel
theorem dX1_shuffle_162 : decode cX1_shuffle 162 = .ok (.aload_n 0, 1) := by decide +kernel
theorem dX1_shuffle_163 : decode cX1_shuffle 163 = .ok (.iload_n 2, 1) := by decide +kernel
theorem dX1_shuffle_164 : decode cX1_shuffle 164 = .ok (.invokevirtual 211, 3) := by decide +kernel
theorem dX1_shuffle_167 : decode cX1_shuffle 167 = .ok (.aload_n 0, 1) := by decide +kernel
theorem dX1_shuffle_168 : decode cX1_shuffle 168 = .ok (.iload_n 3, 1) := by decide +kernel
theorem dX1_shuffle_169 : decode cX1_shuffle 169 = .ok (.invokevirtual 211, 3) := by decide +kernel
theorem dX1_shuffle_172 : decode cX1_shuffle 172 = .ok (.goto 3, 3) := by decide +kernel
theorem dX1_shuffle_175 : decode cX1_shuffle 175 = .ok (.return_, 1) := by decide +kernel
theorem dX1_store_0 : decode cX1_store 0 = .ok (.iload_n 1, 1) := by decide +kernel
theorem dX1_store_1 : decode cX1_store 1 = .ok (.invokestatic 216, 3) := by decide +kernel
theorem dX1_store_4 : decode cX1_store 4 = .ok (.istore_n 3, 1) := by decide +kernel
theorem dX1_store_5 : decode cX1_store 5 = .ok (.aload_n 0, 1) := by decide +kernel
theorem dX1_store_6 : decode cX1_store 6 = .ok (.iload_n 3, 1) := by decide +kernel
theorem dX1_store_7 : decode cX1_store 7 = .ok (.invokevirtual 189, 3) := by decide +kernel
theorem dX1_store_10 : decode cX1_store 10 = .ok (.istore 4, 2) := by decide +kernel
theorem dX1_store_12 : decode cX1_store 12 = .ok (.iload_n 2, 1) := by decide +kernel
theorem dX1_store_13 : decode cX1_store 13 = .ok (.iload_n 1, 1) := by decide +kernel
theorem dX1_store_14 : decode cX1_store 14 = .ok (.invokestatic 218, 3) := by decide +kernel
theorem dX1_store_17 : decode cX1_store 17 = .ok (.iadd, 1) := by decide +kernel
theorem dX1_store_18 : decode cX1_store 18 = .ok (.istore 5, 2) := by decide +kernel
theorem dX1_store_20 : decode cX1_store 20 = .ok (.iload_n 2, 1) := by decide +kernel
theorem dX1_store_21 : decode cX1_store 21 = .ok (.ifCond .le 22, 3) := by decide +kernel
theorem dX1_store_24 : decode cX1_store 24 = .ok (.aload_n 0, 1) := by decide +kernel
theorem dX1_store_25 : decode cX1_store 25 = .ok (.iload_n 2, 1) := by decide +kernel
theorem dX1_store_26 : decode cX1_store 26 = .ok (.iconst 1, 1) := by decide +kernel
theorem dX1_store_27 : decode cX1_store 27 = .ok (.isub, 1) := by decide +kernel
theorem dX1_store_28 : decode cX1_store 28 = .ok (.invokevirtual 182, 3) := by decide +kernel
theorem dX1_store_31 : decode cX1_store 31 = .ok (.iconst 2, 1) := by decide +kernel
theorem dX1_store_32 : decode cX1_store 32 = .ok (.if_icmp .ne 11, 3) := by decide +kernel
theorem dX1_store_35 : decode cX1_store 35 = .ok (.aload_n 0, 1) := by decide +kernel
theorem dX1_store_36 : decode cX1_store 36 = .ok (.iload_n 2, 1) := by decide +kernel
theorem dX1_store_37 : decode cX1_store 37 = .ok (.iconst 1, 1) := by decide +kernel
theorem dX1_store_38 : decode cX1_store 38 = .ok (.isub, 1) := by decide +kernel
theorem dX1_store_39 : decode cX1_store 39 = .ok (.iconst 0, 1) := by decide +kernel
theorem dX1_store_40 : decode cX1_store 40 = .ok (.invokevirtual 99, 3) := by decide +kernel
theorem dX1_store_43 : decode cX1_store 43 = .ok (.iload 5, 2) := by decide +kernel
theorem dX1_store_45 : decode cX1_store 45 = .ok (.bipush 24, 2) := by decide +kernel
theorem dX1_store_47 : decode cX1_store 47 = .ok (.if_icmp .ge 20, 3) := by decide +kernel
theorem dX1_store_50 : decode cX1_store 50 = .ok (.aload_n 0, 1) := by decide +kernel
theorem dX1_store_51 : decode cX1_store 51 = .ok (.iload 5, 2) := by decide +kernel
theorem dX1_store_53 : decode cX1_store 53 = .ok (.invokevirtual 182, 3) := by decide +kernel
theorem dX1_store_56 : decode cX1_store 56 = .ok (.iconst 3, 1) := by decide +kernel
theorem dX1_store_57 : decode cX1_store 57 = .ok (.if_icmp .ne 10, 3) := by decide +kernel
theorem dX1_store_60 : decode cX1_store 60 = .ok (.aload_n 0, 1) := by decide +kernel
theorem dX1_store_61 : decode cX1_store 61 = .ok (.iload 5, 2) := by decide +kernel
theorem dX1_store_63 : decode cX1_store 63 = .ok (.iconst 0, 1) := by decide +kernel
theorem dX1_store_64 : decode cX1_store 64 = .ok (.invokevirtual 99, 3) := by decide +kernel
theorem dX1_store_67 : decode cX1_store 67 = .ok (.iload_n 1, 1) := by decide +kernel
theorem dX1_store_68 : decode cX1_store 68 = .ok (.bipush 58, 2) := by decide +kernel
theorem dX1_store_70 : decode cX1_store 70 = .ok (.if_icmp .ne 23, 3) := by decide +kernel
theorem dX1_store_73 : decode cX1_store 73 = .ok (.aload_n 0, 1) := by decide +kernel
theorem dX1_store_74 : decode cX1_store 74 = .ok (.iload_n 2, 1) := by decide +kernel
theorem dX1_store_75 : decode cX1_store 75 = .ok (.iload 4, 2) := by decide +kernel
theorem dX1_store_77 : decode cX1_store 77 = .ok (.invokestatic 205, 3) := by decide +kernel
theorem dX1_store_80 : decode cX1_store 80 = .ok (.ifCond .eq 8, 3) := by decide +kernel
theorem dX1_store_83 : decode cX1_store 83 = .ok (.iload 4, 2) := by decide +kernel
theorem dX1_store_85 : decode cX1_store 85 = .ok (.goto 4, 3) := by decide +kernel
theorem dX1_store_88 : decode cX1_store 88 = .ok (.iconst 0, 1) := by decide +kernel
theorem dX1_store_89 : decode cX1_store 89 = .ok (.invokevirtual 99, 3) := by decide +kernel
theorem dX1_store_92 : decode cX1_store 92 = .ok (.return_, 1) := by decide +kernel
theorem dX1_store_93 : decode cX1_store 93 = .ok (.aload_n 0, 1) := by decide +kernel
theorem dX1_store_94 : decode cX1_store 94 = .ok (.iload_n 2, 1) := by decide +kernel
theorem dX1_store_95 : decode cX1_store 95 = .ok (.iload_n 3, 1) := by decide +kernel
theorem dX1_store_96 : decode cX1_store 96 = .ok (.invokestatic 96, 3) := by decide +kernel
theorem dX1_store_99 : decode cX1_store 99 = .ok (.invokevirtual 99, 3) := by decide +kernel
theorem dX1_store_102 : decode cX1_store 102 = .ok (.iload_n 1, 1) := by decide +kernel
theorem dX1_store_103 : decode cX1_store 103 = .ok (.bipush 55, 2) := by decide +kernel
theorem dX1_store_105 : decode cX1_store 105 = .ok (.if_icmp .ne 11, 3) := by decide +kernel
theorem dX1_store_108 : decode cX1_store 108 = .ok (.aload_n 0, 1) := by decide +kernel
theorem dX1_store_109 : decode cX1_store 109 = .ok (.iload_n 2, 1) := by decide +kernel
theorem dX1_store_110 : decode cX1_store 110 = .ok (.iconst 1, 1) := by decide +kernel
theorem dX1_store_111 : decode cX1_store 111 = .ok (.iadd, 1) := by decide +kernel
theorem dX1_store_112 : decode cX1_store 112 = .ok (.iconst 3, 1) := by decide +kernel
theorem dX1_store_113 : decode cX1_store 113 = .ok (.invokevirtual 99, 3) := by decide +kernel
theorem dX1_store_116 : decode cX1_store 116 = .ok (.return_, 1) := by decide +kernel
theorem dX1_take_0 : decode cX1_take 0 = .ok (.aload_n 0, 1) := by decide +kernel
theorem dX1_take_1 : decode cX1_take 1 = .ok (.invokevirtual 201, 3) := by decide +kernel
theorem dX1_take_4 : decode cX1_take 4 = .ok (.istore_n 2, 1) := by decide +kernel
theorem dX1_take_5 : decode cX1_take 5 = .ok (.iload_n 1, 1) := by decide +kernel
theorem dX1_take_6 : decode cX1_take 6 = .ok (.tableswitch 172 1 5 #[34, 56, 92, 148, 120], 34) := by decide +kernel
theorem dX1_take_40 : decode cX1_take 40 = .ok (.aload_n 0, 1) := by decide +kernel
theorem dX1_take_41 : decode cX1_take 41 = .ok (.dup, 1) := by decide +kernel
theorem dX1_take_42 : decode cX1_take 42 = .ok (.getfield 161, 3) := by decide +kernel
theorem dX1_take_45 : decode cX1_take 45 = .ok (.iload_n 2, 1) := by decide +kernel
theorem dX1_take_46 : decode cX1_take 46 = .ok (.iconst 1, 1) := by decide +kernel
theorem dX1_take_47 : decode cX1_take 47 = .ok (.if_icmp .eq 7, 3) := by decide +kernel
theorem dX1_take_50 : decode cX1_take 50 = .ok (.iconst 1, 1) := by decide +kernel
theorem dX1_take_51 : decode cX1_take 51 = .ok (.goto 4, 3) := by decide +kernel
theorem dX1_take_54 : decode cX1_take 54 = .ok (.iconst 0, 1) := by decide +kernel
theorem dX1_take_55 : decode cX1_take 55 = .ok (.ior, 1) := by decide +kernel
theorem dX1_take_56 : decode cX1_take 56 = .ok (.putfield 161, 3) := by decide +kernel
theorem dX1_take_59 : decode cX1_take 59 = .ok (.goto 140, 3) := by decide +kernel
theorem dX1_take_62 : decode cX1_take 62 = .ok (.aload_n 0, 1) := by decide +kernel
theorem dX1_take_63 : decode cX1_take 63 = .ok (.dup, 1) := by decide +kernel
theorem dX1_take_64 : decode cX1_take 64 = .ok (.getfield 161, 3) := by decide +kernel
theorem dX1_take_67 : decode cX1_take 67 = .ok (.iload_n 2, 1) := by decide +kernel
theorem dX1_take_68 : decode cX1_take 68 = .ok (.iconst 3, 1) := by decide +kernel
theorem dX1_take_69 : decode cX1_take 69 = .ok (.if_icmp .eq 7, 3) := by decide +kernel
theorem dX1_take_72 : decode cX1_take 72 = .ok (.iconst 1, 1) := by decide +kernel
theorem dX1_take_73 : decode cX1_take 73 = .ok (.goto 4, 3) := by decide +kernel
theorem dX1_take_76 : decode cX1_take 76 = .ok (.iconst 0, 1) := by decide +kernel
theorem dX1_take_77 : decode cX1_take 77 = .ok (.aload_n 0, 1) := by decide +kernel
theorem dX1_take_78 : decode cX1_take 78 = .ok (.invokevirtual 201, 3) := by decide +kernel
theorem dX1_take_81 : decode cX1_take 81 = .ok (.iconst 2, 1) := by decide +kernel
theorem dX1_take_82 : decode cX1_take 82 = .ok (.if_icmp .eq 7, 3) := by decide +kernel
theorem dX1_take_85 : decode cX1_take 85 = .ok (.iconst 1, 1) := by decide +kernel
theorem dX1_take_86 : decode cX1_take 86 = .ok (.goto 4, 3) := by decide +kernel
theorem dX1_take_89 : decode cX1_take 89 = .ok (.iconst 0, 1) := by decide +kernel
theorem dX1_take_90 : decode cX1_take 90 = .ok (.ior, 1) := by decide +kernel
theorem dX1_take_91 : decode cX1_take 91 = .ok (.ior, 1) := by decide +kernel
theorem dX1_take_92 : decode cX1_take 92 = .ok (.putfield 161, 3) := by decide +kernel
theorem dX1_take_95 : decode cX1_take 95 = .ok (.goto 104, 3) := by decide +kernel
theorem dX1_take_98 : decode cX1_take 98 = .ok (.aload_n 0, 1) := by decide +kernel
theorem dX1_take_99 : decode cX1_take 99 = .ok (.dup, 1) := by decide +kernel
theorem dX1_take_100 : decode cX1_take 100 = .ok (.getfield 161, 3) := by decide +kernel
theorem dX1_take_103 : decode cX1_take 103 = .ok (.iload_n 2, 1) := by decide +kernel
theorem dX1_take_104 : decode cX1_take 104 = .ok (.iconst 4, 1) := by decide +kernel
theorem dX1_take_105 : decode cX1_take 105 = .ok (.if_icmp .eq 13, 3) := by decide +kernel
theorem dX1_take_108 : decode cX1_take 108 = .ok (.iload_n 2, 1) := by decide +kernel
theorem dX1_take_109 : decode cX1_take 109 = .ok (.bipush 6, 2) := by decide +kernel
theorem dX1_take_111 : decode cX1_take 111 = .ok (.if_icmp .eq 7, 3) := by decide +kernel
theorem dX1_take_114 : decode cX1_take 114 = .ok (.iconst 1, 1) := by decide +kernel
theorem dX1_take_115 : decode cX1_take 115 = .ok (.goto 4, 3) := by decide +kernel
theorem dX1_take_118 : decode cX1_take 118 = .ok (.iconst 0, 1) := by decide +kernel
theorem dX1_take_119 : decode cX1_take 119 = .ok (.ior, 1) := by decide +kernel
theorem dX1_take_120 : decode cX1_take 120 = .ok (.putfield 161, 3) := by decide +kernel
theorem dX1_take_123 : decode cX1_take 123 = .ok (.goto 76, 3) := by decide +kernel
theorem dX1_take_126 : decode cX1_take 126 = .ok (.aload_n 0, 1) := by decide +kernel
theorem dX1_take_127 : decode cX1_take 127 = .ok (.dup, 1) := by decide +kernel
theorem dX1_take_128 : decode cX1_take 128 = .ok (.getfield 161, 3) := by decide +kernel
theorem dX1_take_131 : decode cX1_take 131 = .ok (.iload_n 2, 1) := by decide +kernel
theorem dX1_take_132 : decode cX1_take 132 = .ok (.iconst 5, 1) := by decide +kernel
theorem dX1_take_133 : decode cX1_take 133 = .ok (.if_icmp .eq 13, 3) := by decide +kernel
theorem dX1_take_136 : decode cX1_take 136 = .ok (.iload_n 2, 1) := by decide +kernel
theorem dX1_take_137 : decode cX1_take 137 = .ok (.bipush 6, 2) := by decide +kernel
theorem dX1_take_139 : decode cX1_take 139 = .ok (.if_icmp .eq 7, 3) := by decide +kernel
theorem dX1_take_142 : decode cX1_take 142 = .ok (.iconst 1, 1) := by decide +kernel
theorem dX1_take_143 : decode cX1_take 143 = .ok (.goto 4, 3) := by decide +kernel
theorem dX1_take_146 : decode cX1_take 146 = .ok (.iconst 0, 1) := by decide +kernel
theorem dX1_take_147 : decode cX1_take 147 = .ok (.ior, 1) := by decide +kernel
theorem dX1_take_148 : decode cX1_take 148 = .ok (.putfield 161, 3) := by decide +kernel
theorem dX1_take_151 : decode cX1_take 151 = .ok (.goto 48, 3) := by decide +kernel
theorem dX1_take_154 : decode cX1_take 154 = .ok (.aload_n 0, 1) := by decide +kernel
theorem dX1_take_155 : decode cX1_take 155 = .ok (.dup, 1) := by decide +kernel
theorem dX1_take_156 : decode cX1_take 156 = .ok (.getfield 161, 3) := by decide +kernel
theorem dX1_take_159 : decode cX1_take 159 = .ok (.iload_n 2, 1) := by decide +kernel
theorem dX1_take_160 : decode cX1_take 160 = .ok (.invokestatic 205, 3) := by decide +kernel
theorem dX1_take_163 : decode cX1_take 163 = .ok (.ifCond .ne 7, 3) := by decide +kernel
theorem dX1_take_166 : decode cX1_take 166 = .ok (.iconst 1, 1) := by decide +kernel
theorem dX1_take_167 : decode cX1_take 167 = .ok (.goto 4, 3) := by decide +kernel
theorem dX1_take_170 : decode cX1_take 170 = .ok (.iconst 0, 1) := by decide +kernel
theorem dX1_take_171 : decode cX1_take 171 = .ok (.ior, 1) := by decide +kernel
theorem dX1_take_172 : decode cX1_take 172 = .ok (.putfield 161, 3) := by decide +kernel
theorem dX1_take_175 : decode cX1_take 175 = .ok (.goto 24, 3) := by decide +kernel
theorem dX1_take_178 : decode cX1_take 178 = .ok (.aload_n 0, 1) := by decide +kernel
theorem dX1_take_179 : decode cX1_take 179 = .ok (.dup, 1) := by decide +kernel
theorem dX1_take_180 : decode cX1_take 180 = .ok (.getfield 161, 3) := by decide +kernel
theorem dX1_take_183 : decode cX1_take 183 = .ok (.iload_n 2, 1) := by decide +kernel
theorem dX1_take_184 : decode cX1_take 184 = .ok (.invokestatic 208, 3) := by decide +kernel
theorem dX1_take_187 : decode cX1_take 187 = .ok (.ifCond .ne 7, 3) := by decide +kernel
theorem dX1_take_190 : decode cX1_take 190 = .ok (.iconst 1, 1) := by decide +kernel
theorem dX1_take_191 : decode cX1_take 191 = .ok (.goto 4, 3) := by decide +kernel
theorem dX1_take_194 : decode cX1_take 194 = .ok (.iconst 0, 1) := by decide +kernel
theorem dX1_take_195 : decode cX1_take 195 = .ok (.ior, 1) := by decide +kernel
theorem dX1_take_196 : decode cX1_take 196 = .ok (.putfield 161, 3) := by decide +kernel
theorem dX1_take_199 : decode cX1_take 199 = .ok (.iload_n 2, 1) := by decide +kernel
theorem dX1_take_200 : decode cX1_take 200 = .ok (.ireturn, 1) := by decide +kernel
theorem dX1_takeCopy_0 : decode cX1_takeCopy 0 = .ok (.aload_n 0, 1) := by decide +kernel
theorem dX1_takeCopy_1 : decode cX1_takeCopy 1 = .ok (.bipush 6, 2) := by decide +kernel
theorem dX1_takeCopy_3 : decode cX1_takeCopy 3 = .ok (.invokevirtual 189, 3) := by decide +kernel
theorem dX1_takeCopy_6 : decode cX1_takeCopy 6 = .ok (.istore_n 1, 1) := by decide +kernel
theorem dX1_takeCopy_7 : decode cX1_takeCopy 7 = .ok (.iload_n 1, 1) := by decide +kernel
theorem dX1_takeCopy_8 : decode cX1_takeCopy 8 = .ok (.invokestatic 208, 3) := by decide +kernel
theorem dX1_takeCopy_11 : decode cX1_takeCopy 11 = .ok (.ifCond .eq 7, 3) := by decide +kernel
theorem dX1_takeCopy_14 : decode cX1_takeCopy 14 = .ok (.iload_n 1, 1) := by decide +kernel
theorem dX1_takeCopy_15 : decode cX1_takeCopy 15 = .ok (.goto 4, 3) := by decide +kernel
theorem dX1_takeCopy_18 : decode cX1_takeCopy 18 = .ok (.iconst 0, 1) := by decide +kernel
theorem dX1_takeCopy_19 : decode cX1_takeCopy 19 = .ok (.ireturn, 1) := by decide +kernel
theorem dX1_takeUp_0 : decode cX1_takeUp 0 = .ok (.aload_n 0, 1) := by decide +kernel
theorem dX1_takeUp_1 : decode cX1_takeUp 1 = .ok (.iconst 0, 1) := by decide +kernel
theorem dX1_takeUp_2 : decode cX1_takeUp 2 = .ok (.aload_n 0, 1) := by decide +kernel
theorem dX1_takeUp_3 : decode cX1_takeUp 3 = .ok (.getfield 12, 3) := by decide +kernel
theorem dX1_takeUp_6 : decode cX1_takeUp 6 = .ok (.iload_n 1, 1) := by decide +kernel
theorem dX1_takeUp_7 : decode cX1_takeUp 7 = .ok (.invokevirtual 112, 3) := by decide +kernel
theorem dX1_takeUp_10 : decode cX1_takeUp 10 = .ok (.bipush 24, 2) := by decide +kernel
theorem dX1_takeUp_12 : decode cX1_takeUp 12 = .ok (.invokestatic 115, 3) := by decide +kernel
theorem dX1_takeUp_15 : decode cX1_takeUp 15 = .ok (.invokestatic 120, 3) := by decide +kernel
theorem dX1_takeUp_18 : decode cX1_takeUp 18 = .ok (.putfield 103, 3) := by decide +kernel
theorem dX1_takeUp_21 : decode cX1_takeUp 21 = .ok (.aload_n 0, 1) := by decide +kernel
theorem dX1_takeUp_22 : decode cX1_takeUp 22 = .ok (.getfield 18, 3) := by decide +kernel
theorem dX1_takeUp_25 : decode cX1_takeUp 25 = .ok (.iload_n 1, 1) := by decide +kernel
theorem dX1_takeUp_26 : decode cX1_takeUp 26 = .ok (.bipush 48, 2) := by decide +kernel
theorem dX1_takeUp_28 : decode cX1_takeUp 28 = .ok (.imul, 1) := by decide +kernel
theorem dX1_takeUp_29 : decode cX1_takeUp 29 = .ok (.aload_n 0, 1) := by decide +kernel
theorem dX1_takeUp_30 : decode cX1_takeUp 30 = .ok (.getfield 29, 3) := by decide +kernel
theorem dX1_takeUp_33 : decode cX1_takeUp 33 = .ok (.iconst 0, 1) := by decide +kernel
theorem dX1_takeUp_34 : decode cX1_takeUp 34 = .ok (.bipush 48, 2) := by decide +kernel
theorem dX1_takeUp_36 : decode cX1_takeUp 36 = .ok (.invokestatic 123, 3) := by decide +kernel
theorem dX1_takeUp_39 : decode cX1_takeUp 39 = .ok (.return_, 1) := by decide +kernel
theorem dX2_addSwitch_0 : decode cX2_addSwitch 0 = .ok (.aload_n 0, 1) := by decide +kernel
theorem dX2_addSwitch_1 : decode cX2_addSwitch 1 = .ok (.getfield 172, 3) := by decide +kernel
theorem dX2_addSwitch_4 : decode cX2_addSwitch 4 = .ok (.l2i, 1) := by decide +kernel
theorem dX2_addSwitch_5 : decode cX2_addSwitch 5 = .ok (.istore_n 2, 1) := by decide +kernel
theorem dX2_addSwitch_6 : decode cX2_addSwitch 6 = .ok (.aload_n 0, 1) := by decide +kernel
theorem dX2_addSwitch_7 : decode cX2_addSwitch 7 = .ok (.iload_n 2, 1) := by decide +kernel
theorem dX2_addSwitch_8 : decode cX2_addSwitch 8 = .ok (.invokevirtual 237, 3) := by decide +kernel
theorem dX2_addSwitch_11 : decode cX2_addSwitch 11 = .ok (.istore_n 3, 1) := by decide +kernel
theorem dX2_addSwitch_12 : decode cX2_addSwitch 12 = .ok (.aload_n 1, 1) := by decide +kernel
theorem dX2_addSwitch_13 : decode cX2_addSwitch 13 = .ok (.aload_n 0, 1) := by decide +kernel
theorem dX2_addSwitch_14 : decode cX2_addSwitch 14 = .ok (.getfield 169, 3) := by decide +kernel
theorem dX2_addSwitch_17 : decode cX2_addSwitch 17 = .ok (.aload_n 1, 1) := by decide +kernel
theorem dX2_addSwitch_18 : decode cX2_addSwitch 18 = .ok (.getfield 355, 3) := by decide +kernel
theorem dX2_addSwitch_21 : decode cX2_addSwitch 21 = .ok (.i2l, 1) := by decide +kernel
theorem dX2_addSwitch_22 : decode cX2_addSwitch 22 = .ok (.invokevirtual 346, 3) := by decide +kernel
theorem dX2_addSwitch_25 : decode cX2_addSwitch 25 = .ok (.aload_n 1, 1) := by decide +kernel
theorem dX2_addSwitch_26 : decode cX2_addSwitch 26 = .ok (.iload_n 3, 1) := by decide +kernel
theorem dX2_addSwitch_27 : decode cX2_addSwitch 27 = .ok (.iconst 1, 1) := by decide +kernel
theorem dX2_addSwitch_28 : decode cX2_addSwitch 28 = .ok (.iadd, 1) := by decide +kernel
theorem dX2_addSwitch_29 : decode cX2_addSwitch 29 = .ok (.invokevirtual 358, 3) := by decide +kernel
theorem dX2_addSwitch_32 : decode cX2_addSwitch 32 = .ok (.aload_n 1, 1) := by decide +kernel
theorem dX2_addSwitch_33 : decode cX2_addSwitch 33 = .ok (.aload_n 0, 1) := by decide +kernel
theorem dX2_addSwitch_34 : decode cX2_addSwitch 34 = .ok (.getfield 169, 3) := by decide +kernel
theorem dX2_addSwitch_37 : decode cX2_addSwitch 37 = .ok (.sipush 170, 3) := by decide +kernel
theorem dX2_addSwitch_40 : decode cX2_addSwitch 40 = .ok (.if_icmp .ne 13, 3) := by decide +kernel
theorem dX2_addSwitch_43 : decode cX2_addSwitch 43 = .ok (.aload_n 0, 1) := by decide +kernel
theorem dX2_addSwitch_44 : decode cX2_addSwitch 44 = .ok (.iload_n 2, 1) := by decide +kernel
theorem dX2_addSwitch_45 : decode cX2_addSwitch 45 = .ok (.iconst 4, 1) := by decide +kernel
theorem dX2_addSwitch_46 : decode cX2_addSwitch 46 = .ok (.iadd, 1) := by decide +kernel
theorem dX2_addSwitch_47 : decode cX2_addSwitch 47 = .ok (.invokevirtual 163, 3) := by decide +kernel
theorem dX2_addSwitch_50 : decode cX2_addSwitch 50 = .ok (.goto 4, 3) := by decide +kernel
theorem dX2_addSwitch_53 : decode cX2_addSwitch 53 = .ok (.iconst 0, 1) := by decide +kernel
theorem dX2_addSwitch_54 : decode cX2_addSwitch 54 = .ok (.invokevirtual 358, 3) := by decide +kernel
theorem dX2_addSwitch_57 : decode cX2_addSwitch 57 = .ok (.iconst (-1), 1) := by decide +kernel
theorem dX2_addSwitch_58 : decode cX2_addSwitch 58 = .ok (.istore 4, 2) := by decide +kernel
theorem dX2_addSwitch_60 : decode cX2_addSwitch 60 = .ok (.iload 4, 2) := by decide +kernel
theorem dX2_addSwitch_62 : decode cX2_addSwitch 62 = .ok (.iload_n 3, 1) := by decide +kernel
theorem dX2_addSwitch_63 : decode cX2_addSwitch 63 = .ok (.if_icmp .ge 24, 3) := by decide +kernel
theorem dX2_addSwitch_66 : decode cX2_addSwitch 66 = .ok (.aload_n 1, 1) := by decide +kernel
theorem dX2_addSwitch_67 : decode cX2_addSwitch 67 = .ok (.aload_n 0, 1) := by decide +kernel
theorem dX2_addSwitch_68 : decode cX2_addSwitch 68 = .ok (.aload_n 0, 1) := by decide +kernel
theorem dX2_addSwitch_69 : decode cX2_addSwitch 69 = .ok (.iload_n 2, 1) := by decide +kernel
theorem dX2_addSwitch_70 : decode cX2_addSwitch 70 = .ok (.iload 4, 2) := by decide +kernel
theorem dX2_addSwitch_72 : decode cX2_addSwitch 72 = .ok (.invokevirtual 240, 3) := by decide +kernel
theorem dX2_addSwitch_75 : decode cX2_addSwitch 75 = .ok (.invokevirtual 217, 3) := by decide +kernel
theorem dX2_addSwitch_78 : decode cX2_addSwitch 78 = .ok (.invokevirtual 358, 3) := by decide +kernel
theorem dX2_addSwitch_81 : decode cX2_addSwitch 81 = .ok (.iinc 4 1, 3) := by decide +kernel
theorem dX2_addSwitch_84 : decode cX2_addSwitch 84 = .ok (.goto (-24), 3) := by decide +kernel
theorem dX2_addSwitch_87 : decode cX2_addSwitch 87 = .ok (.iconst 0, 1) := by decide +kernel
theorem dX2_addSwitch_88 : decode cX2_addSwitch 88 = .ok (.istore 4, 2) := by decide +kernel
theorem dX2_addSwitch_90 : decode cX2_addSwitch 90 = .ok (.aload_n 0, 1) := by decide +kernel
theorem dX2_addSwitch_91 : decode cX2_addSwitch 91 = .ok (.getfield 169, 3) := by decide +kernel
theorem dX2_addSwitch_94 : decode cX2_addSwitch 94 = .ok (.sipush 171, 3) := by decide +kernel
theorem dX2_addSwitch_97 : decode cX2_addSwitch 97 = .ok (.if_icmp .ne 33, 3) := by decide +kernel
theorem dX2_addSwitch_100 : decode cX2_addSwitch 100 = .ok (.iload 4, 2) := by decide +kernel
theorem dX2_addSwitch_102 : decode cX2_addSwitch 102 = .ok (.iload_n 3, 1) := by decide +kernel
theorem dX2_addSwitch_103 : decode cX2_addSwitch 103 = .ok (.if_icmp .ge 27, 3) := by decide +kernel
theorem dX2_addSwitch_106 : decode cX2_addSwitch 106 = .ok (.aload_n 1, 1) := by decide +kernel
theorem dX2_addSwitch_107 : decode cX2_addSwitch 107 = .ok (.aload_n 0, 1) := by decide +kernel
theorem dX2_addSwitch_108 : decode cX2_addSwitch 108 = .ok (.iload_n 2, 1) := by decide +kernel
theorem dX2_addSwitch_109 : decode cX2_addSwitch 109 = .ok (.bipush 8, 2) := by decide +kernel
theorem dX2_addSwitch_111 : decode cX2_addSwitch 111 = .ok (.iadd, 1) := by decide +kernel
theorem dX2_addSwitch_112 : decode cX2_addSwitch 112 = .ok (.bipush 8, 2) := by decide +kernel
theorem dX2_addSwitch_114 : decode cX2_addSwitch 114 = .ok (.iload 4, 2) := by decide +kernel
theorem dX2_addSwitch_116 : decode cX2_addSwitch 116 = .ok (.imul, 1) := by decide +kernel
theorem dX2_addSwitch_117 : decode cX2_addSwitch 117 = .ok (.iadd, 1) := by decide +kernel
theorem dX2_addSwitch_118 : decode cX2_addSwitch 118 = .ok (.invokevirtual 163, 3) := by decide +kernel
theorem dX2_addSwitch_121 : decode cX2_addSwitch 121 = .ok (.invokevirtual 358, 3) := by decide +kernel
theorem dX2_addSwitch_124 : decode cX2_addSwitch 124 = .ok (.iinc 4 1, 3) := by decide +kernel
theorem dX2_addSwitch_127 : decode cX2_addSwitch 127 = .ok (.goto (-37), 3) := by decide +kernel
theorem dX2_addSwitch_130 : decode cX2_addSwitch 130 = .ok (.return_, 1) := by decide +kernel
theorem dX2_addTo_0 : decode cX2_addTo 0 = .ok (.aload_n 0, 1) := by decide +kernel
theorem dX2_addTo_1 : decode cX2_addTo 1 = .ok (.getfield 169, 3) := by decide +kernel
theorem dX2_addTo_4 : decode cX2_addTo 4 = .ok (.invokestatic 181, 3) := by decide +kernel
theorem dX2_addTo_7 : decode cX2_addTo 7 = .ok (.ifCond .eq 21, 3) := by decide +kernel
theorem dX2_addTo_10 : decode cX2_addTo 10 = .ok (.aload_n 1, 1) := by decide +kernel
theorem dX2_addTo_11 : decode cX2_addTo 11 = .ok (.aload_n 0, 1) := by decide +kernel
theorem dX2_addTo_12 : decode cX2_addTo 12 = .ok (.getfield 169, 3) := by decide +kernel
theorem dX2_addTo_15 : decode cX2_addTo 15 = .ok (.aload_n 0, 1) := by decide +kernel
theorem dX2_addTo_16 : decode cX2_addTo 16 = .ok (.aload_n 0, 1) := by decide +kernel
theorem dX2_addTo_17 : decode cX2_addTo 17 = .ok (.getfield 172, 3) := by decide +kernel
theorem dX2_addTo_20 : decode cX2_addTo 20 = .ok (.invokevirtual 217, 3) := by decide +kernel
theorem dX2_addTo_23 : decode cX2_addTo 23 = .ok (.i2l, 1) := by decide +kernel
theorem dX2_addTo_24 : decode cX2_addTo 24 = .ok (.invokevirtual 346, 3) := by decide +kernel
theorem dX2_addTo_27 : decode cX2_addTo 27 = .ok (.return_, 1) := by decide +kernel
theorem dX2_addTo_28 : decode cX2_addTo 28 = .ok (.aload_n 0, 1) := by decide +kernel
theorem dX2_addTo_29 : decode cX2_addTo 29 = .ok (.getfield 169, 3) := by decide +kernel
theorem dX2_addTo_32 : decode cX2_addTo 32 = .ok (.invokestatic 184, 3) := by decide +kernel
theorem dX2_addTo_35 : decode cX2_addTo 35 = .ok (.ifCond .eq 9, 3) := by decide +kernel
theorem dX2_addTo_38 : decode cX2_addTo 38 = .ok (.aload_n 0, 1) := by decide +kernel
theorem dX2_addTo_39 : decode cX2_addTo 39 = .ok (.aload_n 1, 1) := by decide +kernel
theorem dX2_addTo_40 : decode cX2_addTo 40 = .ok (.invokevirtual 349, 3) := by decide +kernel
theorem dX2_addTo_43 : decode cX2_addTo 43 = .ok (.return_, 1) := by decide +kernel
theorem dX2_addTo_44 : decode cX2_addTo 44 = .ok (.aload_n 0, 1) := by decide +kernel
theorem dX2_addTo_45 : decode cX2_addTo 45 = .ok (.getfield 169, 3) := by decide +kernel
theorem dX2_addTo_48 : decode cX2_addTo 48 = .ok (.lookupswitch 177 #[(9, 60), (19, 73), (20, 104), (178, 131), (179, 131), (184, 154)], 60) := by decide +kernel
theorem dX2_addTo_108 : decode cX2_addTo 108 = .ok (.aload_n 1, 1) := by decide +kernel
theorem dX2_addTo_109 : decode cX2_addTo 109 = .ok (.bipush 20, 2) := by decide +kernel
theorem dX2_addTo_111 : decode cX2_addTo 111 = .ok (.aload_n 0, 1) := by decide +kernel
theorem dX2_addTo_112 : decode cX2_addTo 112 = .ok (.getfield 172, 3) := by decide +kernel
theorem dX2_addTo_115 : decode cX2_addTo 115 = .ok (.invokevirtual 346, 3) := by decide +kernel
theorem dX2_addTo_118 : decode cX2_addTo 118 = .ok (.goto 119, 3) := by decide +kernel
theorem dX2_addTo_121 : decode cX2_addTo 121 = .ok (.aload_n 1, 1) := by decide +kernel
theorem dX2_addTo_122 : decode cX2_addTo 122 = .ok (.bipush 17, 2) := by decide +kernel
theorem dX2_addTo_124 : decode cX2_addTo 124 = .ok (.aload_n 0, 1) := by decide +kernel
theorem dX2_addTo_125 : decode cX2_addTo 125 = .ok (.getfield 12, 3) := by decide +kernel
theorem dX2_addTo_128 : decode cX2_addTo 128 = .ok (.aload_n 0, 1) := by decide +kernel
theorem dX2_addTo_129 : decode cX2_addTo 129 = .ok (.getfield 12, 3) := by decide +kernel
theorem dX2_addTo_132 : decode cX2_addTo 132 = .ok (.aload_n 0, 1) := by decide +kernel

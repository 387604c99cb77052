theorem dX12_keep_27 : decode cX12_keep 27 = .ok (.getfield 94, 3) := by decide +kernel
theorem dX12_keep_30 : decode cX12_keep 30 = .ok (.iconst 1, 1) := by decide +kernel
theorem dX12_keep_31 : decode cX12_keep 31 = .ok (.iadd, 1) := by decide +kernel
theorem dX12_keep_32 : decode cX12_keep 32 = .ok (.putfield 94, 3) := by decide +kernel
theorem dX12_keep_35 : decode cX12_keep 35 = .ok (.aload_n 0, 1) := by decide +kernel
theorem dX12_keep_36 : decode cX12_keep 36 = .ok (.getfield 94, 3) := by decide +kernel
theorem dX12_keep_39 : decode cX12_keep 39 = .ok (.iconst 1, 1) := by decide +kernel
theorem dX12_keep_40 : decode cX12_keep 40 = .ok (.isub, 1) := by decide +kernel
theorem dX12_keep_41 : decode cX12_keep 41 = .ok (.ireturn, 1) := by decide +kernel
theorem dX12_length_0 : decode cX12_length 0 = .ok (.aload_n 0, 1) := by decide +kernel
theorem dX12_length_1 : decode cX12_length 1 = .ok (.iload_n 1, 1) := by decide +kernel
theorem dX12_length_2 : decode cX12_length 2 = .ok (.iload_n 2, 1) := by decide +kernel
theorem dX12_length_3 : decode cX12_length 3 = .ok (.invokevirtual 132, 3) := by decide +kernel
theorem dX12_length_6 : decode cX12_length 6 = .ok (.astore_n 3, 1) := by decide +kernel
theorem dX12_length_7 : decode cX12_length 7 = .ok (.aload_n 3, 1) := by decide +kernel
theorem dX12_length_8 : decode cX12_length 8 = .ok (.ifnonnull 7, 3) := by decide +kernel
theorem dX12_length_11 : decode cX12_length 11 = .ok (.iconst (-1), 1) := by decide +kernel
theorem dX12_length_12 : decode cX12_length 12 = .ok (.goto 7, 3) := by decide +kernel
theorem dX12_length_15 : decode cX12_length 15 = .ok (.aload_n 3, 1) := by decide +kernel
theorem dX12_length_16 : decode cX12_length 16 = .ok (.getfield 136, 3) := by decide +kernel
theorem dX12_length_19 : decode cX12_length 19 = .ok (.ireturn, 1) := by decide +kernel
theorem dX12_local_0 : decode cX12_local 0 = .ok (.aload_n 0, 1) := by decide +kernel
theorem dX12_local_1 : decode cX12_local 1 = .ok (.iload_n 1, 1) := by decide +kernel
theorem dX12_local_2 : decode cX12_local 2 = .ok (.invokevirtual 152, 3) := by decide +kernel
theorem dX12_local_5 : decode cX12_local 5 = .ok (.ifnonnull 7, 3) := by decide +kernel
theorem dX12_local_8 : decode cX12_local 8 = .ok (.aconst_null, 1) := by decide +kernel
theorem dX12_local_9 : decode cX12_local 9 = .ok (.goto 9, 3) := by decide +kernel
theorem dX12_local_12 : decode cX12_local 12 = .ok (.aload_n 0, 1) := by decide +kernel
theorem dX12_local_13 : decode cX12_local 13 = .ok (.iload_n 1, 1) := by decide +kernel
theorem dX12_local_14 : decode cX12_local 14 = .ok (.iload_n 2, 1) := by decide +kernel
theorem dX12_local_15 : decode cX12_local 15 = .ok (.invokevirtual 132, 3) := by decide +kernel
theorem dX12_local_18 : decode cX12_local 18 = .ok (.astore 5, 2) := by decide +kernel
theorem dX12_local_20 : decode cX12_local 20 = .ok (.aload 5, 2) := by decide +kernel
theorem dX12_local_22 : decode cX12_local 22 = .ok (.ifnull 24, 3) := by decide +kernel
theorem dX12_local_25 : decode cX12_local 25 = .ok (.aload 5, 2) := by decide +kernel
theorem dX12_local_27 : decode cX12_local 27 = .ok (.iload_n 3, 1) := by decide +kernel
theorem dX12_local_28 : decode cX12_local 28 = .ok (.invokevirtual 155, 3) := by decide +kernel
theorem dX12_local_31 : decode cX12_local 31 = .ok (.ifCond .lt 15, 3) := by decide +kernel
theorem dX12_local_34 : decode cX12_local 34 = .ok (.iload 4, 2) := by decide +kernel
theorem dX12_local_36 : decode cX12_local 36 = .ok (.ifCond .lt 10, 3) := by decide +kernel
theorem dX12_local_39 : decode cX12_local 39 = .ok (.iload 4, 2) := by decide +kernel
theorem dX12_local_41 : decode cX12_local 41 = .ok (.bipush 24, 2) := by decide +kernel
theorem dX12_local_43 : decode cX12_local 43 = .ok (.if_icmp .lt 5, 3) := by decide +kernel
theorem dX12_local_46 : decode cX12_local 46 = .ok (.iconst (-1), 1) := by decide +kernel
theorem dX12_local_47 : decode cX12_local 47 = .ok (.ireturn, 1) := by decide +kernel
theorem dX12_local_48 : decode cX12_local 48 = .ok (.aload 5, 2) := by decide +kernel
theorem dX12_local_50 : decode cX12_local 50 = .ok (.iload_n 3, 1) := by decide +kernel
theorem dX12_local_51 : decode cX12_local 51 = .ok (.iload 4, 2) := by decide +kernel
theorem dX12_local_53 : decode cX12_local 53 = .ok (.invokevirtual 159, 3) := by decide +kernel
theorem dX12_local_56 : decode cX12_local 56 = .ok (.ireturn, 1) := by decide +kernel
theorem dX12_method_0 : decode cX12_method 0 = .ok (.aload_n 0, 1) := by decide +kernel
theorem dX12_method_1 : decode cX12_method 1 = .ok (.getfield 74, 3) := by decide +kernel
theorem dX12_method_4 : decode cX12_method 4 = .ok (.ireturn, 1) := by decide +kernel
theorem dX12_place_0 : decode cX12_place 0 = .ok (.aload_n 0, 1) := by decide +kernel
theorem dX12_place_1 : decode cX12_place 1 = .ok (.getfield 70, 3) := by decide +kernel
theorem dX12_place_4 : decode cX12_place 4 = .ok (.ireturn, 1) := by decide +kernel
theorem dX12_result_0 : decode cX12_result 0 = .ok (.aload_n 0, 1) := by decide +kernel
theorem dX12_result_1 : decode cX12_result 1 = .ok (.getfield 52, 3) := by decide +kernel
theorem dX12_result_4 : decode cX12_result 4 = .ok (.getfield 195, 3) := by decide +kernel
theorem dX12_result_7 : decode cX12_result 7 = .ok (.lreturn, 1) := by decide +kernel
theorem dX12_rowAt_0 : decode cX12_rowAt 0 = .ok (.aload_n 0, 1) := by decide +kernel
theorem dX12_rowAt_1 : decode cX12_rowAt 1 = .ok (.iload_n 1, 1) := by decide +kernel
theorem dX12_rowAt_2 : decode cX12_rowAt 2 = .ok (.invokevirtual 116, 3) := by decide +kernel
theorem dX12_rowAt_5 : decode cX12_rowAt 5 = .ok (.astore_n 3, 1) := by decide +kernel
theorem dX12_rowAt_6 : decode cX12_rowAt 6 = .ok (.aload_n 3, 1) := by decide +kernel
theorem dX12_rowAt_7 : decode cX12_rowAt 7 = .ok (.ifnonnull 7, 3) := by decide +kernel
theorem dX12_rowAt_10 : decode cX12_rowAt 10 = .ok (.aconst_null, 1) := by decide +kernel
theorem dX12_rowAt_11 : decode cX12_rowAt 11 = .ok (.goto 8, 3) := by decide +kernel
theorem dX12_rowAt_14 : decode cX12_rowAt 14 = .ok (.aload_n 3, 1) := by decide +kernel
theorem dX12_rowAt_15 : decode cX12_rowAt 15 = .ok (.iload_n 2, 1) := by decide +kernel
theorem dX12_rowAt_16 : decode cX12_rowAt 16 = .ok (.invokevirtual 144, 3) := by decide +kernel
theorem dX12_rowAt_19 : decode cX12_rowAt 19 = .ok (.areturn, 1) := by decide +kernel
theorem dX12_rule_0 : decode cX12_rule 0 = .ok (.aload_n 0, 1) := by decide +kernel
theorem dX12_rule_1 : decode cX12_rule 1 = .ok (.getfield 110, 3) := by decide +kernel
theorem dX12_rule_4 : decode cX12_rule 4 = .ok (.ireturn, 1) := by decide +kernel
theorem dX12_run_0 : decode cX12_run 0 = .ok (.aload_n 0, 1) := by decide +kernel
theorem dX12_run_1 : decode cX12_run 1 = .ok (.getfield 52, 3) := by decide +kernel
theorem dX12_run_4 : decode cX12_run 4 = .ok (.iload_n 1, 1) := by decide +kernel
theorem dX12_run_5 : decode cX12_run 5 = .ok (.iload_n 2, 1) := by decide +kernel
theorem dX12_run_6 : decode cX12_run 6 = .ok (.invokevirtual 186, 3) := by decide +kernel
theorem dX12_run_9 : decode cX12_run 9 = .ok (.istore_n 3, 1) := by decide +kernel
theorem dX12_run_10 : decode cX12_run 10 = .ok (.iload_n 3, 1) := by decide +kernel
theorem dX12_run_11 : decode cX12_run 11 = .ok (.ifCond .ne 13, 3) := by decide +kernel
theorem dX12_run_14 : decode cX12_run 14 = .ok (.aload_n 0, 1) := by decide +kernel
theorem dX12_run_15 : decode cX12_run 15 = .ok (.getfield 52, 3) := by decide +kernel
theorem dX12_run_18 : decode cX12_run 18 = .ok (.iload_n 1, 1) := by decide +kernel
theorem dX12_run_19 : decode cX12_run 19 = .ok (.iload_n 2, 1) := by decide +kernel
theorem dX12_run_20 : decode cX12_run 20 = .ok (.invokevirtual 189, 3) := by decide +kernel
theorem dX12_run_23 : decode cX12_run 23 = .ok (.istore_n 3, 1) := by decide +kernel
theorem dX12_run_24 : decode cX12_run 24 = .ok (.aload_n 0, 1) := by decide +kernel
theorem dX12_run_25 : decode cX12_run 25 = .ok (.getfield 52, 3) := by decide +kernel
theorem dX12_run_28 : decode cX12_run 28 = .ok (.iconst 0, 1) := by decide +kernel
theorem dX12_run_29 : decode cX12_run 29 = .ok (.putfield 192, 3) := by decide +kernel
theorem dX12_run_32 : decode cX12_run 32 = .ok (.iload_n 3, 1) := by decide +kernel
theorem dX12_run_33 : decode cX12_run 33 = .ok (.ireturn, 1) := by decide +kernel
theorem dX12_size_0 : decode cX12_size 0 = .ok (.aload_n 0, 1) := by decide +kernel
theorem dX12_size_1 : decode cX12_size 1 = .ok (.iload_n 1, 1) := by decide +kernel
theorem dX12_size_2 : decode cX12_size 2 = .ok (.invokevirtual 116, 3) := by decide +kernel
theorem dX12_size_5 : decode cX12_size 5 = .ok (.astore_n 3, 1) := by decide +kernel
theorem dX12_size_6 : decode cX12_size 6 = .ok (.aload_n 3, 1) := by decide +kernel
theorem dX12_size_7 : decode cX12_size 7 = .ok (.ifnonnull 5, 3) := by decide +kernel
theorem dX12_size_10 : decode cX12_size 10 = .ok (.iconst (-1), 1) := by decide +kernel
theorem dX12_size_11 : decode cX12_size 11 = .ok (.ireturn, 1) := by decide +kernel
theorem dX12_size_12 : decode cX12_size 12 = .ok (.iload_n 2, 1) := by decide +kernel
theorem dX12_size_13 : decode cX12_size 13 = .ok (.tableswitch 51 0 3 #[31, 36, 41, 46], 31) := by decide +kernel
theorem dX12_size_44 : decode cX12_size 44 = .ok (.aload_n 3, 1) := by decide +kernel
theorem dX12_size_45 : decode cX12_size 45 = .ok (.getfield 120, 3) := by decide +kernel
theorem dX12_size_48 : decode cX12_size 48 = .ok (.ireturn, 1) := by decide +kernel
theorem dX12_size_49 : decode cX12_size 49 = .ok (.aload_n 3, 1) := by decide +kernel
theorem dX12_size_50 : decode cX12_size 50 = .ok (.getfield 123, 3) := by decide +kernel
theorem dX12_size_53 : decode cX12_size 53 = .ok (.ireturn, 1) := by decide +kernel
theorem dX12_size_54 : decode cX12_size 54 = .ok (.aload_n 3, 1) := by decide +kernel
theorem dX12_size_55 : decode cX12_size 55 = .ok (.getfield 126, 3) := by decide +kernel
theorem dX12_size_58 : decode cX12_size 58 = .ok (.ireturn, 1) := by decide +kernel
theorem dX12_size_59 : decode cX12_size 59 = .ok (.aload_n 3, 1) := by decide +kernel
theorem dX12_size_60 : decode cX12_size 60 = .ok (.getfield 129, 3) := by decide +kernel
theorem dX12_size_63 : decode cX12_size 63 = .ok (.ireturn, 1) := by decide +kernel
theorem dX12_size_64 : decode cX12_size 64 = .ok (.iconst (-1), 1) := by decide +kernel
theorem dX12_size_65 : decode cX12_size 65 = .ok (.ireturn, 1) := by decide +kernel
theorem dX12_soundUnitAt_0 : decode cX12_soundUnitAt 0 = .ok (.aload_n 0, 1) := by decide +kernel
theorem dX12_soundUnitAt_1 : decode cX12_soundUnitAt 1 = .ok (.iload_n 1, 1) := by decide +kernel
theorem dX12_soundUnitAt_2 : decode cX12_soundUnitAt 2 = .ok (.invokevirtual 116, 3) := by decide +kernel
theorem dX12_soundUnitAt_5 : decode cX12_soundUnitAt 5 = .ok (.astore_n 2, 1) := by decide +kernel
theorem dX12_soundUnitAt_6 : decode cX12_soundUnitAt 6 = .ok (.aload_n 2, 1) := by decide +kernel
theorem dX12_soundUnitAt_7 : decode cX12_soundUnitAt 7 = .ok (.ifnull 17, 3) := by decide +kernel
theorem dX12_soundUnitAt_10 : decode cX12_soundUnitAt 10 = .ok (.aload_n 2, 1) := by decide +kernel
theorem dX12_soundUnitAt_11 : decode cX12_soundUnitAt 11 = .ok (.getfield 139, 3) := by decide +kernel
theorem dX12_soundUnitAt_14 : decode cX12_soundUnitAt 14 = .ok (.ifCond .eq 10, 3) := by decide +kernel
theorem dX12_soundUnitAt_17 : decode cX12_soundUnitAt 17 = .ok (.aload_n 2, 1) := by decide +kernel
theorem dX12_soundUnitAt_18 : decode cX12_soundUnitAt 18 = .ok (.getfield 143, 3) := by decide +kernel
theorem dX12_soundUnitAt_21 : decode cX12_soundUnitAt 21 = .ok (.ifCond .lt 7, 3) := by decide +kernel
theorem dX12_soundUnitAt_24 : decode cX12_soundUnitAt 24 = .ok (.aconst_null, 1) := by decide +kernel
theorem dX12_soundUnitAt_25 : decode cX12_soundUnitAt 25 = .ok (.goto 4, 3) := by decide +kernel
theorem dX12_soundUnitAt_28 : decode cX12_soundUnitAt 28 = .ok (.aload_n 2, 1) := by decide +kernel
theorem dX12_soundUnitAt_29 : decode cX12_soundUnitAt 29 = .ok (.areturn, 1) := by decide +kernel
theorem dX12_stage_0 : decode cX12_stage 0 = .ok (.aload_n 0, 1) := by decide +kernel
theorem dX12_stage_1 : decode cX12_stage 1 = .ok (.iload_n 1, 1) := by decide +kernel
theorem dX12_stage_2 : decode cX12_stage 2 = .ok (.invokevirtual 152, 3) := by decide +kernel
theorem dX12_stage_5 : decode cX12_stage 5 = .ok (.astore_n 2, 1) := by decide +kernel
theorem dX12_stage_6 : decode cX12_stage 6 = .ok (.aload_n 2, 1) := by decide +kernel
theorem dX12_stage_7 : decode cX12_stage 7 = .ok (.ifnonnull 5, 3) := by decide +kernel
theorem dX12_stage_10 : decode cX12_stage 10 = .ok (.iconst 0, 1) := by decide +kernel
theorem dX12_stage_11 : decode cX12_stage 11 = .ok (.ireturn, 1) := by decide +kernel
theorem dX12_stage_12 : decode cX12_stage 12 = .ok (.aload_n 0, 1) := by decide +kernel
theorem dX12_stage_13 : decode cX12_stage 13 = .ok (.getfield 52, 3) := by decide +kernel
theorem dX12_stage_16 : decode cX12_stage 16 = .ok (.aload_n 2, 1) := by decide +kernel
theorem dX12_stage_17 : decode cX12_stage 17 = .ok (.invokevirtual 178, 3) := by decide +kernel
theorem dX12_stage_20 : decode cX12_stage 20 = .ok (.iconst 1, 1) := by decide +kernel
theorem dX12_stage_21 : decode cX12_stage 21 = .ok (.ireturn, 1) := by decide +kernel
theorem dX12_steps_0 : decode cX12_steps 0 = .ok (.aload_n 0, 1) := by decide +kernel

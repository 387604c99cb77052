theorem dX12_rowAt_7 : decode cX12_rowAt 7 = .ok (.ifnonnull 7, 3) := by decide +kernel
theorem dX12_rowAt_10 : decode cX12_rowAt 10 = .ok (.aconst_null, 1) := by decide +kernel
theorem dX12_rowAt_11 : decode cX12_rowAt 11 = .ok (.goto 8, 3) := by decide +kernel
theorem dX12_rowAt_14 : decode cX12_rowAt 14 = .ok (.aload_n 3, 1) := by decide +kernel
theorem dX12_rowAt_15 : decode cX12_rowAt 15 = .ok (.iload_n 2, 1) := by decide +kernel
theorem dX12_rowAt_16 : decode cX12_rowAt 16 = .ok (.invokevirtual 144, 3) := by decide +kernel
theorem dX12_rowAt_19 : decode cX12_rowAt 19 = .ok (.areturn, 1) := by decide +kernel
theorem dX12_rule_0 : decode cX12_rule 0 = .ok (.aload_n 0, 1) := by decide +kernel
theorem dX12_rule_1 : decode cX12_rule 1 = .ok (.getfield 110, 3) := by decide +kernel
theorem dX12_rule_4 : decode cX12_rule 4 = .ok (.ireturn, 1) := by decide +kernel
theorem dX12_run_0 : decode cX12_run 0 = .ok (.aload_n 0, 1) := by decide +kernel
theorem dX12_run_1 : decode cX12_run 1 = .ok (.getfield 52, 3) := by decide +kernel
theorem dX12_run_4 : decode cX12_run 4 = .ok (.iload_n 1, 1) := by decide +kernel
theorem dX12_run_5 : decode cX12_run 5 = .ok (.iload_n 2, 1) := by decide +kernel
theorem dX12_run_6 : decode cX12_run 6 = .ok (.invokevirtual 186, 3) := by decide +kernel
theorem dX12_run_9 : decode cX12_run 9 = .ok (.istore_n 3, 1) := by decide +kernel
theorem dX12_run_10 : decode cX12_run 10 = .ok (.iload_n 3, 1) := by decide +kernel
theorem dX12_run_11 : decode cX12_run 11 = .ok (.ifCond .ne 13, 3) := by decide +kernel
theorem dX12_run_14 : decode cX12_run 14 = .ok (.aload_n 0, 1) := by decide +kernel
theorem dX12_run_15 : decode cX12_run 15 = .ok (.getfield 52, 3) := by decide +kernel
theorem dX12_run_18 : decode cX12_run 18 = .ok (.iload_n 1, 1) := by decide +kernel
theorem dX12_run_19 : decode cX12_run 19 = .ok (.iload_n 2, 1) := by decide +kernel
theorem dX12_run_20 : decode cX12_run 20 = .ok (.invokevirtual 189, 3) := by decide +kernel
theorem dX12_run_23 : decode cX12_run 23 = .ok (.istore_n 3, 1) := by decide +kernel
theorem dX12_run_24 : decode cX12_run 24 = .ok (.aload_n 0, 1) := by decide +kernel
theorem dX12_run_25 : decode cX12_run 25 = .ok (.getfield 52, 3) := by decide +kernel
theorem dX12_run_28 : decode cX12_run 28 = .ok (.iconst 0, 1) := by decide +kernel
theorem dX12_run_29 : decode cX12_run 29 = .ok (.putfield 192, 3) := by decide +kernel
theorem dX12_run_32 : decode cX12_run 32 = .ok (.iload_n 3, 1) := by decide +kernel
theorem dX12_run_33 : decode cX12_run 33 = .ok (.ireturn, 1) := by decide +kernel
theorem dX12_size_0 : decode cX12_size 0 = .ok (.aload_n 0, 1) := by decide +kernel
theorem dX12_size_1 : decode cX12_size 1 = .ok (.iload_n 1, 1) := by decide +kernel
theorem dX12_size_2 : decode cX12_size 2 = .ok (.invokevirtual 116, 3) := by decide +kernel
theorem dX12_size_5 : decode cX12_size 5 = .ok (.astore_n 3, 1) := by decide +kernel
theorem dX12_size_6 : decode cX12_size 6 = .ok (.aload_n 3, 1) := by decide +kernel
theorem dX12_size_7 : decode cX12_size 7 = .ok (.ifnonnull 5, 3) := by decide +kernel
theorem dX12_size_10 : decode cX12_size 10 = .ok (.iconst (-1), 1) := by decide +kernel
theorem dX12_size_11 : decode cX12_size 11 = .ok (.ireturn, 1) := by decide +kernel
theorem dX12_size_12 : decode cX12_size 12 = .ok (.iload_n 2, 1) := by decide +kernel
theorem dX12_size_13 : decode cX12_size 13 = .ok (.tableswitch 51 0 3 #[31, 36, 41, 46], 31) := by decide +kernel
theorem dX12_size_44 : decode cX12_size 44 = .ok (.aload_n 3, 1) := by decide +kernel
theorem dX12_size_45 : decode cX12_size 45 = .ok (.getfield 120, 3) := by decide +kernel
theorem dX12_size_48 : decode cX12_size 48 = .ok (.ireturn, 1) := by decide +kernel
theorem dX12_size_49 : decode cX12_size 49 = .ok (.aload_n 3, 1) := by decide +kernel
theorem dX12_size_50 : decode cX12_size 50 = .ok (.getfield 123, 3) := by decide +kernel
theorem dX12_size_53 : decode cX12_size 53 = .ok (.ireturn, 1) := by decide +kernel
theorem dX12_size_54 : decode cX12_size 54 = .ok (.aload_n 3, 1) := by decide +kernel
theorem dX12_size_55 : decode cX12_size 55 = .ok (.getfield 126, 3) := by decide +kernel
theorem dX12_size_58 : decode cX12_size 58 = .ok (.ireturn, 1) := by decide +kernel
theorem dX12_size_59 : decode cX12_size 59 = .ok (.aload_n 3, 1) := by decide +kernel
theorem dX12_size_60 : decode cX12_size 60 = .ok (.getfield 129, 3) := by decide +kernel
theorem dX12_size_63 : decode cX12_size 63 = .ok (.ireturn, 1) := by decide +kernel
theorem dX12_size_64 : decode cX12_size 64 = .ok (.iconst (-1), 1) := by decide +kernel
theorem dX12_size_65 : decode cX12_size 65 = .ok (.ireturn, 1) := by decide +kernel
theorem dX12_soundUnitAt_0 : decode cX12_soundUnitAt 0 = .ok (.aload_n 0, 1) := by decide +kernel
theorem dX12_soundUnitAt_1 : decode cX12_soundUnitAt 1 = .ok (.iload_n 1, 1) := by decide +kernel
theorem dX12_soundUnitAt_2 : decode cX12_soundUnitAt 2 = .ok (.invokevirtual 116, 3) := by decide +kernel
theorem dX12_soundUnitAt_5 : decode cX12_soundUnitAt 5 = .ok (.astore_n 2, 1) := by decide +kernel
theorem dX12_soundUnitAt_6 : decode cX12_soundUnitAt 6 = .ok (.aload_n 2, 1) := by decide +kernel
theorem dX12_soundUnitAt_7 : decode cX12_soundUnitAt 7 = .ok (.ifnull 17, 3) := by decide +kernel
theorem dX12_soundUnitAt_10 : decode cX12_soundUnitAt 10 = .ok (.aload_n 2, 1) := by decide +kernel
theorem dX12_soundUnitAt_11 : decode cX12_soundUnitAt 11 = .ok (.getfield 139, 3) := by decide +kernel
theorem dX12_soundUnitAt_14 : decode cX12_soundUnitAt 14 = .ok (.ifCond .eq 10, 3) := by decide +kernel
theorem dX12_soundUnitAt_17 : decode cX12_soundUnitAt 17 = .ok (.aload_n 2, 1) := by decide +kernel
theorem dX12_soundUnitAt_18 : decode cX12_soundUnitAt 18 = .ok (.getfield 143, 3) := by decide +kernel
theorem dX12_soundUnitAt_21 : decode cX12_soundUnitAt 21 = .ok (.ifCond .lt 7, 3) := by decide +kernel
theorem dX12_soundUnitAt_24 : decode cX12_soundUnitAt 24 = .ok (.aconst_null, 1) := by decide +kernel
theorem dX12_soundUnitAt_25 : decode cX12_soundUnitAt 25 = .ok (.goto 4, 3) := by decide +kernel
theorem dX12_soundUnitAt_28 : decode cX12_soundUnitAt 28 = .ok (.aload_n 2, 1) := by decide +kernel
theorem dX12_soundUnitAt_29 : decode cX12_soundUnitAt 29 = .ok (.areturn, 1) := by decide +kernel
theorem dX12_stage_0 : decode cX12_stage 0 = .ok (.aload_n 0, 1) := by decide +kernel
theorem dX12_stage_1 : decode cX12_stage 1 = .ok (.iload_n 1, 1) := by decide +kernel
theorem dX12_stage_2 : decode cX12_stage 2 = .ok (.invokevirtual 152, 3) := by decide +kernel
theorem dX12_stage_5 : decode cX12_stage 5 = .ok (.astore_n 2, 1) := by decide +kernel
theorem dX12_stage_6 : decode cX12_stage 6 = .ok (.aload_n 2, 1) := by decide +kernel
theorem dX12_stage_7 : decode cX12_stage 7 = .ok (.ifnonnull 5, 3) := by decide +kernel
theorem dX12_stage_10 : decode cX12_stage 10 = .ok (.iconst 0, 1) := by decide +kernel
theorem dX12_stage_11 : decode cX12_stage 11 = .ok (.ireturn, 1) := by decide +kernel
theorem dX12_stage_12 : decode cX12_stage 12 = .ok (.aload_n 0, 1) := by decide +kernel
theorem dX12_stage_13 : decode cX12_stage 13 = .ok (.getfield 52, 3) := by decide +kernel
theorem dX12_stage_16 : decode cX12_stage 16 = .ok (.aload_n 2, 1) := by decide +kernel
theorem dX12_stage_17 : decode cX12_stage 17 = .ok (.invokevirtual 178, 3) := by decide +kernel
theorem dX12_stage_20 : decode cX12_stage 20 = .ok (.iconst 1, 1) := by decide +kernel
theorem dX12_stage_21 : decode cX12_stage 21 = .ok (.ireturn, 1) := by decide +kernel
theorem dX12_steps_0 : decode cX12_steps 0 = .ok (.aload_n 0, 1) := by decide +kernel
theorem dX12_steps_1 : decode cX12_steps 1 = .ok (.getfield 52, 3) := by decide +kernel
theorem dX12_steps_4 : decode cX12_steps 4 = .ok (.getfield 202, 3) := by decide +kernel
theorem dX12_steps_7 : decode cX12_steps 7 = .ok (.ireturn, 1) := by decide +kernel
theorem dX12_strays_0 : decode cX12_strays 0 = .ok (.aload_n 0, 1) := by decide +kernel
theorem dX12_strays_1 : decode cX12_strays 1 = .ok (.getfield 52, 3) := by decide +kernel
theorem dX12_strays_4 : decode cX12_strays 4 = .ok (.getfield 259, 3) := by decide +kernel
theorem dX12_strays_7 : decode cX12_strays 7 = .ok (.ireturn, 1) := by decide +kernel
theorem dX12_unitAt_0 : decode cX12_unitAt 0 = .ok (.iload_n 1, 1) := by decide +kernel
theorem dX12_unitAt_1 : decode cX12_unitAt 1 = .ok (.ifCond .lt 11, 3) := by decide +kernel
theorem dX12_unitAt_4 : decode cX12_unitAt 4 = .ok (.iload_n 1, 1) := by decide +kernel
theorem dX12_unitAt_5 : decode cX12_unitAt 5 = .ok (.aload_n 0, 1) := by decide +kernel
theorem dX12_unitAt_6 : decode cX12_unitAt 6 = .ok (.getfield 94, 3) := by decide +kernel
theorem dX12_unitAt_9 : decode cX12_unitAt 9 = .ok (.if_icmp .lt 7, 3) := by decide +kernel
theorem dX12_unitAt_12 : decode cX12_unitAt 12 = .ok (.aconst_null, 1) := by decide +kernel
theorem dX12_unitAt_13 : decode cX12_unitAt 13 = .ok (.goto 9, 3) := by decide +kernel
theorem dX12_unitAt_16 : decode cX12_unitAt 16 = .ok (.aload_n 0, 1) := by decide +kernel
theorem dX12_unitAt_17 : decode cX12_unitAt 17 = .ok (.getfield 24, 3) := by decide +kernel
theorem dX12_unitAt_20 : decode cX12_unitAt 20 = .ok (.iload_n 1, 1) := by decide +kernel
theorem dX12_unitAt_21 : decode cX12_unitAt 21 = .ok (.aaload, 1) := by decide +kernel
theorem dX12_unitAt_22 : decode cX12_unitAt 22 = .ok (.areturn, 1) := by decide +kernel
theorem dX12_verify_0 : decode cX12_verify 0 = .ok (.aload_n 0, 1) := by decide +kernel
theorem dX12_verify_1 : decode cX12_verify 1 = .ok (.iconst (-1), 1) := by decide +kernel
theorem dX12_verify_2 : decode cX12_verify 2 = .ok (.putfield 74, 3) := by decide +kernel
theorem dX12_verify_5 : decode cX12_verify 5 = .ok (.aload_n 0, 1) := by decide +kernel
theorem dX12_verify_6 : decode cX12_verify 6 = .ok (.iconst (-1), 1) := by decide +kernel
theorem dX12_verify_7 : decode cX12_verify 7 = .ok (.putfield 77, 3) := by decide +kernel
theorem dX12_verify_10 : decode cX12_verify 10 = .ok (.aload_n 0, 1) := by decide +kernel
theorem dX12_verify_11 : decode cX12_verify 11 = .ok (.iload_n 1, 1) := by decide +kernel
theorem dX12_verify_12 : decode cX12_verify 12 = .ok (.invokevirtual 116, 3) := by decide +kernel
theorem dX12_verify_15 : decode cX12_verify 15 = .ok (.astore_n 2, 1) := by decide +kernel
theorem dX12_verify_16 : decode cX12_verify 16 = .ok (.aload_n 2, 1) := by decide +kernel
theorem dX12_verify_17 : decode cX12_verify 17 = .ok (.ifnonnull 5, 3) := by decide +kernel
theorem dX12_verify_20 : decode cX12_verify 20 = .ok (.iconst (-1), 1) := by decide +kernel
theorem dX12_verify_21 : decode cX12_verify 21 = .ok (.ireturn, 1) := by decide +kernel
theorem dX12_verify_22 : decode cX12_verify 22 = .ok (.iconst 0, 1) := by decide +kernel
theorem dX12_verify_23 : decode cX12_verify 23 = .ok (.istore_n 3, 1) := by decide +kernel
theorem dX12_verify_24 : decode cX12_verify 24 = .ok (.aload_n 2, 1) := by decide +kernel
theorem dX12_verify_25 : decode cX12_verify 25 = .ok (.getfield 139, 3) := by decide +kernel
theorem dX12_verify_28 : decode cX12_verify 28 = .ok (.ifCond .ne 57, 3) := by decide +kernel
theorem dX12_verify_31 : decode cX12_verify 31 = .ok (.aload_n 2, 1) := by decide +kernel
theorem dX12_verify_32 : decode cX12_verify 32 = .ok (.getfield 143, 3) := by decide +kernel
theorem dX12_verify_35 : decode cX12_verify 35 = .ok (.ifCond .ge 50, 3) := by decide +kernel
theorem dX12_verify_38 : decode cX12_verify 38 = .ok (.iload_n 3, 1) := by decide +kernel
theorem dX12_verify_39 : decode cX12_verify 39 = .ok (.aload_n 2, 1) := by decide +kernel
theorem dX12_verify_40 : decode cX12_verify 40 = .ok (.getfield 123, 3) := by decide +kernel
theorem dX12_verify_43 : decode cX12_verify 43 = .ok (.if_icmp .ge 42, 3) := by decide +kernel
theorem dX12_verify_46 : decode cX12_verify 46 = .ok (.aload_n 2, 1) := by decide +kernel
theorem dX12_verify_47 : decode cX12_verify 47 = .ok (.aload_n 0, 1) := by decide +kernel
theorem dX12_verify_48 : decode cX12_verify 48 = .ok (.getfield 38, 3) := by decide +kernel
theorem dX12_verify_51 : decode cX12_verify 51 = .ok (.aload_n 2, 1) := by decide +kernel
theorem dX12_verify_52 : decode cX12_verify 52 = .ok (.aload_n 2, 1) := by decide +kernel
theorem dX12_verify_53 : decode cX12_verify 53 = .ok (.iload_n 3, 1) := by decide +kernel
theorem dX12_verify_54 : decode cX12_verify 54 = .ok (.invokevirtual 144, 3) := by decide +kernel
theorem dX12_verify_57 : decode cX12_verify 57 = .ok (.invokevirtual 147, 3) := by decide +kernel
theorem dX12_verify_60 : decode cX12_verify 60 = .ok (.putfield 151, 3) := by decide +kernel
theorem dX12_verify_63 : decode cX12_verify 63 = .ok (.aload_n 2, 1) := by decide +kernel
theorem dX12_verify_64 : decode cX12_verify 64 = .ok (.aload_n 2, 1) := by decide +kernel
theorem dX12_verify_65 : decode cX12_verify 65 = .ok (.getfield 151, 3) := by decide +kernel
theorem dX12_verify_68 : decode cX12_verify 68 = .ok (.ifCond .ge 7, 3) := by decide +kernel
theorem dX12_verify_71 : decode cX12_verify 71 = .ok (.iconst (-1), 1) := by decide +kernel
theorem dX12_verify_72 : decode cX12_verify 72 = .ok (.goto 4, 3) := by decide +kernel
theorem dX12_verify_75 : decode cX12_verify 75 = .ok (.iload_n 3, 1) := by decide +kernel
theorem dX12_verify_76 : decode cX12_verify 76 = .ok (.putfield 143, 3) := by decide +kernel
theorem dX12_verify_79 : decode cX12_verify 79 = .ok (.iinc 3 1, 3) := by decide +kernel
theorem dX12_verify_82 : decode cX12_verify 82 = .ok (.goto (-58), 3) := by decide +kernel

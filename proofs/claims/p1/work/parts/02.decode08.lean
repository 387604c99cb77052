theorem dX12_run_32 : decode cX12_run 32 = .ok (.iload_n 3, 1) := by decide +kernel
theorem dX12_run_33 : decode cX12_run 33 = .ok (.ireturn, 1) := by decide +kernel
theorem dX12_size_0 : decode cX12_size 0 = .ok (.aload_n 0, 1) := by decide +kernel
theorem dX12_size_1 : decode cX12_size 1 = .ok (.iload_n 1, 1) := by decide +kernel
theorem dX12_size_2 : decode cX12_size 2 = .ok (.invokevirtual 116, 3) := by decide +kernel
theorem dX12_size_5 : decode cX12_size 5 = .ok (.astore_n 3, 1) := by decide +kernel
theorem dX12_size_6 : decode cX12_size 6 = .ok (.aload_n 3, 1) := by decide +kernel
theorem dX12_size_7 : decode cX12_size 7 = .ok (.ifnonnull 5, 3) := by decide +kernel
theorem dX12_size_10 : decode cX12_size 10 = .ok (.iconst (-1), 1) := by decide +kernel
theorem dX12_size_11 : decode cX12_size 11 = .ok (.ireturn, 1) := by decide +kernel
theorem dX12_soundUnitAt_0 : decode cX12_soundUnitAt 0 = .ok (.aload_n 0, 1) := by decide +kernel
theorem dX12_soundUnitAt_1 : decode cX12_soundUnitAt 1 = .ok (.iload_n 1, 1) := by decide +kernel
theorem dX12_soundUnitAt_2 : decode cX12_soundUnitAt 2 = .ok (.invokevirtual 116, 3) := by decide +kernel
theorem dX12_soundUnitAt_5 : decode cX12_soundUnitAt 5 = .ok (.astore_n 2, 1) := by decide +kernel
theorem dX12_soundUnitAt_6 : decode cX12_soundUnitAt 6 = .ok (.aload_n 2, 1) := by decide +kernel
theorem dX12_soundUnitAt_7 : decode cX12_soundUnitAt 7 = .ok (.ifnull 17, 3) := by decide +kernel
theorem dX12_soundUnitAt_24 : decode cX12_soundUnitAt 24 = .ok (.aconst_null, 1) := by decide +kernel
theorem dX12_soundUnitAt_25 : decode cX12_soundUnitAt 25 = .ok (.goto 4, 3) := by decide +kernel
theorem dX12_soundUnitAt_29 : decode cX12_soundUnitAt 29 = .ok (.areturn, 1) := by decide +kernel
theorem dX12_stage_0 : decode cX12_stage 0 = .ok (.aload_n 0, 1) := by decide +kernel
theorem dX12_stage_1 : decode cX12_stage 1 = .ok (.iload_n 1, 1) := by decide +kernel
theorem dX12_stage_2 : decode cX12_stage 2 = .ok (.invokevirtual 152, 3) := by decide +kernel
theorem dX12_stage_5 : decode cX12_stage 5 = .ok (.astore_n 2, 1) := by decide +kernel
theorem dX12_stage_6 : decode cX12_stage 6 = .ok (.aload_n 2, 1) := by decide +kernel
theorem dX12_stage_7 : decode cX12_stage 7 = .ok (.ifnonnull 5, 3) := by decide +kernel
theorem dX12_stage_10 : decode cX12_stage 10 = .ok (.iconst 0, 1) := by decide +kernel
theorem dX12_stage_11 : decode cX12_stage 11 = .ok (.ireturn, 1) := by decide +kernel
theorem dX12_steps_0 : decode cX12_steps 0 = .ok (.aload_n 0, 1) := by decide +kernel
theorem dX12_steps_1 : decode cX12_steps 1 = .ok (.getfield 52, 3) := by decide +kernel
theorem dX12_steps_4 : decode cX12_steps 4 = .ok (.getfield 202, 3) := by decide +kernel
theorem dX12_steps_7 : decode cX12_steps 7 = .ok (.ireturn, 1) := by decide +kernel
theorem dX12_strays_0 : decode cX12_strays 0 = .ok (.aload_n 0, 1) := by decide +kernel
theorem dX12_strays_1 : decode cX12_strays 1 = .ok (.getfield 52, 3) := by decide +kernel
theorem dX12_strays_4 : decode cX12_strays 4 = .ok (.getfield 259, 3) := by decide +kernel
theorem dX12_strays_7 : decode cX12_strays 7 = .ok (.ireturn, 1) := by decide +kernel
theorem dX12_unitAt_0 : decode cX12_unitAt 0 = .ok (.iload_n 1, 1) := by decide +kernel
theorem dX12_unitAt_1 : decode cX12_unitAt 1 = .ok (.ifCond .lt 11, 3) := by decide +kernel
theorem dX12_unitAt_4 : decode cX12_unitAt 4 = .ok (.iload_n 1, 1) := by decide +kernel
theorem dX12_unitAt_5 : decode cX12_unitAt 5 = .ok (.aload_n 0, 1) := by decide +kernel
theorem dX12_unitAt_6 : decode cX12_unitAt 6 = .ok (.getfield 94, 3) := by decide +kernel
theorem dX12_unitAt_9 : decode cX12_unitAt 9 = .ok (.if_icmp .lt 7, 3) := by decide +kernel
theorem dX12_unitAt_12 : decode cX12_unitAt 12 = .ok (.aconst_null, 1) := by decide +kernel
theorem dX12_unitAt_13 : decode cX12_unitAt 13 = .ok (.goto 9, 3) := by decide +kernel
theorem dX12_unitAt_22 : decode cX12_unitAt 22 = .ok (.areturn, 1) := by decide +kernel
theorem dX12_verify_0 : decode cX12_verify 0 = .ok (.aload_n 0, 1) := by decide +kernel
theorem dX12_verify_1 : decode cX12_verify 1 = .ok (.iconst (-1), 1) := by decide +kernel
theorem dX12_verify_2 : decode cX12_verify 2 = .ok (.putfield 74, 3) := by decide +kernel
theorem dX12_verify_5 : decode cX12_verify 5 = .ok (.aload_n 0, 1) := by decide +kernel
theorem dX12_verify_6 : decode cX12_verify 6 = .ok (.iconst (-1), 1) := by decide +kernel
theorem dX12_verify_7 : decode cX12_verify 7 = .ok (.putfield 77, 3) := by decide +kernel
theorem dX12_verify_10 : decode cX12_verify 10 = .ok (.aload_n 0, 1) := by decide +kernel
theorem dX12_verify_11 : decode cX12_verify 11 = .ok (.iload_n 1, 1) := by decide +kernel
theorem dX12_verify_12 : decode cX12_verify 12 = .ok (.invokevirtual 116, 3) := by decide +kernel
theorem dX12_verify_15 : decode cX12_verify 15 = .ok (.astore_n 2, 1) := by decide +kernel
theorem dX12_verify_16 : decode cX12_verify 16 = .ok (.aload_n 2, 1) := by decide +kernel
theorem dX12_verify_17 : decode cX12_verify 17 = .ok (.ifnonnull 5, 3) := by decide +kernel
theorem dX12_verify_20 : decode cX12_verify 20 = .ok (.iconst (-1), 1) := by decide +kernel
theorem dX12_verify_21 : decode cX12_verify 21 = .ok (.ireturn, 1) := by decide +kernel
theorem dX12_write_0 : decode cX12_write 0 = .ok (.aload_n 0, 1) := by decide +kernel
theorem dX12_write_1 : decode cX12_write 1 = .ok (.iload_n 1, 1) := by decide +kernel
theorem dX12_write_2 : decode cX12_write 2 = .ok (.invokevirtual 152, 3) := by decide +kernel
theorem dX12_write_5 : decode cX12_write 5 = .ok (.astore_n 2, 1) := by decide +kernel
theorem dX12_write_6 : decode cX12_write 6 = .ok (.aload_n 2, 1) := by decide +kernel
theorem dX12_write_7 : decode cX12_write 7 = .ok (.ifnonnull 5, 3) := by decide +kernel
theorem dX12_write_10 : decode cX12_write 10 = .ok (.iconst (-1), 1) := by decide +kernel
theorem dX12_write_11 : decode cX12_write 11 = .ok (.ireturn, 1) := by decide +kernel
theorem dX13_init_0 : decode cX13_init 0 = .ok (.aload_n 0, 1) := by decide +kernel
theorem dX13_init_1 : decode cX13_init 1 = .ok (.invokespecial 3, 3) := by decide +kernel
theorem dX13_init_4 : decode cX13_init 4 = .ok (.aload_n 0, 1) := by decide +kernel
theorem dX13_init_5 : decode cX13_init 5 = .ok (.bipush 24, 2) := by decide +kernel
theorem dX13_init_7 : decode cX13_init 7 = .ok (.anewarray 9, 3) := by decide +kernel
theorem dX13_init_10 : decode cX13_init 10 = .ok (.putfield 11, 3) := by decide +kernel
theorem dX13_init_13 : decode cX13_init 13 = .ok (.aload_n 0, 1) := by decide +kernel
theorem dX13_init_14 : decode cX13_init 14 = .ok (.bipush 24, 2) := by decide +kernel
theorem dX13_init_16 : decode cX13_init 16 = .ok (.anewarray 9, 3) := by decide +kernel
theorem dX13_init_19 : decode cX13_init 19 = .ok (.putfield 17, 3) := by decide +kernel
theorem dX13_init_22 : decode cX13_init 22 = .ok (.aload_n 0, 1) := by decide +kernel
theorem dX13_init_23 : decode cX13_init 23 = .ok (.bipush 24, 2) := by decide +kernel
theorem dX13_init_25 : decode cX13_init 25 = .ok (.anewarray 9, 3) := by decide +kernel
theorem dX13_init_28 : decode cX13_init 28 = .ok (.putfield 20, 3) := by decide +kernel
theorem dX13_init_31 : decode cX13_init 31 = .ok (.aload_n 0, 1) := by decide +kernel
theorem dX13_init_32 : decode cX13_init 32 = .ok (.bipush 24, 2) := by decide +kernel
theorem dX13_init_34 : decode cX13_init 34 = .ok (.anewarray 9, 3) := by decide +kernel
theorem dX13_init_37 : decode cX13_init 37 = .ok (.putfield 23, 3) := by decide +kernel
theorem dX13_init_40 : decode cX13_init 40 = .ok (.aload_n 0, 1) := by decide +kernel
theorem dX13_init_41 : decode cX13_init 41 = .ok (.bipush 24, 2) := by decide +kernel
theorem dX13_init_43 : decode cX13_init 43 = .ok (.anewarray 9, 3) := by decide +kernel
theorem dX13_init_46 : decode cX13_init 46 = .ok (.putfield 26, 3) := by decide +kernel
theorem dX13_init_49 : decode cX13_init 49 = .ok (.aload_n 0, 1) := by decide +kernel
theorem dX13_init_50 : decode cX13_init 50 = .ok (.bipush 24, 2) := by decide +kernel
theorem dX13_init_52 : decode cX13_init 52 = .ok (.anewarray 9, 3) := by decide +kernel
theorem dX13_init_55 : decode cX13_init 55 = .ok (.putfield 29, 3) := by decide +kernel
theorem dX13_init_58 : decode cX13_init 58 = .ok (.aload_n 0, 1) := by decide +kernel
theorem dX13_init_59 : decode cX13_init 59 = .ok (.bipush 24, 2) := by decide +kernel
theorem dX13_init_61 : decode cX13_init 61 = .ok (.anewarray 9, 3) := by decide +kernel
theorem dX13_init_64 : decode cX13_init 64 = .ok (.putfield 32, 3) := by decide +kernel
theorem dX13_init_67 : decode cX13_init 67 = .ok (.aload_n 0, 1) := by decide +kernel
theorem dX13_init_68 : decode cX13_init 68 = .ok (.bipush 24, 2) := by decide +kernel
theorem dX13_init_70 : decode cX13_init 70 = .ok (.newarray .int, 2) := by decide +kernel
theorem dX13_init_72 : decode cX13_init 72 = .ok (.putfield 35, 3) := by decide +kernel
theorem dX13_init_75 : decode cX13_init 75 = .ok (.aload_n 0, 1) := by decide +kernel
theorem dX13_init_76 : decode cX13_init 76 = .ok (.bipush 24, 2) := by decide +kernel
theorem dX13_init_78 : decode cX13_init 78 = .ok (.newarray .int, 2) := by decide +kernel
theorem dX13_init_80 : decode cX13_init 80 = .ok (.putfield 39, 3) := by decide +kernel
theorem dX13_init_83 : decode cX13_init 83 = .ok (.aload_n 0, 1) := by decide +kernel
theorem dX13_init_84 : decode cX13_init 84 = .ok (.bipush 24, 2) := by decide +kernel
theorem dX13_init_86 : decode cX13_init 86 = .ok (.newarray .int, 2) := by decide +kernel
theorem dX13_init_88 : decode cX13_init 88 = .ok (.putfield 42, 3) := by decide +kernel
theorem dX13_init_91 : decode cX13_init 91 = .ok (.aload_n 0, 1) := by decide +kernel
theorem dX13_init_92 : decode cX13_init 92 = .ok (.bipush 24, 2) := by decide +kernel
theorem dX13_init_94 : decode cX13_init 94 = .ok (.newarray .int, 2) := by decide +kernel
theorem dX13_init_96 : decode cX13_init 96 = .ok (.putfield 45, 3) := by decide +kernel
theorem dX13_init_99 : decode cX13_init 99 = .ok (.aload_n 0, 1) := by decide +kernel
theorem dX13_init_100 : decode cX13_init 100 = .ok (.bipush 24, 2) := by decide +kernel
theorem dX13_init_102 : decode cX13_init 102 = .ok (.newarray .int, 2) := by decide +kernel
theorem dX13_init_104 : decode cX13_init 104 = .ok (.putfield 48, 3) := by decide +kernel
theorem dX13_init_107 : decode cX13_init 107 = .ok (.aload_n 0, 1) := by decide +kernel
theorem dX13_init_108 : decode cX13_init 108 = .ok (.bipush 24, 2) := by decide +kernel
theorem dX13_init_110 : decode cX13_init 110 = .ok (.newarray .int, 2) := by decide +kernel
theorem dX13_init_112 : decode cX13_init 112 = .ok (.putfield 51, 3) := by decide +kernel
theorem dX13_init_115 : decode cX13_init 115 = .ok (.return_, 1) := by decide +kernel
theorem dX14_applied_0 : decode cX14_applied 0 = .ok (.iload_n 1, 1) := by decide +kernel
theorem dX14_applied_1 : decode cX14_applied 1 = .ok (.iconst 1, 1) := by decide +kernel
theorem dX14_applied_2 : decode cX14_applied 2 = .ok (.if_icmp .lt 18, 3) := by decide +kernel
theorem dX14_applied_5 : decode cX14_applied 5 = .ok (.iload_n 1, 1) := by decide +kernel
theorem dX14_applied_6 : decode cX14_applied 6 = .ok (.bipush 11, 2) := by decide +kernel
theorem dX14_applied_8 : decode cX14_applied 8 = .ok (.if_icmp .gt 12, 3) := by decide +kernel
theorem dX14_applied_11 : decode cX14_applied 11 = .ok (.aload_n 0, 1) := by decide +kernel
theorem dX14_applied_12 : decode cX14_applied 12 = .ok (.getfield 237, 3) := by decide +kernel
theorem dX14_applied_15 : decode cX14_applied 15 = .ok (.iload_n 1, 1) := by decide +kernel
theorem dX14_applied_16 : decode cX14_applied 16 = .ok (.iaload, 1) := by decide +kernel
theorem dX14_applied_17 : decode cX14_applied 17 = .ok (.goto 4, 3) := by decide +kernel
theorem dX14_applied_20 : decode cX14_applied 20 = .ok (.iconst 0, 1) := by decide +kernel
theorem dX14_applied_21 : decode cX14_applied 21 = .ok (.ireturn, 1) := by decide +kernel
theorem dX14_argument_0 : decode cX14_argument 0 = .ok (.aload_n 0, 1) := by decide +kernel
theorem dX14_argument_1 : decode cX14_argument 1 = .ok (.getfield 970, 3) := by decide +kernel
theorem dX14_argument_4 : decode cX14_argument 4 = .ok (.bipush 8, 2) := by decide +kernel
theorem dX14_argument_6 : decode cX14_argument 6 = .ok (.if_icmp .ne 5, 3) := by decide +kernel
theorem dX14_argument_11 : decode cX14_argument 11 = .ok (.aload_n 0, 1) := by decide +kernel
theorem dX14_argument_12 : decode cX14_argument 12 = .ok (.getfield 158, 3) := by decide +kernel
theorem dX14_argument_15 : decode cX14_argument 15 = .ok (.aload_n 0, 1) := by decide +kernel
theorem dX14_argument_16 : decode cX14_argument 16 = .ok (.getfield 970, 3) := by decide +kernel
theorem dX14_argument_19 : decode cX14_argument 19 = .ok (.lload_n 1, 1) := by decide +kernel
theorem dX14_argument_20 : decode cX14_argument 20 = .ok (.lastore, 1) := by decide +kernel
theorem dX14_argument_21 : decode cX14_argument 21 = .ok (.aload_n 0, 1) := by decide +kernel
theorem dX14_argument_22 : decode cX14_argument 22 = .ok (.dup, 1) := by decide +kernel
theorem dX14_argument_23 : decode cX14_argument 23 = .ok (.getfield 970, 3) := by decide +kernel
theorem dX14_argument_26 : decode cX14_argument 26 = .ok (.iconst 1, 1) := by decide +kernel
theorem dX14_argument_27 : decode cX14_argument 27 = .ok (.iadd, 1) := by decide +kernel
theorem dX14_argument_28 : decode cX14_argument 28 = .ok (.putfield 970, 3) := by decide +kernel

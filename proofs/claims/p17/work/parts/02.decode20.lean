theorem dX12_steps_1 : decode cX12_steps 1 = .ok (.getfield 52, 3) := by decide +kernel
theorem dX12_steps_4 : decode cX12_steps 4 = .ok (.getfield 202, 3) := by decide +kernel
theorem dX12_steps_7 : decode cX12_steps 7 = .ok (.ireturn, 1) := by decide +kernel
theorem dX12_strays_0 : decode cX12_strays 0 = .ok (.aload_n 0, 1) := by decide +kernel
theorem dX12_strays_1 : decode cX12_strays 1 = .ok (.getfield 52, 3) := by decide +kernel
theorem dX12_strays_4 : decode cX12_strays 4 = .ok (.getfield 259, 3) := by decide +kernel
theorem dX12_strays_7 : decode cX12_strays 7 = .ok (.ireturn, 1) := by decide +kernel
theorem dX12_unitAt_0 : decode cX12_unitAt 0 = .ok (.iload_n 1, 1) := by decide +kernel
theorem dX12_unitAt_1 : decode cX12_unitAt 1 = .ok (.ifCond .lt 11, 3) := by decide +kernel
theorem dX12_unitAt_4 : decode cX12_unitAt 4 = .ok (.iload_n 1, 1) := by decide +kernel
theorem dX12_unitAt_5 : decode cX12_unitAt 5 = .ok (.aload_n 0, 1) := by decide +kernel
theorem dX12_unitAt_6 : decode cX12_unitAt 6 = .ok (.getfield 94, 3) := by decide +kernel
theorem dX12_unitAt_9 : decode cX12_unitAt 9 = .ok (.if_icmp .lt 7, 3) := by decide +kernel
theorem dX12_unitAt_12 : decode cX12_unitAt 12 = .ok (.aconst_null, 1) := by decide +kernel
theorem dX12_unitAt_13 : decode cX12_unitAt 13 = .ok (.goto 9, 3) := by decide +kernel
theorem dX12_unitAt_16 : decode cX12_unitAt 16 = .ok (.aload_n 0, 1) := by decide +kernel
theorem dX12_unitAt_17 : decode cX12_unitAt 17 = .ok (.getfield 24, 3) := by decide +kernel
theorem dX12_unitAt_20 : decode cX12_unitAt 20 = .ok (.iload_n 1, 1) := by decide +kernel
theorem dX12_unitAt_21 : decode cX12_unitAt 21 = .ok (.aaload, 1) := by decide +kernel
theorem dX12_unitAt_22 : decode cX12_unitAt 22 = .ok (.areturn, 1) := by decide +kernel
theorem dX12_verify_0 : decode cX12_verify 0 = .ok (.aload_n 0, 1) := by decide +kernel
theorem dX12_verify_1 : decode cX12_verify 1 = .ok (.iconst (-1), 1) := by decide +kernel
theorem dX12_verify_2 : decode cX12_verify 2 = .ok (.putfield 74, 3) := by decide +kernel
theorem dX12_verify_5 : decode cX12_verify 5 = .ok (.aload_n 0, 1) := by decide +kernel
theorem dX12_verify_6 : decode cX12_verify 6 = .ok (.iconst (-1), 1) := by decide +kernel
theorem dX12_verify_7 : decode cX12_verify 7 = .ok (.putfield 77, 3) := by decide +kernel
theorem dX12_verify_10 : decode cX12_verify 10 = .ok (.aload_n 0, 1) := by decide +kernel
theorem dX12_verify_11 : decode cX12_verify 11 = .ok (.iload_n 1, 1) := by decide +kernel
theorem dX12_verify_12 : decode cX12_verify 12 = .ok (.invokevirtual 116, 3) := by decide +kernel
theorem dX12_verify_15 : decode cX12_verify 15 = .ok (.astore_n 2, 1) := by decide +kernel
theorem dX12_verify_16 : decode cX12_verify 16 = .ok (.aload_n 2, 1) := by decide +kernel
theorem dX12_verify_17 : decode cX12_verify 17 = .ok (.ifnonnull 5, 3) := by decide +kernel
theorem dX12_verify_20 : decode cX12_verify 20 = .ok (.iconst (-1), 1) := by decide +kernel
theorem dX12_verify_21 : decode cX12_verify 21 = .ok (.ireturn, 1) := by decide +kernel
theorem dX12_verify_22 : decode cX12_verify 22 = .ok (.iconst 0, 1) := by decide +kernel
theorem dX12_verify_23 : decode cX12_verify 23 = .ok (.istore_n 3, 1) := by decide +kernel
theorem dX12_verify_24 : decode cX12_verify 24 = .ok (.aload_n 2, 1) := by decide +kernel
theorem dX12_verify_25 : decode cX12_verify 25 = .ok (.getfield 139, 3) := by decide +kernel
theorem dX12_verify_28 : decode cX12_verify 28 = .ok (.ifCond .ne 57, 3) := by decide +kernel
theorem dX12_verify_31 : decode cX12_verify 31 = .ok (.aload_n 2, 1) := by decide +kernel
theorem dX12_verify_32 : decode cX12_verify 32 = .ok (.getfield 143, 3) := by decide +kernel
theorem dX12_verify_35 : decode cX12_verify 35 = .ok (.ifCond .ge 50, 3) := by decide +kernel
theorem dX12_verify_38 : decode cX12_verify 38 = .ok (.iload_n 3, 1) := by decide +kernel
theorem dX12_verify_39 : decode cX12_verify 39 = .ok (.aload_n 2, 1) := by decide +kernel
theorem dX12_verify_40 : decode cX12_verify 40 = .ok (.getfield 123, 3) := by decide +kernel
theorem dX12_verify_43 : decode cX12_verify 43 = .ok (.if_icmp .ge 42, 3) := by decide +kernel
theorem dX12_verify_46 : decode cX12_verify 46 = .ok (.aload_n 2, 1) := by decide +kernel
theorem dX12_verify_47 : decode cX12_verify 47 = .ok (.aload_n 0, 1) := by decide +kernel
theorem dX12_verify_48 : decode cX12_verify 48 = .ok (.getfield 38, 3) := by decide +kernel
theorem dX12_verify_51 : decode cX12_verify 51 = .ok (.aload_n 2, 1) := by decide +kernel
theorem dX12_verify_52 : decode cX12_verify 52 = .ok (.aload_n 2, 1) := by decide +kernel
theorem dX12_verify_53 : decode cX12_verify 53 = .ok (.iload_n 3, 1) := by decide +kernel
theorem dX12_verify_54 : decode cX12_verify 54 = .ok (.invokevirtual 144, 3) := by decide +kernel
theorem dX12_verify_57 : decode cX12_verify 57 = .ok (.invokevirtual 147, 3) := by decide +kernel
theorem dX12_verify_60 : decode cX12_verify 60 = .ok (.putfield 151, 3) := by decide +kernel
theorem dX12_verify_63 : decode cX12_verify 63 = .ok (.aload_n 2, 1) := by decide +kernel
theorem dX12_verify_64 : decode cX12_verify 64 = .ok (.aload_n 2, 1) := by decide +kernel
theorem dX12_verify_65 : decode cX12_verify 65 = .ok (.getfield 151, 3) := by decide +kernel
theorem dX12_verify_68 : decode cX12_verify 68 = .ok (.ifCond .ge 7, 3) := by decide +kernel
theorem dX12_verify_71 : decode cX12_verify 71 = .ok (.iconst (-1), 1) := by decide +kernel
theorem dX12_verify_72 : decode cX12_verify 72 = .ok (.goto 4, 3) := by decide +kernel
theorem dX12_verify_75 : decode cX12_verify 75 = .ok (.iload_n 3, 1) := by decide +kernel
theorem dX12_verify_76 : decode cX12_verify 76 = .ok (.putfield 143, 3) := by decide +kernel
theorem dX12_verify_79 : decode cX12_verify 79 = .ok (.iinc 3 1, 3) := by decide +kernel
theorem dX12_verify_82 : decode cX12_verify 82 = .ok (.goto (-58), 3) := by decide +kernel
theorem dX12_verify_85 : decode cX12_verify 85 = .ok (.aload_n 2, 1) := by decide +kernel
theorem dX12_verify_86 : decode cX12_verify 86 = .ok (.iconst 1, 1) := by decide +kernel
theorem dX12_verify_87 : decode cX12_verify 87 = .ok (.putfield 139, 3) := by decide +kernel
theorem dX12_verify_90 : decode cX12_verify 90 = .ok (.aload_n 0, 1) := by decide +kernel
theorem dX12_verify_91 : decode cX12_verify 91 = .ok (.aload_n 2, 1) := by decide +kernel
theorem dX12_verify_92 : decode cX12_verify 92 = .ok (.getfield 143, 3) := by decide +kernel
theorem dX12_verify_95 : decode cX12_verify 95 = .ok (.putfield 74, 3) := by decide +kernel
theorem dX12_verify_98 : decode cX12_verify 98 = .ok (.aload_n 0, 1) := by decide +kernel
theorem dX12_verify_99 : decode cX12_verify 99 = .ok (.aload_n 2, 1) := by decide +kernel
theorem dX12_verify_100 : decode cX12_verify 100 = .ok (.getfield 151, 3) := by decide +kernel
theorem dX12_verify_103 : decode cX12_verify 103 = .ok (.putfield 77, 3) := by decide +kernel
theorem dX12_verify_106 : decode cX12_verify 106 = .ok (.aload_n 0, 1) := by decide +kernel
theorem dX12_verify_107 : decode cX12_verify 107 = .ok (.getfield 74, 3) := by decide +kernel
theorem dX12_verify_110 : decode cX12_verify 110 = .ok (.ifCond .ge 7, 3) := by decide +kernel
theorem dX12_verify_113 : decode cX12_verify 113 = .ok (.iconst 0, 1) := by decide +kernel
theorem dX12_verify_114 : decode cX12_verify 114 = .ok (.goto 4, 3) := by decide +kernel
theorem dX12_verify_117 : decode cX12_verify 117 = .ok (.iconst 1, 1) := by decide +kernel
theorem dX12_verify_118 : decode cX12_verify 118 = .ok (.ireturn, 1) := by decide +kernel
theorem dX12_write_0 : decode cX12_write 0 = .ok (.aload_n 0, 1) := by decide +kernel
theorem dX12_write_1 : decode cX12_write 1 = .ok (.iload_n 1, 1) := by decide +kernel
theorem dX12_write_2 : decode cX12_write 2 = .ok (.invokevirtual 152, 3) := by decide +kernel
theorem dX12_write_5 : decode cX12_write 5 = .ok (.astore_n 2, 1) := by decide +kernel
theorem dX12_write_6 : decode cX12_write 6 = .ok (.aload_n 2, 1) := by decide +kernel
theorem dX12_write_7 : decode cX12_write 7 = .ok (.ifnonnull 5, 3) := by decide +kernel
theorem dX12_write_10 : decode cX12_write 10 = .ok (.iconst (-1), 1) := by decide +kernel
theorem dX12_write_11 : decode cX12_write 11 = .ok (.ireturn, 1) := by decide +kernel
theorem dX12_write_12 : decode cX12_write 12 = .ok (.iload_n 1, 1) := by decide +kernel
theorem dX12_write_13 : decode cX12_write 13 = .ok (.aload_n 0, 1) := by decide +kernel
theorem dX12_write_14 : decode cX12_write 14 = .ok (.getfield 80, 3) := by decide +kernel
theorem dX12_write_17 : decode cX12_write 17 = .ok (.if_icmp .eq 56, 3) := by decide +kernel
theorem dX12_write_20 : decode cX12_write 20 = .ok (.aload_n 0, 1) := by decide +kernel
theorem dX12_write_21 : decode cX12_write 21 = .ok (.getfield 45, 3) := by decide +kernel
theorem dX12_write_24 : decode cX12_write 24 = .ok (.aload_n 2, 1) := by decide +kernel
theorem dX12_write_25 : decode cX12_write 25 = .ok (.iconst 0, 1) := by decide +kernel
theorem dX12_write_26 : decode cX12_write 26 = .ok (.invokevirtual 163, 3) := by decide +kernel
theorem dX12_write_29 : decode cX12_write 29 = .ok (.iconst 0, 1) := by decide +kernel
theorem dX12_write_30 : decode cX12_write 30 = .ok (.istore_n 3, 1) := by decide +kernel
theorem dX12_write_31 : decode cX12_write 31 = .ok (.iload_n 3, 1) := by decide +kernel
theorem dX12_write_32 : decode cX12_write 32 = .ok (.aload_n 2, 1) := by decide +kernel
theorem dX12_write_33 : decode cX12_write 33 = .ok (.getfield 123, 3) := by decide +kernel
theorem dX12_write_36 : decode cX12_write 36 = .ok (.if_icmp .ge 21, 3) := by decide +kernel
theorem dX12_write_39 : decode cX12_write 39 = .ok (.aload_n 0, 1) := by decide +kernel
theorem dX12_write_40 : decode cX12_write 40 = .ok (.getfield 45, 3) := by decide +kernel
theorem dX12_write_43 : decode cX12_write 43 = .ok (.aload_n 2, 1) := by decide +kernel
theorem dX12_write_44 : decode cX12_write 44 = .ok (.iload_n 3, 1) := by decide +kernel
theorem dX12_write_45 : decode cX12_write 45 = .ok (.invokevirtual 144, 3) := by decide +kernel
theorem dX12_write_48 : decode cX12_write 48 = .ok (.invokevirtual 167, 3) := by decide +kernel
theorem dX12_write_51 : decode cX12_write 51 = .ok (.iinc 3 1, 3) := by decide +kernel
theorem dX12_write_54 : decode cX12_write 54 = .ok (.goto (-23), 3) := by decide +kernel
theorem dX12_write_57 : decode cX12_write 57 = .ok (.aload_n 0, 1) := by decide +kernel
theorem dX12_write_58 : decode cX12_write 58 = .ok (.getfield 45, 3) := by decide +kernel
theorem dX12_write_61 : decode cX12_write 61 = .ok (.aload_n 0, 1) := by decide +kernel
theorem dX12_write_62 : decode cX12_write 62 = .ok (.getfield 16, 3) := by decide +kernel
theorem dX12_write_65 : decode cX12_write 65 = .ok (.invokevirtual 171, 3) := by decide +kernel
theorem dX12_write_68 : decode cX12_write 68 = .ok (.aload_n 0, 1) := by decide +kernel
theorem dX12_write_69 : decode cX12_write 69 = .ok (.iload_n 1, 1) := by decide +kernel
theorem dX12_write_70 : decode cX12_write 70 = .ok (.putfield 80, 3) := by decide +kernel
theorem dX12_write_73 : decode cX12_write 73 = .ok (.aload_n 0, 1) := by decide +kernel
theorem dX12_write_74 : decode cX12_write 74 = .ok (.getfield 16, 3) := by decide +kernel
theorem dX12_write_77 : decode cX12_write 77 = .ok (.getfield 83, 3) := by decide +kernel
theorem dX12_write_80 : decode cX12_write 80 = .ok (.ireturn, 1) := by decide +kernel
theorem dX1_beginBody_0 : decode cX1_beginBody 0 = .ok (.iconst 0, 1) := by decide +kernel
theorem dX1_beginBody_1 : decode cX1_beginBody 1 = .ok (.istore_n 1, 1) := by decide +kernel
theorem dX1_beginBody_2 : decode cX1_beginBody 2 = .ok (.iload_n 1, 1) := by decide +kernel
theorem dX1_beginBody_3 : decode cX1_beginBody 3 = .ok (.bipush 48, 2) := by decide +kernel
theorem dX1_beginBody_5 : decode cX1_beginBody 5 = .ok (.if_icmp .ge 16, 3) := by decide +kernel
theorem dX1_beginBody_8 : decode cX1_beginBody 8 = .ok (.aload_n 0, 1) := by decide +kernel
theorem dX1_beginBody_9 : decode cX1_beginBody 9 = .ok (.getfield 29, 3) := by decide +kernel
theorem dX1_beginBody_12 : decode cX1_beginBody 12 = .ok (.iload_n 1, 1) := by decide +kernel
theorem dX1_beginBody_13 : decode cX1_beginBody 13 = .ok (.iconst 0, 1) := by decide +kernel
theorem dX1_beginBody_14 : decode cX1_beginBody 14 = .ok (.bastore, 1) := by decide +kernel
theorem dX1_beginBody_15 : decode cX1_beginBody 15 = .ok (.iinc 1 1, 3) := by decide +kernel
theorem dX1_beginBody_18 : decode cX1_beginBody 18 = .ok (.goto (-16), 3) := by decide +kernel
theorem dX1_beginBody_21 : decode cX1_beginBody 21 = .ok (.aload_n 0, 1) := by decide +kernel
theorem dX1_beginBody_22 : decode cX1_beginBody 22 = .ok (.getfield 32, 3) := by decide +kernel
theorem dX1_beginBody_25 : decode cX1_beginBody 25 = .ok (.aload_n 0, 1) := by decide +kernel
theorem dX1_beginBody_26 : decode cX1_beginBody 26 = .ok (.getfield 36, 3) := by decide +kernel
theorem dX1_beginBody_29 : decode cX1_beginBody 29 = .ok (.getfield 78, 3) := by decide +kernel
theorem dX1_beginBody_32 : decode cX1_beginBody 32 = .ok (.invokevirtual 81, 3) := by decide +kernel
theorem dX1_beginBody_35 : decode cX1_beginBody 35 = .ok (.istore_n 1, 1) := by decide +kernel
theorem dX1_beginBody_36 : decode cX1_beginBody 36 = .ok (.iload_n 1, 1) := by decide +kernel
theorem dX1_beginBody_37 : decode cX1_beginBody 37 = .ok (.invokestatic 87, 3) := by decide +kernel
theorem dX1_beginBody_40 : decode cX1_beginBody 40 = .ok (.istore_n 2, 1) := by decide +kernel
theorem dX1_beginBody_41 : decode cX1_beginBody 41 = .ok (.iconst 0, 1) := by decide +kernel
theorem dX1_beginBody_42 : decode cX1_beginBody 42 = .ok (.istore_n 3, 1) := by decide +kernel

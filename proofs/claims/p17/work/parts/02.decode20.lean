theorem dX12_verify_85 : decode cX12_verify 85 = .ok (.aload_n 2, 1) := by decide +kernel
theorem dX12_verify_86 : decode cX12_verify 86 = .ok (.iconst 1, 1) := by decide +kernel
theorem dX12_verify_87 : decode cX12_verify 87 = .ok (.putfield 139, 3) := by decide +kernel
theorem dX12_verify_90 : decode cX12_verify 90 = .ok (.aload_n 0, 1) := by decide +kernel
theorem dX12_verify_91 : decode cX12_verify 91 = .ok (.aload_n 2, 1) := by decide +kernel
theorem dX12_verify_92 : decode cX12_verify 92 = .ok (.getfield 143, 3) := by decide +kernel
theorem dX12_verify_95 : decode cX12_verify 95 = .ok (.putfield 74, 3) := by decide +kernel
theorem dX12_verify_98 : decode cX12_verify 98 = .ok (.aload_n 0, 1) := by decide +kernel
theorem dX12_verify_99 : decode cX12_verify 99 = .ok (.aload_n 2, 1) := by decide +kernel
theorem dX12_verify_100 : decode cX12_verify 100 = .ok (.getfield 151, 3) := by decide +kernel
theorem dX12_verify_103 : decode cX12_verify 103 = .ok (.putfield 77, 3) := by decide +kernel
theorem dX12_verify_106 : decode cX12_verify 106 = .ok (.aload_n 0, 1) := by decide +kernel
theorem dX12_verify_107 : decode cX12_verify 107 = .ok (.getfield 74, 3) := by decide +kernel
theorem dX12_verify_110 : decode cX12_verify 110 = .ok (.ifCond .ge 7, 3) := by decide +kernel
theorem dX12_verify_113 : decode cX12_verify 113 = .ok (.iconst 0, 1) := by decide +kernel
theorem dX12_verify_114 : decode cX12_verify 114 = .ok (.goto 4, 3) := by decide +kernel
theorem dX12_verify_117 : decode cX12_verify 117 = .ok (.iconst 1, 1) := by decide +kernel
theorem dX12_verify_118 : decode cX12_verify 118 = .ok (.ireturn, 1) := by decide +kernel
theorem dX12_write_0 : decode cX12_write 0 = .ok (.aload_n 0, 1) := by decide +kernel
theorem dX12_write_1 : decode cX12_write 1 = .ok (.iload_n 1, 1) := by decide +kernel
theorem dX12_write_2 : decode cX12_write 2 = .ok (.invokevirtual 152, 3) := by decide +kernel
theorem dX12_write_5 : decode cX12_write 5 = .ok (.astore_n 2, 1) := by decide +kernel
theorem dX12_write_6 : decode cX12_write 6 = .ok (.aload_n 2, 1) := by decide +kernel
theorem dX12_write_7 : decode cX12_write 7 = .ok (.ifnonnull 5, 3) := by decide +kernel
theorem dX12_write_10 : decode cX12_write 10 = .ok (.iconst (-1), 1) := by decide +kernel
theorem dX12_write_11 : decode cX12_write 11 = .ok (.ireturn, 1) := by decide +kernel
theorem dX12_write_12 : decode cX12_write 12 = .ok (.iload_n 1, 1) := by decide +kernel
theorem dX12_write_13 : decode cX12_write 13 = .ok (.aload_n 0, 1) := by decide +kernel
theorem dX12_write_14 : decode cX12_write 14 = .ok (.getfield 80, 3) := by decide +kernel
theorem dX12_write_17 : decode cX12_write 17 = .ok (.if_icmp .eq 56, 3) := by decide +kernel
theorem dX12_write_20 : decode cX12_write 20 = .ok (.aload_n 0, 1) := by decide +kernel
theorem dX12_write_21 : decode cX12_write 21 = .ok (.getfield 45, 3) := by decide +kernel
theorem dX12_write_24 : decode cX12_write 24 = .ok (.aload_n 2, 1) := by decide +kernel
theorem dX12_write_25 : decode cX12_write 25 = .ok (.iconst 0, 1) := by decide +kernel
theorem dX12_write_26 : decode cX12_write 26 = .ok (.invokevirtual 163, 3) := by decide +kernel
theorem dX12_write_29 : decode cX12_write 29 = .ok (.iconst 0, 1) := by decide +kernel
theorem dX12_write_30 : decode cX12_write 30 = .ok (.istore_n 3, 1) := by decide +kernel
theorem dX12_write_31 : decode cX12_write 31 = .ok (.iload_n 3, 1) := by decide +kernel
theorem dX12_write_32 : decode cX12_write 32 = .ok (.aload_n 2, 1) := by decide +kernel
theorem dX12_write_33 : decode cX12_write 33 = .ok (.getfield 123, 3) := by decide +kernel
theorem dX12_write_36 : decode cX12_write 36 = .ok (.if_icmp .ge 21, 3) := by decide +kernel
theorem dX12_write_39 : decode cX12_write 39 = .ok (.aload_n 0, 1) := by decide +kernel
theorem dX12_write_40 : decode cX12_write 40 = .ok (.getfield 45, 3) := by decide +kernel
theorem dX12_write_43 : decode cX12_write 43 = .ok (.aload_n 2, 1) := by decide +kernel
theorem dX12_write_44 : decode cX12_write 44 = .ok (.iload_n 3, 1) := by decide +kernel
theorem dX12_write_45 : decode cX12_write 45 = .ok (.invokevirtual 144, 3) := by decide +kernel
theorem dX12_write_48 : decode cX12_write 48 = .ok (.invokevirtual 167, 3) := by decide +kernel
theorem dX12_write_51 : decode cX12_write 51 = .ok (.iinc 3 1, 3) := by decide +kernel
theorem dX12_write_54 : decode cX12_write 54 = .ok (.goto (-23), 3) := by decide +kernel
theorem dX12_write_57 : decode cX12_write 57 = .ok (.aload_n 0, 1) := by decide +kernel
theorem dX12_write_58 : decode cX12_write 58 = .ok (.getfield 45, 3) := by decide +kernel
theorem dX12_write_61 : decode cX12_write 61 = .ok (.aload_n 0, 1) := by decide +kernel
theorem dX12_write_62 : decode cX12_write 62 = .ok (.getfield 16, 3) := by decide +kernel
theorem dX12_write_65 : decode cX12_write 65 = .ok (.invokevirtual 171, 3) := by decide +kernel
theorem dX12_write_68 : decode cX12_write 68 = .ok (.aload_n 0, 1) := by decide +kernel
theorem dX12_write_69 : decode cX12_write 69 = .ok (.iload_n 1, 1) := by decide +kernel
theorem dX12_write_70 : decode cX12_write 70 = .ok (.putfield 80, 3) := by decide +kernel
theorem dX12_write_73 : decode cX12_write 73 = .ok (.aload_n 0, 1) := by decide +kernel
theorem dX12_write_74 : decode cX12_write 74 = .ok (.getfield 16, 3) := by decide +kernel
theorem dX12_write_77 : decode cX12_write 77 = .ok (.getfield 83, 3) := by decide +kernel
theorem dX12_write_80 : decode cX12_write 80 = .ok (.ireturn, 1) := by decide +kernel
theorem dX1_beginBody_0 : decode cX1_beginBody 0 = .ok (.iconst 0, 1) := by decide +kernel
theorem dX1_beginBody_1 : decode cX1_beginBody 1 = .ok (.istore_n 1, 1) := by decide +kernel
theorem dX1_beginBody_2 : decode cX1_beginBody 2 = .ok (.iload_n 1, 1) := by decide +kernel
theorem dX1_beginBody_3 : decode cX1_beginBody 3 = .ok (.bipush 48, 2) := by decide +kernel
theorem dX1_beginBody_5 : decode cX1_beginBody 5 = .ok (.if_icmp .ge 16, 3) := by decide +kernel
theorem dX1_beginBody_8 : decode cX1_beginBody 8 = .ok (.aload_n 0, 1) := by decide +kernel
theorem dX1_beginBody_9 : decode cX1_beginBody 9 = .ok (.getfield 29, 3) := by decide +kernel
theorem dX1_beginBody_12 : decode cX1_beginBody 12 = .ok (.iload_n 1, 1) := by decide +kernel
theorem dX1_beginBody_13 : decode cX1_beginBody 13 = .ok (.iconst 0, 1) := by decide +kernel
theorem dX1_beginBody_14 : decode cX1_beginBody 14 = .ok (.bastore, 1) := by decide +kernel
theorem dX1_beginBody_15 : decode cX1_beginBody 15 = .ok (.iinc 1 1, 3) := by decide +kernel
theorem dX1_beginBody_18 : decode cX1_beginBody 18 = .ok (.goto (-16), 3) := by decide +kernel
theorem dX1_beginBody_21 : decode cX1_beginBody 21 = .ok (.aload_n 0, 1) := by decide +kernel
theorem dX1_beginBody_22 : decode cX1_beginBody 22 = .ok (.getfield 32, 3) := by decide +kernel
theorem dX1_beginBody_25 : decode cX1_beginBody 25 = .ok (.aload_n 0, 1) := by decide +kernel
theorem dX1_beginBody_26 : decode cX1_beginBody 26 = .ok (.getfield 36, 3) := by decide +kernel
theorem dX1_beginBody_29 : decode cX1_beginBody 29 = .ok (.getfield 78, 3) := by decide +kernel
theorem dX1_beginBody_32 : decode cX1_beginBody 32 = .ok (.invokevirtual 81, 3) := by decide +kernel
theorem dX1_beginBody_35 : decode cX1_beginBody 35 = .ok (.istore_n 1, 1) := by decide +kernel
theorem dX1_beginBody_36 : decode cX1_beginBody 36 = .ok (.iload_n 1, 1) := by decide +kernel
theorem dX1_beginBody_37 : decode cX1_beginBody 37 = .ok (.invokestatic 87, 3) := by decide +kernel
theorem dX1_beginBody_40 : decode cX1_beginBody 40 = .ok (.istore_n 2, 1) := by decide +kernel
theorem dX1_beginBody_41 : decode cX1_beginBody 41 = .ok (.iconst 0, 1) := by decide +kernel
theorem dX1_beginBody_42 : decode cX1_beginBody 42 = .ok (.istore_n 3, 1) := by decide +kernel
theorem dX1_beginBody_43 : decode cX1_beginBody 43 = .ok (.iconst 0, 1) := by decide +kernel
theorem dX1_beginBody_44 : decode cX1_beginBody 44 = .ok (.istore 4, 2) := by decide +kernel
theorem dX1_beginBody_46 : decode cX1_beginBody 46 = .ok (.iload 4, 2) := by decide +kernel
theorem dX1_beginBody_48 : decode cX1_beginBody 48 = .ok (.iload_n 2, 1) := by decide +kernel
theorem dX1_beginBody_49 : decode cX1_beginBody 49 = .ok (.if_icmp .ge 55, 3) := by decide +kernel
theorem dX1_beginBody_52 : decode cX1_beginBody 52 = .ok (.iload_n 1, 1) := by decide +kernel
theorem dX1_beginBody_53 : decode cX1_beginBody 53 = .ok (.iload 4, 2) := by decide +kernel
theorem dX1_beginBody_55 : decode cX1_beginBody 55 = .ok (.invokestatic 92, 3) := by decide +kernel
theorem dX1_beginBody_58 : decode cX1_beginBody 58 = .ok (.istore 5, 2) := by decide +kernel
theorem dX1_beginBody_60 : decode cX1_beginBody 60 = .ok (.aload_n 0, 1) := by decide +kernel
theorem dX1_beginBody_61 : decode cX1_beginBody 61 = .ok (.iload_n 3, 1) := by decide +kernel
theorem dX1_beginBody_62 : decode cX1_beginBody 62 = .ok (.iload 5, 2) := by decide +kernel
theorem dX1_beginBody_64 : decode cX1_beginBody 64 = .ok (.invokestatic 96, 3) := by decide +kernel
theorem dX1_beginBody_67 : decode cX1_beginBody 67 = .ok (.invokevirtual 99, 3) := by decide +kernel
theorem dX1_beginBody_70 : decode cX1_beginBody 70 = .ok (.iload 5, 2) := by decide +kernel
theorem dX1_beginBody_72 : decode cX1_beginBody 72 = .ok (.iconst 2, 1) := by decide +kernel
theorem dX1_beginBody_73 : decode cX1_beginBody 73 = .ok (.if_icmp .ne 11, 3) := by decide +kernel
theorem dX1_beginBody_76 : decode cX1_beginBody 76 = .ok (.aload_n 0, 1) := by decide +kernel
theorem dX1_beginBody_77 : decode cX1_beginBody 77 = .ok (.iload_n 3, 1) := by decide +kernel
theorem dX1_beginBody_78 : decode cX1_beginBody 78 = .ok (.iconst 1, 1) := by decide +kernel
theorem dX1_beginBody_79 : decode cX1_beginBody 79 = .ok (.iadd, 1) := by decide +kernel
theorem dX1_beginBody_80 : decode cX1_beginBody 80 = .ok (.iconst 3, 1) := by decide +kernel
theorem dX1_beginBody_81 : decode cX1_beginBody 81 = .ok (.invokevirtual 99, 3) := by decide +kernel
theorem dX1_beginBody_84 : decode cX1_beginBody 84 = .ok (.iload_n 3, 1) := by decide +kernel
theorem dX1_beginBody_85 : decode cX1_beginBody 85 = .ok (.iload 5, 2) := by decide +kernel
theorem dX1_beginBody_87 : decode cX1_beginBody 87 = .ok (.iconst 2, 1) := by decide +kernel
theorem dX1_beginBody_88 : decode cX1_beginBody 88 = .ok (.if_icmp .ne 7, 3) := by decide +kernel
theorem dX1_beginBody_91 : decode cX1_beginBody 91 = .ok (.iconst 2, 1) := by decide +kernel
theorem dX1_beginBody_92 : decode cX1_beginBody 92 = .ok (.goto 4, 3) := by decide +kernel
theorem dX1_beginBody_95 : decode cX1_beginBody 95 = .ok (.iconst 1, 1) := by decide +kernel
theorem dX1_beginBody_96 : decode cX1_beginBody 96 = .ok (.iadd, 1) := by decide +kernel
theorem dX1_beginBody_97 : decode cX1_beginBody 97 = .ok (.istore_n 3, 1) := by decide +kernel
theorem dX1_beginBody_98 : decode cX1_beginBody 98 = .ok (.iinc 4 1, 3) := by decide +kernel
theorem dX1_beginBody_101 : decode cX1_beginBody 101 = .ok (.goto (-55), 3) := by decide +kernel
theorem dX1_beginBody_104 : decode cX1_beginBody 104 = .ok (.aload_n 0, 1) := by decide +kernel
theorem dX1_beginBody_105 : decode cX1_beginBody 105 = .ok (.iconst 0, 1) := by decide +kernel
theorem dX1_beginBody_106 : decode cX1_beginBody 106 = .ok (.putfield 103, 3) := by decide +kernel
theorem dX1_beginBody_109 : decode cX1_beginBody 109 = .ok (.aload_n 0, 1) := by decide +kernel
theorem dX1_beginBody_110 : decode cX1_beginBody 110 = .ok (.iconst 0, 1) := by decide +kernel
theorem dX1_beginBody_111 : decode cX1_beginBody 111 = .ok (.invokevirtual 106, 3) := by decide +kernel
theorem dX1_beginBody_114 : decode cX1_beginBody 114 = .ok (.return_, 1) := by decide +kernel
theorem dX1_comeTo_0 : decode cX1_comeTo 0 = .ok (.iload_n 1, 1) := by decide +kernel
theorem dX1_comeTo_1 : decode cX1_comeTo 1 = .ok (.ifCond .lt 25, 3) := by decide +kernel
theorem dX1_comeTo_4 : decode cX1_comeTo 4 = .ok (.iload_n 1, 1) := by decide +kernel
theorem dX1_comeTo_5 : decode cX1_comeTo 5 = .ok (.aload_n 0, 1) := by decide +kernel
theorem dX1_comeTo_6 : decode cX1_comeTo 6 = .ok (.getfield 36, 3) := by decide +kernel
theorem dX1_comeTo_9 : decode cX1_comeTo 9 = .ok (.getfield 50, 3) := by decide +kernel
theorem dX1_comeTo_12 : decode cX1_comeTo 12 = .ok (.if_icmp .ge 14, 3) := by decide +kernel
theorem dX1_comeTo_15 : decode cX1_comeTo 15 = .ok (.aload_n 0, 1) := by decide +kernel
theorem dX1_comeTo_16 : decode cX1_comeTo 16 = .ok (.getfield 12, 3) := by decide +kernel
theorem dX1_comeTo_19 : decode cX1_comeTo 19 = .ok (.iload_n 1, 1) := by decide +kernel
theorem dX1_comeTo_20 : decode cX1_comeTo 20 = .ok (.invokevirtual 68, 3) := by decide +kernel
theorem dX1_comeTo_23 : decode cX1_comeTo 23 = .ok (.ifCond .eq 4, 3) := by decide +kernel
theorem dX1_comeTo_26 : decode cX1_comeTo 26 = .ok (.return_, 1) := by decide +kernel
theorem dX1_comeTo_27 : decode cX1_comeTo 27 = .ok (.iload_n 1, 1) := by decide +kernel
theorem dX1_comeTo_28 : decode cX1_comeTo 28 = .ok (.bipush 48, 2) := by decide +kernel
theorem dX1_comeTo_30 : decode cX1_comeTo 30 = .ok (.imul, 1) := by decide +kernel
theorem dX1_comeTo_31 : decode cX1_comeTo 31 = .ok (.istore_n 2, 1) := by decide +kernel
theorem dX1_comeTo_32 : decode cX1_comeTo 32 = .ok (.aload_n 0, 1) := by decide +kernel
theorem dX1_comeTo_33 : decode cX1_comeTo 33 = .ok (.getfield 22, 3) := by decide +kernel
theorem dX1_comeTo_36 : decode cX1_comeTo 36 = .ok (.iload_n 1, 1) := by decide +kernel
theorem dX1_comeTo_37 : decode cX1_comeTo 37 = .ok (.baload, 1) := by decide +kernel
theorem dX1_comeTo_38 : decode cX1_comeTo 38 = .ok (.ifCond .ne 7, 3) := by decide +kernel
theorem dX1_comeTo_41 : decode cX1_comeTo 41 = .ok (.iconst 1, 1) := by decide +kernel
theorem dX1_comeTo_42 : decode cX1_comeTo 42 = .ok (.goto 4, 3) := by decide +kernel

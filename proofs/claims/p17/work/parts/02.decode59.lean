theorem dX5_setLocal_18 : decode cX5_setLocal 18 = .ok (.if_icmp .ge 18, 3) := by decide +kernel
theorem dX5_setLocal_21 : decode cX5_setLocal 21 = .ok (.iload 4, 2) := by decide +kernel
theorem dX5_setLocal_23 : decode cX5_setLocal 23 = .ok (.ifCond .lt 13, 3) := by decide +kernel
theorem dX5_setLocal_26 : decode cX5_setLocal 26 = .ok (.iload 4, 2) := by decide +kernel
theorem dX5_setLocal_28 : decode cX5_setLocal 28 = .ok (.aload_n 0, 1) := by decide +kernel
theorem dX5_setLocal_29 : decode cX5_setLocal 29 = .ok (.getfield 25, 3) := by decide +kernel
theorem dX5_setLocal_32 : decode cX5_setLocal 32 = .ok (.arraylength, 1) := by decide +kernel
theorem dX5_setLocal_33 : decode cX5_setLocal 33 = .ok (.if_icmp .lt 14, 3) := by decide +kernel
theorem dX5_setLocal_36 : decode cX5_setLocal 36 = .ok (.aload_n 0, 1) := by decide +kernel
theorem dX5_setLocal_37 : decode cX5_setLocal 37 = .ok (.dup, 1) := by decide +kernel
theorem dX5_setLocal_38 : decode cX5_setLocal 38 = .ok (.getfield 76, 3) := by decide +kernel
theorem dX5_setLocal_41 : decode cX5_setLocal 41 = .ok (.iconst 1, 1) := by decide +kernel
theorem dX5_setLocal_42 : decode cX5_setLocal 42 = .ok (.iadd, 1) := by decide +kernel
theorem dX5_setLocal_43 : decode cX5_setLocal 43 = .ok (.putfield 76, 3) := by decide +kernel
theorem dX5_setLocal_46 : decode cX5_setLocal 46 = .ok (.return_, 1) := by decide +kernel
theorem dX5_setLocal_47 : decode cX5_setLocal 47 = .ok (.aload_n 0, 1) := by decide +kernel
theorem dX5_setLocal_48 : decode cX5_setLocal 48 = .ok (.getfield 25, 3) := by decide +kernel
theorem dX5_setLocal_51 : decode cX5_setLocal 51 = .ok (.iload 4, 2) := by decide +kernel
theorem dX5_setLocal_53 : decode cX5_setLocal 53 = .ok (.lload_n 2, 1) := by decide +kernel
theorem dX5_setLocal_54 : decode cX5_setLocal 54 = .ok (.lastore, 1) := by decide +kernel
theorem dX5_setLocal_55 : decode cX5_setLocal 55 = .ok (.return_, 1) := by decide +kernel
theorem dX5_setStage_0 : decode cX5_setStage 0 = .ok (.aload_n 0, 1) := by decide +kernel
theorem dX5_setStage_1 : decode cX5_setStage 1 = .ok (.aload_n 1, 1) := by decide +kernel
theorem dX5_setStage_2 : decode cX5_setStage 2 = .ok (.putfield 38, 3) := by decide +kernel
theorem dX5_setStage_5 : decode cX5_setStage 5 = .ok (.aload_n 0, 1) := by decide +kernel
theorem dX5_setStage_6 : decode cX5_setStage 6 = .ok (.getfield 9, 3) := by decide +kernel
theorem dX5_setStage_9 : decode cX5_setStage 9 = .ok (.lconst 0, 1) := by decide +kernel
theorem dX5_setStage_10 : decode cX5_setStage 10 = .ok (.invokestatic 42, 3) := by decide +kernel
theorem dX5_setStage_13 : decode cX5_setStage 13 = .ok (.aload_n 0, 1) := by decide +kernel
theorem dX5_setStage_14 : decode cX5_setStage 14 = .ok (.iconst 0, 1) := by decide +kernel
theorem dX5_setStage_15 : decode cX5_setStage 15 = .ok (.putfield 48, 3) := by decide +kernel
theorem dX5_setStage_18 : decode cX5_setStage 18 = .ok (.aload_n 0, 1) := by decide +kernel
theorem dX5_setStage_19 : decode cX5_setStage 19 = .ok (.iconst 0, 1) := by decide +kernel
theorem dX5_setStage_20 : decode cX5_setStage 20 = .ok (.putfield 51, 3) := by decide +kernel
theorem dX5_setStage_23 : decode cX5_setStage 23 = .ok (.return_, 1) := by decide +kernel
theorem dX5_shuffle_0 : decode cX5_shuffle 0 = .ok (.aload_n 0, 1) := by decide +kernel
theorem dX5_shuffle_1 : decode cX5_shuffle 1 = .ok (.invokevirtual 141, 3) := by decide +kernel
theorem dX5_shuffle_4 : decode cX5_shuffle 4 = .ok (.lstore_n 2, 1) := by decide +kernel
theorem dX5_shuffle_5 : decode cX5_shuffle 5 = .ok (.iload_n 1, 1) := by decide +kernel
theorem dX5_shuffle_6 : decode cX5_shuffle 6 = .ok (.bipush 87, 2) := by decide +kernel
theorem dX5_shuffle_8 : decode cX5_shuffle 8 = .ok (.if_icmp .eq 9, 3) := by decide +kernel
theorem dX5_shuffle_11 : decode cX5_shuffle 11 = .ok (.iload_n 1, 1) := by decide +kernel
theorem dX5_shuffle_12 : decode cX5_shuffle 12 = .ok (.bipush 89, 2) := by decide +kernel
theorem dX5_shuffle_14 : decode cX5_shuffle 14 = .ok (.if_icmp .ne 7, 3) := by decide +kernel
theorem dX5_shuffle_17 : decode cX5_shuffle 17 = .ok (.lconst 0, 1) := by decide +kernel
theorem dX5_shuffle_18 : decode cX5_shuffle 18 = .ok (.goto 7, 3) := by decide +kernel
theorem dX5_shuffle_21 : decode cX5_shuffle 21 = .ok (.aload_n 0, 1) := by decide +kernel
theorem dX5_shuffle_22 : decode cX5_shuffle 22 = .ok (.invokevirtual 141, 3) := by decide +kernel
theorem dX5_shuffle_25 : decode cX5_shuffle 25 = .ok (.lstore 4, 2) := by decide +kernel
theorem dX5_shuffle_27 : decode cX5_shuffle 27 = .ok (.iload_n 1, 1) := by decide +kernel
theorem dX5_shuffle_28 : decode cX5_shuffle 28 = .ok (.tableswitch 115 89 95 #[44, 57, 115, 76, 115, 115, 101], 44) := by decide +kernel
theorem dX5_shuffle_72 : decode cX5_shuffle 72 = .ok (.aload_n 0, 1) := by decide +kernel
theorem dX5_shuffle_73 : decode cX5_shuffle 73 = .ok (.lload_n 2, 1) := by decide +kernel
theorem dX5_shuffle_74 : decode cX5_shuffle 74 = .ok (.invokevirtual 137, 3) := by decide +kernel
theorem dX5_shuffle_77 : decode cX5_shuffle 77 = .ok (.aload_n 0, 1) := by decide +kernel
theorem dX5_shuffle_78 : decode cX5_shuffle 78 = .ok (.lload_n 2, 1) := by decide +kernel
theorem dX5_shuffle_79 : decode cX5_shuffle 79 = .ok (.invokevirtual 137, 3) := by decide +kernel
theorem dX5_shuffle_82 : decode cX5_shuffle 82 = .ok (.goto 61, 3) := by decide +kernel
theorem dX5_shuffle_85 : decode cX5_shuffle 85 = .ok (.aload_n 0, 1) := by decide +kernel
theorem dX5_shuffle_86 : decode cX5_shuffle 86 = .ok (.lload_n 2, 1) := by decide +kernel
theorem dX5_shuffle_87 : decode cX5_shuffle 87 = .ok (.invokevirtual 137, 3) := by decide +kernel
theorem dX5_shuffle_90 : decode cX5_shuffle 90 = .ok (.aload_n 0, 1) := by decide +kernel
theorem dX5_shuffle_91 : decode cX5_shuffle 91 = .ok (.lload 4, 2) := by decide +kernel
theorem dX5_shuffle_93 : decode cX5_shuffle 93 = .ok (.invokevirtual 137, 3) := by decide +kernel
theorem dX5_shuffle_96 : decode cX5_shuffle 96 = .ok (.aload_n 0, 1) := by decide +kernel
theorem dX5_shuffle_97 : decode cX5_shuffle 97 = .ok (.lload_n 2, 1) := by decide +kernel
theorem dX5_shuffle_98 : decode cX5_shuffle 98 = .ok (.invokevirtual 137, 3) := by decide +kernel
theorem dX5_shuffle_101 : decode cX5_shuffle 101 = .ok (.goto 42, 3) := by decide +kernel
theorem dX5_shuffle_104 : decode cX5_shuffle 104 = .ok (.aload_n 0, 1) := by decide +kernel
theorem dX5_shuffle_105 : decode cX5_shuffle 105 = .ok (.lload 4, 2) := by decide +kernel
theorem dX5_shuffle_107 : decode cX5_shuffle 107 = .ok (.invokevirtual 137, 3) := by decide +kernel
theorem dX5_shuffle_110 : decode cX5_shuffle 110 = .ok (.aload_n 0, 1) := by decide +kernel
theorem dX5_shuffle_111 : decode cX5_shuffle 111 = .ok (.lload_n 2, 1) := by decide +kernel
theorem dX5_shuffle_112 : decode cX5_shuffle 112 = .ok (.invokevirtual 137, 3) := by decide +kernel
theorem dX5_shuffle_115 : decode cX5_shuffle 115 = .ok (.aload_n 0, 1) := by decide +kernel
theorem dX5_shuffle_116 : decode cX5_shuffle 116 = .ok (.lload 4, 2) := by decide +kernel
theorem dX5_shuffle_118 : decode cX5_shuffle 118 = .ok (.invokevirtual 137, 3) := by decide +kernel
theorem dX5_shuffle_121 : decode cX5_shuffle 121 = .ok (.aload_n 0, 1) := by decide +kernel
theorem dX5_shuffle_122 : decode cX5_shuffle 122 = .ok (.lload_n 2, 1) := by decide +kernel
theorem dX5_shuffle_123 : decode cX5_shuffle 123 = .ok (.invokevirtual 137, 3) := by decide +kernel
theorem dX5_shuffle_126 : decode cX5_shuffle 126 = .ok (.goto 17, 3) := by decide +kernel
theorem dX5_shuffle_129 : decode cX5_shuffle 129 = .ok (.aload_n 0, 1) := by decide +kernel
theorem dX5_shuffle_130 : decode cX5_shuffle 130 = .ok (.lload_n 2, 1) := by decide +kernel
theorem dX5_shuffle_131 : decode cX5_shuffle 131 = .ok (.invokevirtual 137, 3) := by decide +kernel
theorem dX5_shuffle_134 : decode cX5_shuffle 134 = .ok (.aload_n 0, 1) := by decide +kernel
theorem dX5_shuffle_135 : decode cX5_shuffle 135 = .ok (.lload 4, 2) := by decide +kernel
theorem dX5_shuffle_137 : decode cX5_shuffle 137 = .ok (.invokevirtual 137, 3) := by decide +kernel
theorem dX5_shuffle_140 : decode cX5_shuffle 140 = .ok (.goto 3, 3) := by decide +kernel
theorem dX5_shuffle_143 : decode cX5_shuffle 143 = .ok (.return_, 1) := by decide +kernel
theorem dX5_step_0 : decode cX5_step 0 = .ok (.aload_n 0, 1) := by decide +kernel
theorem dX5_step_1 : decode cX5_step 1 = .ok (.getfield 119, 3) := by decide +kernel
theorem dX5_step_4 : decode cX5_step 4 = .ok (.aload_n 0, 1) := by decide +kernel
theorem dX5_step_5 : decode cX5_step 5 = .ok (.getfield 123, 3) := by decide +kernel
theorem dX5_step_8 : decode cX5_step 8 = .ok (.invokevirtual 145, 3) := by decide +kernel
theorem dX5_step_11 : decode cX5_step 11 = .ok (.istore_n 1, 1) := by decide +kernel
theorem dX5_step_12 : decode cX5_step 12 = .ok (.aload_n 0, 1) := by decide +kernel
theorem dX5_step_13 : decode cX5_step 13 = .ok (.getfield 119, 3) := by decide +kernel
theorem dX5_step_16 : decode cX5_step 16 = .ok (.aload_n 0, 1) := by decide +kernel
theorem dX5_step_17 : decode cX5_step 17 = .ok (.getfield 123, 3) := by decide +kernel
theorem dX5_step_20 : decode cX5_step 20 = .ok (.invokevirtual 150, 3) := by decide +kernel
theorem dX5_step_23 : decode cX5_step 23 = .ok (.aload_n 0, 1) := by decide +kernel
theorem dX5_step_24 : decode cX5_step 24 = .ok (.getfield 126, 3) := by decide +kernel
theorem dX5_step_27 : decode cX5_step 27 = .ok (.if_icmp .eq 13, 3) := by decide +kernel
theorem dX5_step_30 : decode cX5_step 30 = .ok (.aload_n 0, 1) := by decide +kernel
theorem dX5_step_31 : decode cX5_step 31 = .ok (.dup, 1) := by decide +kernel
theorem dX5_step_32 : decode cX5_step 32 = .ok (.getfield 76, 3) := by decide +kernel
theorem dX5_step_35 : decode cX5_step 35 = .ok (.iconst 1, 1) := by decide +kernel
theorem dX5_step_36 : decode cX5_step 36 = .ok (.iadd, 1) := by decide +kernel
theorem dX5_step_37 : decode cX5_step 37 = .ok (.putfield 76, 3) := by decide +kernel
theorem dX5_step_40 : decode cX5_step 40 = .ok (.iload_n 1, 1) := by decide +kernel
theorem dX5_step_41 : decode cX5_step 41 = .ok (.invokestatic 153, 3) := by decide +kernel
theorem dX5_step_44 : decode cX5_step 44 = .ok (.ifCond .eq 11, 3) := by decide +kernel
theorem dX5_step_47 : decode cX5_step 47 = .ok (.aload_n 0, 1) := by decide +kernel
theorem dX5_step_48 : decode cX5_step 48 = .ok (.iload_n 1, 1) := by decide +kernel
theorem dX5_step_49 : decode cX5_step 49 = .ok (.invokevirtual 157, 3) := by decide +kernel
theorem dX5_step_52 : decode cX5_step 52 = .ok (.goto 215, 3) := by decide +kernel
theorem dX5_step_55 : decode cX5_step 55 = .ok (.iload_n 1, 1) := by decide +kernel
theorem dX5_step_56 : decode cX5_step 56 = .ok (.invokestatic 160, 3) := by decide +kernel
theorem dX5_step_59 : decode cX5_step 59 = .ok (.ifCond .eq 36, 3) := by decide +kernel
theorem dX5_step_62 : decode cX5_step 62 = .ok (.aload_n 0, 1) := by decide +kernel
theorem dX5_step_63 : decode cX5_step 63 = .ok (.iload_n 1, 1) := by decide +kernel
theorem dX5_step_64 : decode cX5_step 64 = .ok (.invokestatic 163, 3) := by decide +kernel
theorem dX5_step_67 : decode cX5_step 67 = .ok (.iload_n 1, 1) := by decide +kernel
theorem dX5_step_68 : decode cX5_step 68 = .ok (.aload_n 0, 1) := by decide +kernel
theorem dX5_step_69 : decode cX5_step 69 = .ok (.iload_n 1, 1) := by decide +kernel
theorem dX5_step_70 : decode cX5_step 70 = .ok (.invokestatic 166, 3) := by decide +kernel
theorem dX5_step_73 : decode cX5_step 73 = .ok (.invokevirtual 169, 3) := by decide +kernel
theorem dX5_step_76 : decode cX5_step 76 = .ok (.invokestatic 172, 3) := by decide +kernel
theorem dX5_step_79 : decode cX5_step 79 = .ok (.invokevirtual 176, 3) := by decide +kernel
theorem dX5_step_82 : decode cX5_step 82 = .ok (.aload_n 0, 1) := by decide +kernel
theorem dX5_step_83 : decode cX5_step 83 = .ok (.dup, 1) := by decide +kernel
theorem dX5_step_84 : decode cX5_step 84 = .ok (.getfield 123, 3) := by decide +kernel
theorem dX5_step_87 : decode cX5_step 87 = .ok (.iconst 1, 1) := by decide +kernel
theorem dX5_step_88 : decode cX5_step 88 = .ok (.iadd, 1) := by decide +kernel
theorem dX5_step_89 : decode cX5_step 89 = .ok (.putfield 123, 3) := by decide +kernel
theorem dX5_step_92 : decode cX5_step 92 = .ok (.goto 175, 3) := by decide +kernel
theorem dX5_step_95 : decode cX5_step 95 = .ok (.iload_n 1, 1) := by decide +kernel
theorem dX5_step_96 : decode cX5_step 96 = .ok (.invokestatic 178, 3) := by decide +kernel
theorem dX5_step_99 : decode cX5_step 99 = .ok (.ifCond .eq 39, 3) := by decide +kernel
theorem dX5_step_102 : decode cX5_step 102 = .ok (.aload_n 0, 1) := by decide +kernel
theorem dX5_step_103 : decode cX5_step 103 = .ok (.aload_n 0, 1) := by decide +kernel
theorem dX5_step_104 : decode cX5_step 104 = .ok (.iload_n 1, 1) := by decide +kernel
theorem dX5_step_105 : decode cX5_step 105 = .ok (.invokevirtual 181, 3) := by decide +kernel
theorem dX5_step_108 : decode cX5_step 108 = .ok (.ifCond .eq 18, 3) := by decide +kernel
theorem dX5_step_111 : decode cX5_step 111 = .ok (.aload_n 0, 1) := by decide +kernel
theorem dX5_step_112 : decode cX5_step 112 = .ok (.getfield 119, 3) := by decide +kernel
theorem dX5_step_115 : decode cX5_step 115 = .ok (.aload_n 0, 1) := by decide +kernel
theorem dX5_step_116 : decode cX5_step 116 = .ok (.getfield 123, 3) := by decide +kernel
theorem dX5_step_119 : decode cX5_step 119 = .ok (.invokevirtual 184, 3) := by decide +kernel
theorem dX5_step_122 : decode cX5_step 122 = .ok (.l2i, 1) := by decide +kernel

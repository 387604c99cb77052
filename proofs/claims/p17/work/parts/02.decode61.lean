theorem dX5_switchChoice_24 : decode cX5_switchChoice 24 = .ok (.iconst 1, 1) := by decide +kernel
theorem dX5_switchChoice_25 : decode cX5_switchChoice 25 = .ok (.isub, 1) := by decide +kernel
theorem dX5_switchChoice_26 : decode cX5_switchChoice 26 = .ok (.istore 4, 2) := by decide +kernel
theorem dX5_switchChoice_28 : decode cX5_switchChoice 28 = .ok (.iload_n 1, 1) := by decide +kernel
theorem dX5_switchChoice_29 : decode cX5_switchChoice 29 = .ok (.sipush 170, 3) := by decide +kernel
theorem dX5_switchChoice_32 : decode cX5_switchChoice 32 = .ok (.if_icmp .ne 45, 3) := by decide +kernel
theorem dX5_switchChoice_35 : decode cX5_switchChoice 35 = .ok (.iload_n 2, 1) := by decide +kernel
theorem dX5_switchChoice_36 : decode cX5_switchChoice 36 = .ok (.i2l, 1) := by decide +kernel
theorem dX5_switchChoice_37 : decode cX5_switchChoice 37 = .ok (.aload_n 0, 1) := by decide +kernel
theorem dX5_switchChoice_38 : decode cX5_switchChoice 38 = .ok (.getfield 119, 3) := by decide +kernel
theorem dX5_switchChoice_41 : decode cX5_switchChoice 41 = .ok (.iload_n 3, 1) := by decide +kernel
theorem dX5_switchChoice_42 : decode cX5_switchChoice 42 = .ok (.iconst 1, 1) := by decide +kernel
theorem dX5_switchChoice_43 : decode cX5_switchChoice 43 = .ok (.iadd, 1) := by decide +kernel
theorem dX5_switchChoice_44 : decode cX5_switchChoice 44 = .ok (.invokevirtual 225, 3) := by decide +kernel
theorem dX5_switchChoice_47 : decode cX5_switchChoice 47 = .ok (.i2l, 1) := by decide +kernel
theorem dX5_switchChoice_48 : decode cX5_switchChoice 48 = .ok (.lsub, 1) := by decide +kernel
theorem dX5_switchChoice_49 : decode cX5_switchChoice 49 = .ok (.lstore 5, 2) := by decide +kernel
theorem dX5_switchChoice_51 : decode cX5_switchChoice 51 = .ok (.lload 5, 2) := by decide +kernel
theorem dX5_switchChoice_53 : decode cX5_switchChoice 53 = .ok (.lconst 0, 1) := by decide +kernel
theorem dX5_switchChoice_54 : decode cX5_switchChoice 54 = .ok (.lcmp, 1) := by decide +kernel
theorem dX5_switchChoice_55 : decode cX5_switchChoice 55 = .ok (.ifCond .lt 12, 3) := by decide +kernel
theorem dX5_switchChoice_58 : decode cX5_switchChoice 58 = .ok (.lload 5, 2) := by decide +kernel
theorem dX5_switchChoice_60 : decode cX5_switchChoice 60 = .ok (.iload 4, 2) := by decide +kernel
theorem dX5_switchChoice_62 : decode cX5_switchChoice 62 = .ok (.i2l, 1) := by decide +kernel
theorem dX5_switchChoice_63 : decode cX5_switchChoice 63 = .ok (.lcmp, 1) := by decide +kernel
theorem dX5_switchChoice_64 : decode cX5_switchChoice 64 = .ok (.ifCond .lt 7, 3) := by decide +kernel
theorem dX5_switchChoice_67 : decode cX5_switchChoice 67 = .ok (.iconst 0, 1) := by decide +kernel
theorem dX5_switchChoice_68 : decode cX5_switchChoice 68 = .ok (.goto 8, 3) := by decide +kernel
theorem dX5_switchChoice_71 : decode cX5_switchChoice 71 = .ok (.lload 5, 2) := by decide +kernel
theorem dX5_switchChoice_73 : decode cX5_switchChoice 73 = .ok (.l2i, 1) := by decide +kernel
theorem dX5_switchChoice_74 : decode cX5_switchChoice 74 = .ok (.iconst 1, 1) := by decide +kernel
theorem dX5_switchChoice_75 : decode cX5_switchChoice 75 = .ok (.iadd, 1) := by decide +kernel
theorem dX5_switchChoice_76 : decode cX5_switchChoice 76 = .ok (.ireturn, 1) := by decide +kernel
theorem dX5_switchChoice_77 : decode cX5_switchChoice 77 = .ok (.iconst 1, 1) := by decide +kernel
theorem dX5_switchChoice_78 : decode cX5_switchChoice 78 = .ok (.istore 5, 2) := by decide +kernel
theorem dX5_switchChoice_80 : decode cX5_switchChoice 80 = .ok (.iload 5, 2) := by decide +kernel
theorem dX5_switchChoice_82 : decode cX5_switchChoice 82 = .ok (.iload 4, 2) := by decide +kernel
theorem dX5_switchChoice_84 : decode cX5_switchChoice 84 = .ok (.if_icmp .gt 32, 3) := by decide +kernel
theorem dX5_switchChoice_87 : decode cX5_switchChoice 87 = .ok (.aload_n 0, 1) := by decide +kernel
theorem dX5_switchChoice_88 : decode cX5_switchChoice 88 = .ok (.getfield 119, 3) := by decide +kernel
theorem dX5_switchChoice_91 : decode cX5_switchChoice 91 = .ok (.iload_n 3, 1) := by decide +kernel
theorem dX5_switchChoice_92 : decode cX5_switchChoice 92 = .ok (.iconst 2, 1) := by decide +kernel
theorem dX5_switchChoice_93 : decode cX5_switchChoice 93 = .ok (.iadd, 1) := by decide +kernel
theorem dX5_switchChoice_94 : decode cX5_switchChoice 94 = .ok (.iload 4, 2) := by decide +kernel
theorem dX5_switchChoice_96 : decode cX5_switchChoice 96 = .ok (.iadd, 1) := by decide +kernel
theorem dX5_switchChoice_97 : decode cX5_switchChoice 97 = .ok (.iload 5, 2) := by decide +kernel
theorem dX5_switchChoice_99 : decode cX5_switchChoice 99 = .ok (.iadd, 1) := by decide +kernel
theorem dX5_switchChoice_100 : decode cX5_switchChoice 100 = .ok (.invokevirtual 225, 3) := by decide +kernel
theorem dX5_switchChoice_103 : decode cX5_switchChoice 103 = .ok (.iload_n 2, 1) := by decide +kernel
theorem dX5_switchChoice_104 : decode cX5_switchChoice 104 = .ok (.if_icmp .ne 6, 3) := by decide +kernel
theorem dX5_switchChoice_107 : decode cX5_switchChoice 107 = .ok (.iload 5, 2) := by decide +kernel
theorem dX5_switchChoice_109 : decode cX5_switchChoice 109 = .ok (.ireturn, 1) := by decide +kernel
theorem dX5_switchChoice_110 : decode cX5_switchChoice 110 = .ok (.iinc 5 1, 3) := by decide +kernel
theorem dX5_switchChoice_113 : decode cX5_switchChoice 113 = .ok (.goto (-33), 3) := by decide +kernel
theorem dX5_switchChoice_116 : decode cX5_switchChoice 116 = .ok (.iconst 0, 1) := by decide +kernel
theorem dX5_switchChoice_117 : decode cX5_switchChoice 117 = .ok (.ireturn, 1) := by decide +kernel
theorem dX5_tellLength_0 : decode cX5_tellLength 0 = .ok (.lload_n 1, 1) := by decide +kernel
theorem dX5_tellLength_1 : decode cX5_tellLength 1 = .ok (.lconst 0, 1) := by decide +kernel
theorem dX5_tellLength_2 : decode cX5_tellLength 2 = .ok (.lcmp, 1) := by decide +kernel
theorem dX5_tellLength_3 : decode cX5_tellLength 3 = .ok (.ifCond .ne 9, 3) := by decide +kernel
theorem dX5_tellLength_6 : decode cX5_tellLength 6 = .ok (.aload_n 0, 1) := by decide +kernel
theorem dX5_tellLength_7 : decode cX5_tellLength 7 = .ok (.iconst 1, 1) := by decide +kernel
theorem dX5_tellLength_8 : decode cX5_tellLength 8 = .ok (.invokevirtual 211, 3) := by decide +kernel
theorem dX5_tellLength_11 : decode cX5_tellLength 11 = .ok (.return_, 1) := by decide +kernel
theorem dX5_tellLength_12 : decode cX5_tellLength 12 = .ok (.aload_n 0, 1) := by decide +kernel
theorem dX5_tellLength_13 : decode cX5_tellLength 13 = .ok (.aload_n 0, 1) := by decide +kernel
theorem dX5_tellLength_14 : decode cX5_tellLength 14 = .ok (.lload_n 1, 1) := by decide +kernel
theorem dX5_tellLength_15 : decode cX5_tellLength 15 = .ok (.l2i, 1) := by decide +kernel
theorem dX5_tellLength_16 : decode cX5_tellLength 16 = .ok (.invokevirtual 70, 3) := by decide +kernel
theorem dX5_tellLength_19 : decode cX5_tellLength 19 = .ok (.i2l, 1) := by decide +kernel
theorem dX5_tellLength_20 : decode cX5_tellLength 20 = .ok (.invokevirtual 137, 3) := by decide +kernel
theorem dX5_tellLength_23 : decode cX5_tellLength 23 = .ok (.aload_n 0, 1) := by decide +kernel
theorem dX5_tellLength_24 : decode cX5_tellLength 24 = .ok (.dup, 1) := by decide +kernel
theorem dX5_tellLength_25 : decode cX5_tellLength 25 = .ok (.getfield 123, 3) := by decide +kernel
theorem dX5_tellLength_28 : decode cX5_tellLength 28 = .ok (.iconst 1, 1) := by decide +kernel
theorem dX5_tellLength_29 : decode cX5_tellLength 29 = .ok (.iadd, 1) := by decide +kernel
theorem dX5_tellLength_30 : decode cX5_tellLength 30 = .ok (.putfield 123, 3) := by decide +kernel
theorem dX5_tellLength_33 : decode cX5_tellLength 33 = .ok (.return_, 1) := by decide +kernel
theorem dX5_throwIt_0 : decode cX5_throwIt 0 = .ok (.aload_n 0, 1) := by decide +kernel
theorem dX5_throwIt_1 : decode cX5_throwIt 1 = .ok (.lload_n 1, 1) := by decide +kernel
theorem dX5_throwIt_2 : decode cX5_throwIt 2 = .ok (.lconst 0, 1) := by decide +kernel
theorem dX5_throwIt_3 : decode cX5_throwIt 3 = .ok (.lcmp, 1) := by decide +kernel
theorem dX5_throwIt_4 : decode cX5_throwIt 4 = .ok (.ifCond .ge 20, 3) := by decide +kernel
theorem dX5_throwIt_7 : decode cX5_throwIt 7 = .ok (.lload_n 1, 1) := by decide +kernel
theorem dX5_throwIt_8 : decode cX5_throwIt 8 = .ok (.ldc2_w 287, 3) := by decide +kernel
theorem dX5_throwIt_11 : decode cX5_throwIt 11 = .ok (.lcmp, 1) := by decide +kernel
theorem dX5_throwIt_12 : decode cX5_throwIt 12 = .ok (.ifCond .lt 12, 3) := by decide +kernel
theorem dX5_throwIt_15 : decode cX5_throwIt 15 = .ok (.ldc2_w 289, 3) := by decide +kernel
theorem dX5_throwIt_18 : decode cX5_throwIt 18 = .ok (.lload_n 1, 1) := by decide +kernel
theorem dX5_throwIt_19 : decode cX5_throwIt 19 = .ok (.lsub, 1) := by decide +kernel
theorem dX5_throwIt_20 : decode cX5_throwIt 20 = .ok (.l2i, 1) := by decide +kernel
theorem dX5_throwIt_21 : decode cX5_throwIt 21 = .ok (.goto 4, 3) := by decide +kernel
theorem dX5_throwIt_24 : decode cX5_throwIt 24 = .ok (.iconst 1, 1) := by decide +kernel
theorem dX5_throwIt_25 : decode cX5_throwIt 25 = .ok (.invokevirtual 211, 3) := by decide +kernel
theorem dX5_throwIt_28 : decode cX5_throwIt 28 = .ok (.return_, 1) := by decide +kernel
theorem dX5_useElement_0 : decode cX5_useElement 0 = .ok (.iload_n 1, 1) := by decide +kernel
theorem dX5_useElement_1 : decode cX5_useElement 1 = .ok (.bipush 79, 2) := by decide +kernel
theorem dX5_useElement_3 : decode cX5_useElement 3 = .ok (.if_icmp .ne 11, 3) := by decide +kernel
theorem dX5_useElement_6 : decode cX5_useElement 6 = .ok (.aload_n 0, 1) := by decide +kernel
theorem dX5_useElement_7 : decode cX5_useElement 7 = .ok (.invokevirtual 141, 3) := by decide +kernel
theorem dX5_useElement_10 : decode cX5_useElement 10 = .ok (.l2i, 1) := by decide +kernel
theorem dX5_useElement_11 : decode cX5_useElement 11 = .ok (.goto 4, 3) := by decide +kernel
theorem dX5_useElement_14 : decode cX5_useElement 14 = .ok (.iconst 0, 1) := by decide +kernel
theorem dX5_useElement_15 : decode cX5_useElement 15 = .ok (.istore_n 2, 1) := by decide +kernel
theorem dX5_useElement_16 : decode cX5_useElement 16 = .ok (.aload_n 0, 1) := by decide +kernel
theorem dX5_useElement_17 : decode cX5_useElement 17 = .ok (.invokevirtual 141, 3) := by decide +kernel
theorem dX5_useElement_20 : decode cX5_useElement 20 = .ok (.l2i, 1) := by decide +kernel
theorem dX5_useElement_21 : decode cX5_useElement 21 = .ok (.istore_n 3, 1) := by decide +kernel
theorem dX5_useElement_22 : decode cX5_useElement 22 = .ok (.aload_n 0, 1) := by decide +kernel
theorem dX5_useElement_23 : decode cX5_useElement 23 = .ok (.invokevirtual 141, 3) := by decide +kernel
theorem dX5_useElement_26 : decode cX5_useElement 26 = .ok (.l2i, 1) := by decide +kernel
theorem dX5_useElement_27 : decode cX5_useElement 27 = .ok (.istore 4, 2) := by decide +kernel
theorem dX5_useElement_29 : decode cX5_useElement 29 = .ok (.iload 4, 2) := by decide +kernel
theorem dX5_useElement_31 : decode cX5_useElement 31 = .ok (.ifCond .ne 9, 3) := by decide +kernel
theorem dX5_useElement_34 : decode cX5_useElement 34 = .ok (.aload_n 0, 1) := by decide +kernel
theorem dX5_useElement_35 : decode cX5_useElement 35 = .ok (.iconst 1, 1) := by decide +kernel
theorem dX5_useElement_36 : decode cX5_useElement 36 = .ok (.invokevirtual 211, 3) := by decide +kernel
theorem dX5_useElement_39 : decode cX5_useElement 39 = .ok (.return_, 1) := by decide +kernel
theorem dX5_useElement_40 : decode cX5_useElement 40 = .ok (.iload_n 3, 1) := by decide +kernel
theorem dX5_useElement_41 : decode cX5_useElement 41 = .ok (.ifCond .lt 13, 3) := by decide +kernel
theorem dX5_useElement_44 : decode cX5_useElement 44 = .ok (.iload_n 3, 1) := by decide +kernel
theorem dX5_useElement_45 : decode cX5_useElement 45 = .ok (.aload_n 0, 1) := by decide +kernel
theorem dX5_useElement_46 : decode cX5_useElement 46 = .ok (.iload 4, 2) := by decide +kernel
theorem dX5_useElement_48 : decode cX5_useElement 48 = .ok (.invokevirtual 70, 3) := by decide +kernel
theorem dX5_useElement_51 : decode cX5_useElement 51 = .ok (.if_icmp .lt 9, 3) := by decide +kernel
theorem dX5_useElement_54 : decode cX5_useElement 54 = .ok (.aload_n 0, 1) := by decide +kernel
theorem dX5_useElement_55 : decode cX5_useElement 55 = .ok (.iconst 2, 1) := by decide +kernel
theorem dX5_useElement_56 : decode cX5_useElement 56 = .ok (.invokevirtual 211, 3) := by decide +kernel
theorem dX5_useElement_59 : decode cX5_useElement 59 = .ok (.return_, 1) := by decide +kernel
theorem dX5_useElement_60 : decode cX5_useElement 60 = .ok (.aload_n 0, 1) := by decide +kernel
theorem dX5_useElement_61 : decode cX5_useElement 61 = .ok (.iload 4, 2) := by decide +kernel
theorem dX5_useElement_63 : decode cX5_useElement 63 = .ok (.invokevirtual 66, 3) := by decide +kernel
theorem dX5_useElement_66 : decode cX5_useElement 66 = .ok (.iload_n 3, 1) := by decide +kernel
theorem dX5_useElement_67 : decode cX5_useElement 67 = .ok (.iadd, 1) := by decide +kernel
theorem dX5_useElement_68 : decode cX5_useElement 68 = .ok (.istore 5, 2) := by decide +kernel
theorem dX5_useElement_70 : decode cX5_useElement 70 = .ok (.iload_n 1, 1) := by decide +kernel
theorem dX5_useElement_71 : decode cX5_useElement 71 = .ok (.bipush 46, 2) := by decide +kernel
theorem dX5_useElement_73 : decode cX5_useElement 73 = .ok (.if_icmp .ne 17, 3) := by decide +kernel
theorem dX5_useElement_76 : decode cX5_useElement 76 = .ok (.aload_n 0, 1) := by decide +kernel
theorem dX5_useElement_77 : decode cX5_useElement 77 = .ok (.aload_n 0, 1) := by decide +kernel
theorem dX5_useElement_78 : decode cX5_useElement 78 = .ok (.iload 5, 2) := by decide +kernel
theorem dX5_useElement_80 : decode cX5_useElement 80 = .ok (.invokevirtual 73, 3) := by decide +kernel
theorem dX5_useElement_83 : decode cX5_useElement 83 = .ok (.i2l, 1) := by decide +kernel
theorem dX5_useElement_84 : decode cX5_useElement 84 = .ok (.invokevirtual 137, 3) := by decide +kernel
theorem dX5_useElement_87 : decode cX5_useElement 87 = .ok (.goto 26, 3) := by decide +kernel
theorem dX5_useElement_90 : decode cX5_useElement 90 = .ok (.iload 5, 2) := by decide +kernel
theorem dX5_useElement_92 : decode cX5_useElement 92 = .ok (.ifCond .lt 21, 3) := by decide +kernel
theorem dX5_useElement_95 : decode cX5_useElement 95 = .ok (.iload 5, 2) := by decide +kernel
theorem dX5_useElement_97 : decode cX5_useElement 97 = .ok (.aload_n 0, 1) := by decide +kernel
theorem dX5_useElement_98 : decode cX5_useElement 98 = .ok (.getfield 15, 3) := by decide +kernel

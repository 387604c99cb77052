theorem dX11_lengthOfPush_18 : decode cX11_lengthOfPush 18 = .ok (.lload_n 0, 1) := by decide +kernel
theorem dX11_lengthOfPush_19 : decode cX11_lengthOfPush 19 = .ok (.invokestatic 298, 3) := by decide +kernel
theorem dX11_lengthOfPush_22 : decode cX11_lengthOfPush 22 = .ok (.ifCond .eq 5, 3) := by decide +kernel
theorem dX11_lengthOfPush_25 : decode cX11_lengthOfPush 25 = .ok (.iconst 2, 1) := by decide +kernel
theorem dX11_lengthOfPush_26 : decode cX11_lengthOfPush 26 = .ok (.ireturn, 1) := by decide +kernel
theorem dX11_lengthOfPush_27 : decode cX11_lengthOfPush 27 = .ok (.lload_n 0, 1) := by decide +kernel
theorem dX11_lengthOfPush_28 : decode cX11_lengthOfPush 28 = .ok (.lload_n 0, 1) := by decide +kernel
theorem dX11_lengthOfPush_29 : decode cX11_lengthOfPush 29 = .ok (.l2i, 1) := by decide +kernel
theorem dX11_lengthOfPush_30 : decode cX11_lengthOfPush 30 = .ok (.i2s, 1) := by decide +kernel
theorem dX11_lengthOfPush_31 : decode cX11_lengthOfPush 31 = .ok (.i2l, 1) := by decide +kernel
theorem dX11_lengthOfPush_32 : decode cX11_lengthOfPush 32 = .ok (.lcmp, 1) := by decide +kernel
theorem dX11_lengthOfPush_33 : decode cX11_lengthOfPush 33 = .ok (.ifCond .eq 10, 3) := by decide +kernel
theorem dX11_lengthOfPush_36 : decode cX11_lengthOfPush 36 = .ok (.iload_n 2, 1) := by decide +kernel
theorem dX11_lengthOfPush_37 : decode cX11_lengthOfPush 37 = .ok (.sipush 255, 3) := by decide +kernel
theorem dX11_lengthOfPush_40 : decode cX11_lengthOfPush 40 = .ok (.if_icmp .le 7, 3) := by decide +kernel
theorem dX11_lengthOfPush_43 : decode cX11_lengthOfPush 43 = .ok (.iconst 3, 1) := by decide +kernel
theorem dX11_lengthOfPush_44 : decode cX11_lengthOfPush 44 = .ok (.goto 4, 3) := by decide +kernel
theorem dX11_lengthOfPush_47 : decode cX11_lengthOfPush 47 = .ok (.iconst 2, 1) := by decide +kernel
theorem dX11_lengthOfPush_48 : decode cX11_lengthOfPush 48 = .ok (.ireturn, 1) := by decide +kernel
theorem dX11_longEntry_0 : decode cX11_longEntry 0 = .ok (.aload_n 0, 1) := by decide +kernel
theorem dX11_longEntry_1 : decode cX11_longEntry 1 = .ok (.iconst 5, 1) := by decide +kernel
theorem dX11_longEntry_2 : decode cX11_longEntry 2 = .ok (.invokevirtual 147, 3) := by decide +kernel
theorem dX11_longEntry_5 : decode cX11_longEntry 5 = .ok (.aload_n 0, 1) := by decide +kernel
theorem dX11_longEntry_6 : decode cX11_longEntry 6 = .ok (.getfield 21, 3) := by decide +kernel
theorem dX11_longEntry_9 : decode cX11_longEntry 9 = .ok (.lload_n 1, 1) := by decide +kernel
theorem dX11_longEntry_10 : decode cX11_longEntry 10 = .ok (.bipush 32, 2) := by decide +kernel
theorem dX11_longEntry_12 : decode cX11_longEntry 12 = .ok (.lshr, 1) := by decide +kernel
theorem dX11_longEntry_13 : decode cX11_longEntry 13 = .ok (.l2i, 1) := by decide +kernel
theorem dX11_longEntry_14 : decode cX11_longEntry 14 = .ok (.invokevirtual 167, 3) := by decide +kernel
theorem dX11_longEntry_17 : decode cX11_longEntry 17 = .ok (.aload_n 0, 1) := by decide +kernel
theorem dX11_longEntry_18 : decode cX11_longEntry 18 = .ok (.getfield 21, 3) := by decide +kernel
theorem dX11_longEntry_21 : decode cX11_longEntry 21 = .ok (.lload_n 1, 1) := by decide +kernel
theorem dX11_longEntry_22 : decode cX11_longEntry 22 = .ok (.l2i, 1) := by decide +kernel
theorem dX11_longEntry_23 : decode cX11_longEntry 23 = .ok (.invokevirtual 167, 3) := by decide +kernel
theorem dX11_longEntry_26 : decode cX11_longEntry 26 = .ok (.aload_n 0, 1) := by decide +kernel
theorem dX11_longEntry_27 : decode cX11_longEntry 27 = .ok (.invokevirtual 160, 3) := by decide +kernel
theorem dX11_longEntry_30 : decode cX11_longEntry 30 = .ok (.ireturn, 1) := by decide +kernel
theorem dX11_methodEntryOf_0 : decode cX11_methodEntryOf 0 = .ok (.iload_n 1, 1) := by decide +kernel
theorem dX11_methodEntryOf_1 : decode cX11_methodEntryOf 1 = .ok (.ifCond .lt 24, 3) := by decide +kernel
theorem dX11_methodEntryOf_4 : decode cX11_methodEntryOf 4 = .ok (.iload_n 1, 1) := by decide +kernel
theorem dX11_methodEntryOf_5 : decode cX11_methodEntryOf 5 = .ok (.aload_n 0, 1) := by decide +kernel
theorem dX11_methodEntryOf_6 : decode cX11_methodEntryOf 6 = .ok (.getfield 40, 3) := by decide +kernel
theorem dX11_methodEntryOf_9 : decode cX11_methodEntryOf 9 = .ok (.arraylength, 1) := by decide +kernel
theorem dX11_methodEntryOf_10 : decode cX11_methodEntryOf 10 = .ok (.if_icmp .ge 15, 3) := by decide +kernel
theorem dX11_methodEntryOf_13 : decode cX11_methodEntryOf 13 = .ok (.iload_n 1, 1) := by decide +kernel
theorem dX11_methodEntryOf_14 : decode cX11_methodEntryOf 14 = .ok (.aload_n 0, 1) := by decide +kernel
theorem dX11_methodEntryOf_15 : decode cX11_methodEntryOf 15 = .ok (.getfield 56, 3) := by decide +kernel
theorem dX11_methodEntryOf_18 : decode cX11_methodEntryOf 18 = .ok (.getfield 174, 3) := by decide +kernel
theorem dX11_methodEntryOf_21 : decode cX11_methodEntryOf 21 = .ok (.arraylength, 1) := by decide +kernel
theorem dX11_methodEntryOf_22 : decode cX11_methodEntryOf 22 = .ok (.if_icmp .lt 5, 3) := by decide +kernel
theorem dX11_methodEntryOf_25 : decode cX11_methodEntryOf 25 = .ok (.iconst 0, 1) := by decide +kernel
theorem dX11_methodEntryOf_26 : decode cX11_methodEntryOf 26 = .ok (.ireturn, 1) := by decide +kernel
theorem dX11_methodEntryOf_27 : decode cX11_methodEntryOf 27 = .ok (.aload_n 0, 1) := by decide +kernel
theorem dX11_methodEntryOf_28 : decode cX11_methodEntryOf 28 = .ok (.getfield 40, 3) := by decide +kernel
theorem dX11_methodEntryOf_31 : decode cX11_methodEntryOf 31 = .ok (.iload_n 1, 1) := by decide +kernel
theorem dX11_methodEntryOf_32 : decode cX11_methodEntryOf 32 = .ok (.iaload, 1) := by decide +kernel
theorem dX11_methodEntryOf_33 : decode cX11_methodEntryOf 33 = .ok (.ifCond .ne 55, 3) := by decide +kernel
theorem dX11_methodEntryOf_36 : decode cX11_methodEntryOf 36 = .ok (.aload_n 0, 1) := by decide +kernel
theorem dX11_methodEntryOf_37 : decode cX11_methodEntryOf 37 = .ok (.aload_n 0, 1) := by decide +kernel
theorem dX11_methodEntryOf_38 : decode cX11_methodEntryOf 38 = .ok (.getfield 56, 3) := by decide +kernel
theorem dX11_methodEntryOf_41 : decode cX11_methodEntryOf 41 = .ok (.getfield 174, 3) := by decide +kernel
theorem dX11_methodEntryOf_44 : decode cX11_methodEntryOf 44 = .ok (.iload_n 1, 1) := by decide +kernel
theorem dX11_methodEntryOf_45 : decode cX11_methodEntryOf 45 = .ok (.iaload, 1) := by decide +kernel
theorem dX11_methodEntryOf_46 : decode cX11_methodEntryOf 46 = .ok (.invokevirtual 91, 3) := by decide +kernel
theorem dX11_methodEntryOf_49 : decode cX11_methodEntryOf 49 = .ok (.istore_n 2, 1) := by decide +kernel
theorem dX11_methodEntryOf_50 : decode cX11_methodEntryOf 50 = .ok (.aload_n 0, 1) := by decide +kernel
theorem dX11_methodEntryOf_51 : decode cX11_methodEntryOf 51 = .ok (.bipush 12, 2) := by decide +kernel
theorem dX11_methodEntryOf_53 : decode cX11_methodEntryOf 53 = .ok (.iload_n 2, 1) := by decide +kernel
theorem dX11_methodEntryOf_54 : decode cX11_methodEntryOf 54 = .ok (.aload_n 0, 1) := by decide +kernel
theorem dX11_methodEntryOf_55 : decode cX11_methodEntryOf 55 = .ok (.aload_n 0, 1) := by decide +kernel
theorem dX11_methodEntryOf_56 : decode cX11_methodEntryOf 56 = .ok (.getfield 56, 3) := by decide +kernel
theorem dX11_methodEntryOf_59 : decode cX11_methodEntryOf 59 = .ok (.getfield 177, 3) := by decide +kernel
theorem dX11_methodEntryOf_62 : decode cX11_methodEntryOf 62 = .ok (.iload_n 1, 1) := by decide +kernel
theorem dX11_methodEntryOf_63 : decode cX11_methodEntryOf 63 = .ok (.iaload, 1) := by decide +kernel
theorem dX11_methodEntryOf_64 : decode cX11_methodEntryOf 64 = .ok (.invokevirtual 91, 3) := by decide +kernel
theorem dX11_methodEntryOf_67 : decode cX11_methodEntryOf 67 = .ok (.invokevirtual 170, 3) := by decide +kernel
theorem dX11_methodEntryOf_70 : decode cX11_methodEntryOf 70 = .ok (.istore_n 3, 1) := by decide +kernel
theorem dX11_methodEntryOf_71 : decode cX11_methodEntryOf 71 = .ok (.aload_n 0, 1) := by decide +kernel
theorem dX11_methodEntryOf_72 : decode cX11_methodEntryOf 72 = .ok (.getfield 40, 3) := by decide +kernel
theorem dX11_methodEntryOf_75 : decode cX11_methodEntryOf 75 = .ok (.iload_n 1, 1) := by decide +kernel
theorem dX11_methodEntryOf_76 : decode cX11_methodEntryOf 76 = .ok (.aload_n 0, 1) := by decide +kernel
theorem dX11_methodEntryOf_77 : decode cX11_methodEntryOf 77 = .ok (.bipush 10, 2) := by decide +kernel
theorem dX11_methodEntryOf_79 : decode cX11_methodEntryOf 79 = .ok (.aload_n 0, 1) := by decide +kernel
theorem dX11_methodEntryOf_80 : decode cX11_methodEntryOf 80 = .ok (.getfield 99, 3) := by decide +kernel
theorem dX11_methodEntryOf_83 : decode cX11_methodEntryOf 83 = .ok (.iload_n 3, 1) := by decide +kernel
theorem dX11_methodEntryOf_84 : decode cX11_methodEntryOf 84 = .ok (.invokevirtual 170, 3) := by decide +kernel
theorem dX11_methodEntryOf_87 : decode cX11_methodEntryOf 87 = .ok (.iastore, 1) := by decide +kernel
theorem dX11_methodEntryOf_88 : decode cX11_methodEntryOf 88 = .ok (.aload_n 0, 1) := by decide +kernel
theorem dX11_methodEntryOf_89 : decode cX11_methodEntryOf 89 = .ok (.getfield 40, 3) := by decide +kernel
theorem dX11_methodEntryOf_92 : decode cX11_methodEntryOf 92 = .ok (.iload_n 1, 1) := by decide +kernel
theorem dX11_methodEntryOf_93 : decode cX11_methodEntryOf 93 = .ok (.iaload, 1) := by decide +kernel
theorem dX11_methodEntryOf_94 : decode cX11_methodEntryOf 94 = .ok (.ireturn, 1) := by decide +kernel
theorem dX11_nameEntry_0 : decode cX11_nameEntry 0 = .ok (.aload_n 0, 1) := by decide +kernel
theorem dX11_nameEntry_1 : decode cX11_nameEntry 1 = .ok (.iconst 1, 1) := by decide +kernel
theorem dX11_nameEntry_2 : decode cX11_nameEntry 2 = .ok (.invokevirtual 147, 3) := by decide +kernel
theorem dX11_nameEntry_5 : decode cX11_nameEntry 5 = .ok (.aload_n 0, 1) := by decide +kernel
theorem dX11_nameEntry_6 : decode cX11_nameEntry 6 = .ok (.iload_n 1, 1) := by decide +kernel
theorem dX11_nameEntry_7 : decode cX11_nameEntry 7 = .ok (.iconst 1, 1) := by decide +kernel
theorem dX11_nameEntry_8 : decode cX11_nameEntry 8 = .ok (.iadd, 1) := by decide +kernel
theorem dX11_nameEntry_9 : decode cX11_nameEntry 9 = .ok (.invokevirtual 163, 3) := by decide +kernel
theorem dX11_nameEntry_12 : decode cX11_nameEntry 12 = .ok (.bipush 8, 2) := by decide +kernel
theorem dX11_nameEntry_14 : decode cX11_nameEntry 14 = .ok (.ishl, 1) := by decide +kernel
theorem dX11_nameEntry_15 : decode cX11_nameEntry 15 = .ok (.aload_n 0, 1) := by decide +kernel
theorem dX11_nameEntry_16 : decode cX11_nameEntry 16 = .ok (.iload_n 1, 1) := by decide +kernel
theorem dX11_nameEntry_17 : decode cX11_nameEntry 17 = .ok (.iconst 2, 1) := by decide +kernel
theorem dX11_nameEntry_18 : decode cX11_nameEntry 18 = .ok (.iadd, 1) := by decide +kernel
theorem dX11_nameEntry_19 : decode cX11_nameEntry 19 = .ok (.invokevirtual 163, 3) := by decide +kernel
theorem dX11_nameEntry_22 : decode cX11_nameEntry 22 = .ok (.ior, 1) := by decide +kernel
theorem dX11_nameEntry_23 : decode cX11_nameEntry 23 = .ok (.istore_n 2, 1) := by decide +kernel
theorem dX11_nameEntry_24 : decode cX11_nameEntry 24 = .ok (.iconst 1, 1) := by decide +kernel
theorem dX11_nameEntry_25 : decode cX11_nameEntry 25 = .ok (.istore_n 3, 1) := by decide +kernel
theorem dX11_nameEntry_26 : decode cX11_nameEntry 26 = .ok (.iload_n 3, 1) := by decide +kernel
theorem dX11_nameEntry_27 : decode cX11_nameEntry 27 = .ok (.iconst 3, 1) := by decide +kernel
theorem dX11_nameEntry_28 : decode cX11_nameEntry 28 = .ok (.iload_n 2, 1) := by decide +kernel
theorem dX11_nameEntry_29 : decode cX11_nameEntry 29 = .ok (.iadd, 1) := by decide +kernel
theorem dX11_nameEntry_30 : decode cX11_nameEntry 30 = .ok (.if_icmp .ge 23, 3) := by decide +kernel
theorem dX11_nameEntry_33 : decode cX11_nameEntry 33 = .ok (.aload_n 0, 1) := by decide +kernel
theorem dX11_nameEntry_34 : decode cX11_nameEntry 34 = .ok (.getfield 21, 3) := by decide +kernel
theorem dX11_nameEntry_37 : decode cX11_nameEntry 37 = .ok (.aload_n 0, 1) := by decide +kernel
theorem dX11_nameEntry_38 : decode cX11_nameEntry 38 = .ok (.iload_n 1, 1) := by decide +kernel
theorem dX11_nameEntry_39 : decode cX11_nameEntry 39 = .ok (.iload_n 3, 1) := by decide +kernel
theorem dX11_nameEntry_40 : decode cX11_nameEntry 40 = .ok (.iadd, 1) := by decide +kernel
theorem dX11_nameEntry_41 : decode cX11_nameEntry 41 = .ok (.invokevirtual 163, 3) := by decide +kernel
theorem dX11_nameEntry_44 : decode cX11_nameEntry 44 = .ok (.invokevirtual 129, 3) := by decide +kernel
theorem dX11_nameEntry_47 : decode cX11_nameEntry 47 = .ok (.iinc 3 1, 3) := by decide +kernel
theorem dX11_nameEntry_50 : decode cX11_nameEntry 50 = .ok (.goto (-24), 3) := by decide +kernel
theorem dX11_nameEntry_53 : decode cX11_nameEntry 53 = .ok (.aload_n 0, 1) := by decide +kernel
theorem dX11_nameEntry_54 : decode cX11_nameEntry 54 = .ok (.invokevirtual 160, 3) := by decide +kernel
theorem dX11_nameEntry_57 : decode cX11_nameEntry 57 = .ok (.ireturn, 1) := by decide +kernel
theorem dX11_needOf_0 : decode cX11_needOf 0 = .ok (.aload_n 0, 1) := by decide +kernel
theorem dX11_needOf_1 : decode cX11_needOf 1 = .ok (.getfield 180, 3) := by decide +kernel
theorem dX11_needOf_4 : decode cX11_needOf 4 = .ok (.iload_n 1, 1) := by decide +kernel
theorem dX11_needOf_5 : decode cX11_needOf 5 = .ok (.invokevirtual 263, 3) := by decide +kernel
theorem dX11_needOf_8 : decode cX11_needOf 8 = .ok (.lstore_n 2, 1) := by decide +kernel
theorem dX11_needOf_9 : decode cX11_needOf 9 = .ok (.aload_n 0, 1) := by decide +kernel
theorem dX11_needOf_10 : decode cX11_needOf 10 = .ok (.getfield 180, 3) := by decide +kernel
theorem dX11_needOf_13 : decode cX11_needOf 13 = .ok (.iload_n 1, 1) := by decide +kernel
theorem dX11_needOf_14 : decode cX11_needOf 14 = .ok (.invokevirtual 240, 3) := by decide +kernel
theorem dX11_needOf_17 : decode cX11_needOf 17 = .ok (.lookupswitch 107 #[(17, 51), (20, 71), (178, 93), (179, 93), (184, 100)], 51) := by decide +kernel
theorem dX11_needOf_68 : decode cX11_needOf 68 = .ok (.lload_n 2, 1) := by decide +kernel
theorem dX11_needOf_69 : decode cX11_needOf 69 = .ok (.lload_n 2, 1) := by decide +kernel
theorem dX11_needOf_70 : decode cX11_needOf 70 = .ok (.l2i, 1) := by decide +kernel
theorem dX11_needOf_71 : decode cX11_needOf 71 = .ok (.i2s, 1) := by decide +kernel
theorem dX11_needOf_72 : decode cX11_needOf 72 = .ok (.i2l, 1) := by decide +kernel
theorem dX11_needOf_73 : decode cX11_needOf 73 = .ok (.lcmp, 1) := by decide +kernel
theorem dX11_needOf_74 : decode cX11_needOf 74 = .ok (.ifCond .ne 7, 3) := by decide +kernel
theorem dX11_needOf_77 : decode cX11_needOf 77 = .ok (.iconst 0, 1) := by decide +kernel
theorem dX11_needOf_78 : decode cX11_needOf 78 = .ok (.goto 9, 3) := by decide +kernel
theorem dX11_needOf_81 : decode cX11_needOf 81 = .ok (.aload_n 0, 1) := by decide +kernel
theorem dX11_needOf_82 : decode cX11_needOf 82 = .ok (.lload_n 2, 1) := by decide +kernel

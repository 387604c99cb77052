theorem dX11_methodEntryOf_50 : decode cX11_methodEntryOf 50 = .ok (.aload_n 0, 1) := by decide +kernel
theorem dX11_methodEntryOf_51 : decode cX11_methodEntryOf 51 = .ok (.bipush 12, 2) := by decide +kernel
theorem dX11_methodEntryOf_53 : decode cX11_methodEntryOf 53 = .ok (.iload_n 2, 1) := by decide +kernel
theorem dX11_methodEntryOf_54 : decode cX11_methodEntryOf 54 = .ok (.aload_n 0, 1) := by decide +kernel
theorem dX11_methodEntryOf_55 : decode cX11_methodEntryOf 55 = .ok (.aload_n 0, 1) := by decide +kernel
theorem dX11_methodEntryOf_56 : decode cX11_methodEntryOf 56 = .ok (.getfield 56, 3) := by decide +kernel
theorem dX11_methodEntryOf_59 : decode cX11_methodEntryOf 59 = .ok (.getfield 177, 3) := by decide +kernel
theorem dX11_methodEntryOf_62 : decode cX11_methodEntryOf 62 = .ok (.iload_n 1, 1) := by decide +kernel
theorem dX11_methodEntryOf_63 : decode cX11_methodEntryOf 63 = .ok (.iaload, 1) := by decide +kernel
theorem dX11_methodEntryOf_64 : decode cX11_methodEntryOf 64 = .ok (.invokevirtual 91, 3) := by decide +kernel
theorem dX11_methodEntryOf_67 : decode cX11_methodEntryOf 67 = .ok (.invokevirtual 170, 3) := by decide +kernel
theorem dX11_methodEntryOf_70 : decode cX11_methodEntryOf 70 = .ok (.istore_n 3, 1) := by decide +kernel
theorem dX11_methodEntryOf_71 : decode cX11_methodEntryOf 71 = .ok (.aload_n 0, 1) := by decide +kernel
theorem dX11_methodEntryOf_72 : decode cX11_methodEntryOf 72 = .ok (.getfield 40, 3) := by decide +kernel
theorem dX11_methodEntryOf_75 : decode cX11_methodEntryOf 75 = .ok (.iload_n 1, 1) := by decide +kernel
theorem dX11_methodEntryOf_76 : decode cX11_methodEntryOf 76 = .ok (.aload_n 0, 1) := by decide +kernel
theorem dX11_methodEntryOf_77 : decode cX11_methodEntryOf 77 = .ok (.bipush 10, 2) := by decide +kernel
theorem dX11_methodEntryOf_79 : decode cX11_methodEntryOf 79 = .ok (.aload_n 0, 1) := by decide +kernel
theorem dX11_methodEntryOf_80 : decode cX11_methodEntryOf 80 = .ok (.getfield 99, 3) := by decide +kernel
theorem dX11_methodEntryOf_83 : decode cX11_methodEntryOf 83 = .ok (.iload_n 3, 1) := by decide +kernel
theorem dX11_methodEntryOf_84 : decode cX11_methodEntryOf 84 = .ok (.invokevirtual 170, 3) := by decide +kernel
theorem dX11_methodEntryOf_87 : decode cX11_methodEntryOf 87 = .ok (.iastore, 1) := by decide +kernel
theorem dX11_methodEntryOf_88 : decode cX11_methodEntryOf 88 = .ok (.aload_n 0, 1) := by decide +kernel
theorem dX11_methodEntryOf_89 : decode cX11_methodEntryOf 89 = .ok (.getfield 40, 3) := by decide +kernel
theorem dX11_methodEntryOf_92 : decode cX11_methodEntryOf 92 = .ok (.iload_n 1, 1) := by decide +kernel
theorem dX11_methodEntryOf_93 : decode cX11_methodEntryOf 93 = .ok (.iaload, 1) := by decide +kernel
theorem dX11_methodEntryOf_94 : decode cX11_methodEntryOf 94 = .ok (.ireturn, 1) := by decide +kernel
theorem dX11_nameEntry_0 : decode cX11_nameEntry 0 = .ok (.aload_n 0, 1) := by decide +kernel
theorem dX11_nameEntry_1 : decode cX11_nameEntry 1 = .ok (.iconst 1, 1) := by decide +kernel
theorem dX11_nameEntry_2 : decode cX11_nameEntry 2 = .ok (.invokevirtual 147, 3) := by decide +kernel
theorem dX11_nameEntry_5 : decode cX11_nameEntry 5 = .ok (.aload_n 0, 1) := by decide +kernel
theorem dX11_nameEntry_6 : decode cX11_nameEntry 6 = .ok (.iload_n 1, 1) := by decide +kernel
theorem dX11_nameEntry_7 : decode cX11_nameEntry 7 = .ok (.iconst 1, 1) := by decide +kernel
theorem dX11_nameEntry_8 : decode cX11_nameEntry 8 = .ok (.iadd, 1) := by decide +kernel
theorem dX11_nameEntry_9 : decode cX11_nameEntry 9 = .ok (.invokevirtual 163, 3) := by decide +kernel
theorem dX11_nameEntry_12 : decode cX11_nameEntry 12 = .ok (.bipush 8, 2) := by decide +kernel
theorem dX11_nameEntry_14 : decode cX11_nameEntry 14 = .ok (.ishl, 1) := by decide +kernel
theorem dX11_nameEntry_15 : decode cX11_nameEntry 15 = .ok (.aload_n 0, 1) := by decide +kernel
theorem dX11_nameEntry_16 : decode cX11_nameEntry 16 = .ok (.iload_n 1, 1) := by decide +kernel
theorem dX11_nameEntry_17 : decode cX11_nameEntry 17 = .ok (.iconst 2, 1) := by decide +kernel
theorem dX11_nameEntry_18 : decode cX11_nameEntry 18 = .ok (.iadd, 1) := by decide +kernel
theorem dX11_nameEntry_19 : decode cX11_nameEntry 19 = .ok (.invokevirtual 163, 3) := by decide +kernel
theorem dX11_nameEntry_22 : decode cX11_nameEntry 22 = .ok (.ior, 1) := by decide +kernel
theorem dX11_nameEntry_23 : decode cX11_nameEntry 23 = .ok (.istore_n 2, 1) := by decide +kernel
theorem dX11_nameEntry_24 : decode cX11_nameEntry 24 = .ok (.iconst 1, 1) := by decide +kernel
theorem dX11_nameEntry_25 : decode cX11_nameEntry 25 = .ok (.istore_n 3, 1) := by decide +kernel
theorem dX11_nameEntry_26 : decode cX11_nameEntry 26 = .ok (.iload_n 3, 1) := by decide +kernel
theorem dX11_nameEntry_27 : decode cX11_nameEntry 27 = .ok (.iconst 3, 1) := by decide +kernel
theorem dX11_nameEntry_28 : decode cX11_nameEntry 28 = .ok (.iload_n 2, 1) := by decide +kernel
theorem dX11_nameEntry_29 : decode cX11_nameEntry 29 = .ok (.iadd, 1) := by decide +kernel
theorem dX11_nameEntry_30 : decode cX11_nameEntry 30 = .ok (.if_icmp .ge 23, 3) := by decide +kernel
theorem dX11_nameEntry_33 : decode cX11_nameEntry 33 = .ok (.aload_n 0, 1) := by decide +kernel
theorem dX11_nameEntry_34 : decode cX11_nameEntry 34 = .ok (.getfield 21, 3) := by decide +kernel
theorem dX11_nameEntry_37 : decode cX11_nameEntry 37 = .ok (.aload_n 0, 1) := by decide +kernel
theorem dX11_nameEntry_38 : decode cX11_nameEntry 38 = .ok (.iload_n 1, 1) := by decide +kernel
theorem dX11_nameEntry_39 : decode cX11_nameEntry 39 = .ok (.iload_n 3, 1) := by decide +kernel
theorem dX11_nameEntry_40 : decode cX11_nameEntry 40 = .ok (.iadd, 1) := by decide +kernel
theorem dX11_nameEntry_41 : decode cX11_nameEntry 41 = .ok (.invokevirtual 163, 3) := by decide +kernel
theorem dX11_nameEntry_44 : decode cX11_nameEntry 44 = .ok (.invokevirtual 129, 3) := by decide +kernel
theorem dX11_nameEntry_47 : decode cX11_nameEntry 47 = .ok (.iinc 3 1, 3) := by decide +kernel
theorem dX11_nameEntry_50 : decode cX11_nameEntry 50 = .ok (.goto (-24), 3) := by decide +kernel
theorem dX11_nameEntry_53 : decode cX11_nameEntry 53 = .ok (.aload_n 0, 1) := by decide +kernel
theorem dX11_nameEntry_54 : decode cX11_nameEntry 54 = .ok (.invokevirtual 160, 3) := by decide +kernel
theorem dX11_nameEntry_57 : decode cX11_nameEntry 57 = .ok (.ireturn, 1) := by decide +kernel
theorem dX11_needOf_0 : decode cX11_needOf 0 = .ok (.aload_n 0, 1) := by decide +kernel
theorem dX11_needOf_1 : decode cX11_needOf 1 = .ok (.getfield 180, 3) := by decide +kernel
theorem dX11_needOf_4 : decode cX11_needOf 4 = .ok (.iload_n 1, 1) := by decide +kernel
theorem dX11_needOf_5 : decode cX11_needOf 5 = .ok (.invokevirtual 263, 3) := by decide +kernel
theorem dX11_needOf_8 : decode cX11_needOf 8 = .ok (.lstore_n 2, 1) := by decide +kernel
theorem dX11_needOf_9 : decode cX11_needOf 9 = .ok (.aload_n 0, 1) := by decide +kernel
theorem dX11_needOf_10 : decode cX11_needOf 10 = .ok (.getfield 180, 3) := by decide +kernel
theorem dX11_needOf_13 : decode cX11_needOf 13 = .ok (.iload_n 1, 1) := by decide +kernel
theorem dX11_needOf_14 : decode cX11_needOf 14 = .ok (.invokevirtual 240, 3) := by decide +kernel
theorem dX11_needOf_17 : decode cX11_needOf 17 = .ok (.lookupswitch 107 #[(17, 51), (20, 71), (178, 93), (179, 93), (184, 100)], 51) := by decide +kernel
theorem dX11_needOf_68 : decode cX11_needOf 68 = .ok (.lload_n 2, 1) := by decide +kernel
theorem dX11_needOf_69 : decode cX11_needOf 69 = .ok (.lload_n 2, 1) := by decide +kernel
theorem dX11_needOf_70 : decode cX11_needOf 70 = .ok (.l2i, 1) := by decide +kernel
theorem dX11_needOf_71 : decode cX11_needOf 71 = .ok (.i2s, 1) := by decide +kernel
theorem dX11_needOf_72 : decode cX11_needOf 72 = .ok (.i2l, 1) := by decide +kernel
theorem dX11_needOf_73 : decode cX11_needOf 73 = .ok (.lcmp, 1) := by decide +kernel
theorem dX11_needOf_74 : decode cX11_needOf 74 = .ok (.ifCond .ne 7, 3) := by decide +kernel
theorem dX11_needOf_77 : decode cX11_needOf 77 = .ok (.iconst 0, 1) := by decide +kernel
theorem dX11_needOf_78 : decode cX11_needOf 78 = .ok (.goto 9, 3) := by decide +kernel
theorem dX11_needOf_81 : decode cX11_needOf 81 = .ok (.aload_n 0, 1) := by decide +kernel
theorem dX11_needOf_82 : decode cX11_needOf 82 = .ok (.lload_n 2, 1) := by decide +kernel
theorem dX11_needOf_83 : decode cX11_needOf 83 = .ok (.l2i, 1) := by decide +kernel
theorem dX11_needOf_84 : decode cX11_needOf 84 = .ok (.invokevirtual 267, 3) := by decide +kernel
theorem dX11_needOf_87 : decode cX11_needOf 87 = .ok (.ireturn, 1) := by decide +kernel
theorem dX11_needOf_88 : decode cX11_needOf 88 = .ok (.lload_n 2, 1) := by decide +kernel
theorem dX11_needOf_89 : decode cX11_needOf 89 = .ok (.lconst 0, 1) := by decide +kernel
theorem dX11_needOf_90 : decode cX11_needOf 90 = .ok (.lcmp, 1) := by decide +kernel
theorem dX11_needOf_91 : decode cX11_needOf 91 = .ok (.ifCond .eq 9, 3) := by decide +kernel
theorem dX11_needOf_94 : decode cX11_needOf 94 = .ok (.lload_n 2, 1) := by decide +kernel
theorem dX11_needOf_95 : decode cX11_needOf 95 = .ok (.lconst 1, 1) := by decide +kernel
theorem dX11_needOf_96 : decode cX11_needOf 96 = .ok (.lcmp, 1) := by decide +kernel
theorem dX11_needOf_97 : decode cX11_needOf 97 = .ok (.ifCond .ne 7, 3) := by decide +kernel
theorem dX11_needOf_100 : decode cX11_needOf 100 = .ok (.iconst 0, 1) := by decide +kernel
theorem dX11_needOf_101 : decode cX11_needOf 101 = .ok (.goto 8, 3) := by decide +kernel
theorem dX11_needOf_104 : decode cX11_needOf 104 = .ok (.aload_n 0, 1) := by decide +kernel
theorem dX11_needOf_105 : decode cX11_needOf 105 = .ok (.lload_n 2, 1) := by decide +kernel
theorem dX11_needOf_106 : decode cX11_needOf 106 = .ok (.invokevirtual 270, 3) := by decide +kernel
theorem dX11_needOf_109 : decode cX11_needOf 109 = .ok (.ireturn, 1) := by decide +kernel
theorem dX11_needOf_110 : decode cX11_needOf 110 = .ok (.aload_n 0, 1) := by decide +kernel
theorem dX11_needOf_111 : decode cX11_needOf 111 = .ok (.lload_n 2, 1) := by decide +kernel
theorem dX11_needOf_112 : decode cX11_needOf 112 = .ok (.l2i, 1) := by decide +kernel
theorem dX11_needOf_113 : decode cX11_needOf 113 = .ok (.invokevirtual 274, 3) := by decide +kernel
theorem dX11_needOf_116 : decode cX11_needOf 116 = .ok (.ireturn, 1) := by decide +kernel
theorem dX11_needOf_117 : decode cX11_needOf 117 = .ok (.aload_n 0, 1) := by decide +kernel
theorem dX11_needOf_118 : decode cX11_needOf 118 = .ok (.lload_n 2, 1) := by decide +kernel
theorem dX11_needOf_119 : decode cX11_needOf 119 = .ok (.l2i, 1) := by decide +kernel
theorem dX11_needOf_120 : decode cX11_needOf 120 = .ok (.invokevirtual 277, 3) := by decide +kernel
theorem dX11_needOf_123 : decode cX11_needOf 123 = .ok (.ireturn, 1) := by decide +kernel
theorem dX11_needOf_124 : decode cX11_needOf 124 = .ok (.iconst 0, 1) := by decide +kernel
theorem dX11_needOf_125 : decode cX11_needOf 125 = .ok (.ireturn, 1) := by decide +kernel
theorem dX11_offsetOf_0 : decode cX11_offsetOf 0 = .ok (.iload_n 1, 1) := by decide +kernel
theorem dX11_offsetOf_1 : decode cX11_offsetOf 1 = .ok (.ifCond .lt 14, 3) := by decide +kernel
theorem dX11_offsetOf_4 : decode cX11_offsetOf 4 = .ok (.iload_n 1, 1) := by decide +kernel
theorem dX11_offsetOf_5 : decode cX11_offsetOf 5 = .ok (.aload_n 0, 1) := by decide +kernel
theorem dX11_offsetOf_6 : decode cX11_offsetOf 6 = .ok (.getfield 180, 3) := by decide +kernel
theorem dX11_offsetOf_9 : decode cX11_offsetOf 9 = .ok (.getfield 205, 3) := by decide +kernel
theorem dX11_offsetOf_12 : decode cX11_offsetOf 12 = .ok (.if_icmp .le 7, 3) := by decide +kernel
theorem dX11_offsetOf_15 : decode cX11_offsetOf 15 = .ok (.iconst 0, 1) := by decide +kernel
theorem dX11_offsetOf_16 : decode cX11_offsetOf 16 = .ok (.goto 9, 3) := by decide +kernel
theorem dX11_offsetOf_19 : decode cX11_offsetOf 19 = .ok (.aload_n 0, 1) := by decide +kernel
theorem dX11_offsetOf_20 : decode cX11_offsetOf 20 = .ok (.getfield 53, 3) := by decide +kernel
theorem dX11_offsetOf_23 : decode cX11_offsetOf 23 = .ok (.iload_n 1, 1) := by decide +kernel
theorem dX11_offsetOf_24 : decode cX11_offsetOf 24 = .ok (.iaload, 1) := by decide +kernel
theorem dX11_offsetOf_25 : decode cX11_offsetOf 25 = .ok (.ireturn, 1) := by decide +kernel
theorem dX11_pointerEntry_0 : decode cX11_pointerEntry 0 = .ok (.aload_n 0, 1) := by decide +kernel
theorem dX11_pointerEntry_1 : decode cX11_pointerEntry 1 = .ok (.iload_n 1, 1) := by decide +kernel
theorem dX11_pointerEntry_2 : decode cX11_pointerEntry 2 = .ok (.invokevirtual 147, 3) := by decide +kernel
theorem dX11_pointerEntry_5 : decode cX11_pointerEntry 5 = .ok (.aload_n 0, 1) := by decide +kernel
theorem dX11_pointerEntry_6 : decode cX11_pointerEntry 6 = .ok (.getfield 21, 3) := by decide +kernel
theorem dX11_pointerEntry_9 : decode cX11_pointerEntry 9 = .ok (.iload_n 2, 1) := by decide +kernel
theorem dX11_pointerEntry_10 : decode cX11_pointerEntry 10 = .ok (.invokevirtual 105, 3) := by decide +kernel
theorem dX11_pointerEntry_13 : decode cX11_pointerEntry 13 = .ok (.aload_n 0, 1) := by decide +kernel
theorem dX11_pointerEntry_14 : decode cX11_pointerEntry 14 = .ok (.invokevirtual 160, 3) := by decide +kernel
theorem dX11_pointerEntry_17 : decode cX11_pointerEntry 17 = .ok (.ireturn, 1) := by decide +kernel
theorem dX11_pointersEntry_0 : decode cX11_pointersEntry 0 = .ok (.aload_n 0, 1) := by decide +kernel
theorem dX11_pointersEntry_1 : decode cX11_pointersEntry 1 = .ok (.iload_n 1, 1) := by decide +kernel
theorem dX11_pointersEntry_2 : decode cX11_pointersEntry 2 = .ok (.invokevirtual 147, 3) := by decide +kernel
theorem dX11_pointersEntry_5 : decode cX11_pointersEntry 5 = .ok (.aload_n 0, 1) := by decide +kernel
theorem dX11_pointersEntry_6 : decode cX11_pointersEntry 6 = .ok (.getfield 21, 3) := by decide +kernel
theorem dX11_pointersEntry_9 : decode cX11_pointersEntry 9 = .ok (.iload_n 2, 1) := by decide +kernel
theorem dX11_pointersEntry_10 : decode cX11_pointersEntry 10 = .ok (.invokevirtual 105, 3) := by decide +kernel
theorem dX11_pointersEntry_13 : decode cX11_pointersEntry 13 = .ok (.aload_n 0, 1) := by decide +kernel
theorem dX11_pointersEntry_14 : decode cX11_pointersEntry 14 = .ok (.getfield 21, 3) := by decide +kernel
theorem dX11_pointersEntry_17 : decode cX11_pointersEntry 17 = .ok (.iload_n 3, 1) := by decide +kernel
theorem dX11_pointersEntry_18 : decode cX11_pointersEntry 18 = .ok (.invokevirtual 105, 3) := by decide +kernel
theorem dX11_pointersEntry_21 : decode cX11_pointersEntry 21 = .ok (.aload_n 0, 1) := by decide +kernel

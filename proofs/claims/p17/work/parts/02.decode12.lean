theorem dX11_needOf_83 : decode cX11_needOf 83 = .ok (.l2i, 1) := by decide +kernel
theorem dX11_needOf_84 : decode cX11_needOf 84 = .ok (.invokevirtual 267, 3) := by decide +kernel
theorem dX11_needOf_87 : decode cX11_needOf 87 = .ok (.ireturn, 1) := by decide +kernel
theorem dX11_needOf_88 : decode cX11_needOf 88 = .ok (.lload_n 2, 1) := by decide +kernel
theorem dX11_needOf_89 : decode cX11_needOf 89 = .ok (.lconst 0, 1) := by decide +kernel
theorem dX11_needOf_90 : decode cX11_needOf 90 = .ok (.lcmp, 1) := by decide +kernel
theorem dX11_needOf_91 : decode cX11_needOf 91 = .ok (.ifCond .eq 9, 3) := by decide +kernel
theorem dX11_needOf_94 : decode cX11_needOf 94 = .ok (.lload_n 2, 1) := by decide +kernel
theorem dX11_needOf_95 : decode cX11_needOf 95 = .ok (.lconst 1, 1) := by decide +kernel
theorem dX11_needOf_96 : decode cX11_needOf 96 = .ok (.lcmp, 1) := by decide +kernel
theorem dX11_needOf_97 : decode cX11_needOf 97 = .ok (.ifCond .ne 7, 3) := by decide +kernel
theorem dX11_needOf_100 : decode cX11_needOf 100 = .ok (.iconst 0, 1) := by decide +kernel
theorem dX11_needOf_101 : decode cX11_needOf 101 = .ok (.goto 8, 3) := by decide +kernel
theorem dX11_needOf_104 : decode cX11_needOf 104 = .ok (.aload_n 0, 1) := by decide +kernel
theorem dX11_needOf_105 : decode cX11_needOf 105 = .ok (.lload_n 2, 1) := by decide +kernel
theorem dX11_needOf_106 : decode cX11_needOf 106 = .ok (.invokevirtual 270, 3) := by decide +kernel
theorem dX11_needOf_109 : decode cX11_needOf 109 = .ok (.ireturn, 1) := by decide +kernel
theorem dX11_needOf_110 : decode cX11_needOf 110 = .ok (.aload_n 0, 1) := by decide +kernel
theorem dX11_needOf_111 : decode cX11_needOf 111 = .ok (.lload_n 2, 1) := by decide +kernel
theorem dX11_needOf_112 : decode cX11_needOf 112 = .ok (.l2i, 1) := by decide +kernel
theorem dX11_needOf_113 : decode cX11_needOf 113 = .ok (.invokevirtual 274, 3) := by decide +kernel
theorem dX11_needOf_116 : decode cX11_needOf 116 = .ok (.ireturn, 1) := by decide +kernel
theorem dX11_needOf_117 : decode cX11_needOf 117 = .ok (.aload_n 0, 1) := by decide +kernel
theorem dX11_needOf_118 : decode cX11_needOf 118 = .ok (.lload_n 2, 1) := by decide +kernel
theorem dX11_needOf_119 : decode cX11_needOf 119 = .ok (.l2i, 1) := by decide +kernel
theorem dX11_needOf_120 : decode cX11_needOf 120 = .ok (.invokevirtual 277, 3) := by decide +kernel
theorem dX11_needOf_123 : decode cX11_needOf 123 = .ok (.ireturn, 1) := by decide +kernel
theorem dX11_needOf_124 : decode cX11_needOf 124 = .ok (.iconst 0, 1) := by decide +kernel
theorem dX11_needOf_125 : decode cX11_needOf 125 = .ok (.ireturn, 1) := by decide +kernel
theorem dX11_offsetOf_0 : decode cX11_offsetOf 0 = .ok (.iload_n 1, 1) := by decide +kernel
theorem dX11_offsetOf_1 : decode cX11_offsetOf 1 = .ok (.ifCond .lt 14, 3) := by decide +kernel
theorem dX11_offsetOf_4 : decode cX11_offsetOf 4 = .ok (.iload_n 1, 1) := by decide +kernel
theorem dX11_offsetOf_5 : decode cX11_offsetOf 5 = .ok (.aload_n 0, 1) := by decide +kernel
theorem dX11_offsetOf_6 : decode cX11_offsetOf 6 = .ok (.getfield 180, 3) := by decide +kernel
theorem dX11_offsetOf_9 : decode cX11_offsetOf 9 = .ok (.getfield 205, 3) := by decide +kernel
theorem dX11_offsetOf_12 : decode cX11_offsetOf 12 = .ok (.if_icmp .le 7, 3) := by decide +kernel
theorem dX11_offsetOf_15 : decode cX11_offsetOf 15 = .ok (.iconst 0, 1) := by decide +kernel
theorem dX11_offsetOf_16 : decode cX11_offsetOf 16 = .ok (.goto 9, 3) := by decide +kernel
theorem dX11_offsetOf_19 : decode cX11_offsetOf 19 = .ok (.aload_n 0, 1) := by decide +kernel
theorem dX11_offsetOf_20 : decode cX11_offsetOf 20 = .ok (.getfield 53, 3) := by decide +kernel
theorem dX11_offsetOf_23 : decode cX11_offsetOf 23 = .ok (.iload_n 1, 1) := by decide +kernel
theorem dX11_offsetOf_24 : decode cX11_offsetOf 24 = .ok (.iaload, 1) := by decide +kernel
theorem dX11_offsetOf_25 : decode cX11_offsetOf 25 = .ok (.ireturn, 1) := by decide +kernel
theorem dX11_pointerEntry_0 : decode cX11_pointerEntry 0 = .ok (.aload_n 0, 1) := by decide +kernel
theorem dX11_pointerEntry_1 : decode cX11_pointerEntry 1 = .ok (.iload_n 1, 1) := by decide +kernel
theorem dX11_pointerEntry_2 : decode cX11_pointerEntry 2 = .ok (.invokevirtual 147, 3) := by decide +kernel
theorem dX11_pointerEntry_5 : decode cX11_pointerEntry 5 = .ok (.aload_n 0, 1) := by decide +kernel
theorem dX11_pointerEntry_6 : decode cX11_pointerEntry 6 = .ok (.getfield 21, 3) := by decide +kernel
theorem dX11_pointerEntry_9 : decode cX11_pointerEntry 9 = .ok (.iload_n 2, 1) := by decide +kernel
theorem dX11_pointerEntry_10 : decode cX11_pointerEntry 10 = .ok (.invokevirtual 105, 3) := by decide +kernel
theorem dX11_pointerEntry_13 : decode cX11_pointerEntry 13 = .ok (.aload_n 0, 1) := by decide +kernel
theorem dX11_pointerEntry_14 : decode cX11_pointerEntry 14 = .ok (.invokevirtual 160, 3) := by decide +kernel
theorem dX11_pointerEntry_17 : decode cX11_pointerEntry 17 = .ok (.ireturn, 1) := by decide +kernel
theorem dX11_pointersEntry_0 : decode cX11_pointersEntry 0 = .ok (.aload_n 0, 1) := by decide +kernel
theorem dX11_pointersEntry_1 : decode cX11_pointersEntry 1 = .ok (.iload_n 1, 1) := by decide +kernel
theorem dX11_pointersEntry_2 : decode cX11_pointersEntry 2 = .ok (.invokevirtual 147, 3) := by decide +kernel
theorem dX11_pointersEntry_5 : decode cX11_pointersEntry 5 = .ok (.aload_n 0, 1) := by decide +kernel
theorem dX11_pointersEntry_6 : decode cX11_pointersEntry 6 = .ok (.getfield 21, 3) := by decide +kernel
theorem dX11_pointersEntry_9 : decode cX11_pointersEntry 9 = .ok (.iload_n 2, 1) := by decide +kernel
theorem dX11_pointersEntry_10 : decode cX11_pointersEntry 10 = .ok (.invokevirtual 105, 3) := by decide +kernel
theorem dX11_pointersEntry_13 : decode cX11_pointersEntry 13 = .ok (.aload_n 0, 1) := by decide +kernel
theorem dX11_pointersEntry_14 : decode cX11_pointersEntry 14 = .ok (.getfield 21, 3) := by decide +kernel
theorem dX11_pointersEntry_17 : decode cX11_pointersEntry 17 = .ok (.iload_n 3, 1) := by decide +kernel
theorem dX11_pointersEntry_18 : decode cX11_pointersEntry 18 = .ok (.invokevirtual 105, 3) := by decide +kernel
theorem dX11_pointersEntry_21 : decode cX11_pointersEntry 21 = .ok (.aload_n 0, 1) := by decide +kernel
theorem dX11_pointersEntry_22 : decode cX11_pointersEntry 22 = .ok (.invokevirtual 160, 3) := by decide +kernel
theorem dX11_pointersEntry_25 : decode cX11_pointersEntry 25 = .ok (.ireturn, 1) := by decide +kernel
theorem dX11_putGrow_0 : decode cX11_putGrow 0 = .ok (.iload_n 2, 1) := by decide +kernel
theorem dX11_putGrow_1 : decode cX11_putGrow 1 = .ok (.i2l, 1) := by decide +kernel
theorem dX11_putGrow_2 : decode cX11_putGrow 2 = .ok (.invokestatic 298, 3) := by decide +kernel
theorem dX11_putGrow_5 : decode cX11_putGrow 5 = .ok (.ifCond .eq 32, 3) := by decide +kernel
theorem dX11_putGrow_8 : decode cX11_putGrow 8 = .ok (.aload_n 0, 1) := by decide +kernel
theorem dX11_putGrow_9 : decode cX11_putGrow 9 = .ok (.getfield 18, 3) := by decide +kernel
theorem dX11_putGrow_12 : decode cX11_putGrow 12 = .ok (.sipush 132, 3) := by decide +kernel
theorem dX11_putGrow_15 : decode cX11_putGrow 15 = .ok (.invokevirtual 129, 3) := by decide +kernel
theorem dX11_putGrow_18 : decode cX11_putGrow 18 = .ok (.aload_n 0, 1) := by decide +kernel
theorem dX11_putGrow_19 : decode cX11_putGrow 19 = .ok (.getfield 18, 3) := by decide +kernel
theorem dX11_putGrow_22 : decode cX11_putGrow 22 = .ok (.iload_n 1, 1) := by decide +kernel
theorem dX11_putGrow_23 : decode cX11_putGrow 23 = .ok (.invokevirtual 129, 3) := by decide +kernel
theorem dX11_putGrow_26 : decode cX11_putGrow 26 = .ok (.aload_n 0, 1) := by decide +kernel
theorem dX11_putGrow_27 : decode cX11_putGrow 27 = .ok (.getfield 18, 3) := by decide +kernel
theorem dX11_putGrow_30 : decode cX11_putGrow 30 = .ok (.iload_n 2, 1) := by decide +kernel
theorem dX11_putGrow_31 : decode cX11_putGrow 31 = .ok (.invokevirtual 129, 3) := by decide +kernel
theorem dX11_putGrow_34 : decode cX11_putGrow 34 = .ok (.goto 39, 3) := by decide +kernel
theorem dX11_putGrow_37 : decode cX11_putGrow 37 = .ok (.aload_n 0, 1) := by decide +kernel
theorem dX11_putGrow_38 : decode cX11_putGrow 38 = .ok (.getfield 18, 3) := by decide +kernel
theorem dX11_putGrow_41 : decode cX11_putGrow 41 = .ok (.sipush 196, 3) := by decide +kernel
theorem dX11_putGrow_44 : decode cX11_putGrow 44 = .ok (.invokevirtual 129, 3) := by decide +kernel
theorem dX11_putGrow_47 : decode cX11_putGrow 47 = .ok (.aload_n 0, 1) := by decide +kernel
theorem dX11_putGrow_48 : decode cX11_putGrow 48 = .ok (.getfield 18, 3) := by decide +kernel
theorem dX11_putGrow_51 : decode cX11_putGrow 51 = .ok (.sipush 132, 3) := by decide +kernel
theorem dX11_putGrow_54 : decode cX11_putGrow 54 = .ok (.invokevirtual 129, 3) := by decide +kernel
theorem dX11_putGrow_57 : decode cX11_putGrow 57 = .ok (.aload_n 0, 1) := by decide +kernel
theorem dX11_putGrow_58 : decode cX11_putGrow 58 = .ok (.getfield 18, 3) := by decide +kernel
theorem dX11_putGrow_61 : decode cX11_putGrow 61 = .ok (.iload_n 1, 1) := by decide +kernel
theorem dX11_putGrow_62 : decode cX11_putGrow 62 = .ok (.invokevirtual 105, 3) := by decide +kernel
theorem dX11_putGrow_65 : decode cX11_putGrow 65 = .ok (.aload_n 0, 1) := by decide +kernel
theorem dX11_putGrow_66 : decode cX11_putGrow 66 = .ok (.getfield 18, 3) := by decide +kernel
theorem dX11_putGrow_69 : decode cX11_putGrow 69 = .ok (.iload_n 2, 1) := by decide +kernel
theorem dX11_putGrow_70 : decode cX11_putGrow 70 = .ok (.invokevirtual 105, 3) := by decide +kernel
theorem dX11_putGrow_73 : decode cX11_putGrow 73 = .ok (.return_, 1) := by decide +kernel
theorem dX11_putInstruction_0 : decode cX11_putInstruction 0 = .ok (.aload_n 0, 1) := by decide +kernel
theorem dX11_putInstruction_1 : decode cX11_putInstruction 1 = .ok (.getfield 180, 3) := by decide +kernel
theorem dX11_putInstruction_4 : decode cX11_putInstruction 4 = .ok (.iload_n 1, 1) := by decide +kernel
theorem dX11_putInstruction_5 : decode cX11_putInstruction 5 = .ok (.invokevirtual 240, 3) := by decide +kernel
theorem dX11_putInstruction_8 : decode cX11_putInstruction 8 = .ok (.istore_n 3, 1) := by decide +kernel
theorem dX11_putInstruction_9 : decode cX11_putInstruction 9 = .ok (.aload_n 0, 1) := by decide +kernel
theorem dX11_putInstruction_10 : decode cX11_putInstruction 10 = .ok (.getfield 180, 3) := by decide +kernel
theorem dX11_putInstruction_13 : decode cX11_putInstruction 13 = .ok (.iload_n 1, 1) := by decide +kernel
theorem dX11_putInstruction_14 : decode cX11_putInstruction 14 = .ok (.invokevirtual 263, 3) := by decide +kernel
theorem dX11_putInstruction_17 : decode cX11_putInstruction 17 = .ok (.lstore 4, 2) := by decide +kernel
theorem dX11_putInstruction_19 : decode cX11_putInstruction 19 = .ok (.iload_n 3, 1) := by decide +kernel
theorem dX11_putInstruction_20 : decode cX11_putInstruction 20 = .ok (.invokestatic 280, 3) := by decide +kernel
theorem dX11_putInstruction_23 : decode cX11_putInstruction 23 = .ok (.ifCond .ne 10, 3) := by decide +kernel
theorem dX11_putInstruction_26 : decode cX11_putInstruction 26 = .ok (.iload_n 3, 1) := by decide +kernel
theorem dX11_putInstruction_27 : decode cX11_putInstruction 27 = .ok (.invokestatic 283, 3) := by decide +kernel
theorem dX11_putInstruction_30 : decode cX11_putInstruction 30 = .ok (.ifCond .eq 14, 3) := by decide +kernel
theorem dX11_putInstruction_33 : decode cX11_putInstruction 33 = .ok (.aload_n 0, 1) := by decide +kernel
theorem dX11_putInstruction_34 : decode cX11_putInstruction 34 = .ok (.iload_n 3, 1) := by decide +kernel
theorem dX11_putInstruction_35 : decode cX11_putInstruction 35 = .ok (.lload 4, 2) := by decide +kernel
theorem dX11_putInstruction_37 : decode cX11_putInstruction 37 = .ok (.l2i, 1) := by decide +kernel
theorem dX11_putInstruction_38 : decode cX11_putInstruction 38 = .ok (.invokevirtual 309, 3) := by decide +kernel
theorem dX11_putInstruction_41 : decode cX11_putInstruction 41 = .ok (.goto 191, 3) := by decide +kernel
theorem dX11_putInstruction_44 : decode cX11_putInstruction 44 = .ok (.iload_n 3, 1) := by decide +kernel
theorem dX11_putInstruction_45 : decode cX11_putInstruction 45 = .ok (.invokestatic 288, 3) := by decide +kernel
theorem dX11_putInstruction_48 : decode cX11_putInstruction 48 = .ok (.ifCond .eq 34, 3) := by decide +kernel
theorem dX11_putInstruction_51 : decode cX11_putInstruction 51 = .ok (.aload_n 0, 1) := by decide +kernel
theorem dX11_putInstruction_52 : decode cX11_putInstruction 52 = .ok (.getfield 18, 3) := by decide +kernel
theorem dX11_putInstruction_55 : decode cX11_putInstruction 55 = .ok (.iload_n 3, 1) := by decide +kernel
theorem dX11_putInstruction_56 : decode cX11_putInstruction 56 = .ok (.invokevirtual 129, 3) := by decide +kernel
theorem dX11_putInstruction_59 : decode cX11_putInstruction 59 = .ok (.aload_n 0, 1) := by decide +kernel
theorem dX11_putInstruction_60 : decode cX11_putInstruction 60 = .ok (.getfield 18, 3) := by decide +kernel
theorem dX11_putInstruction_63 : decode cX11_putInstruction 63 = .ok (.aload_n 0, 1) := by decide +kernel
theorem dX11_putInstruction_64 : decode cX11_putInstruction 64 = .ok (.lload 4, 2) := by decide +kernel
theorem dX11_putInstruction_66 : decode cX11_putInstruction 66 = .ok (.l2i, 1) := by decide +kernel
theorem dX11_putInstruction_67 : decode cX11_putInstruction 67 = .ok (.invokevirtual 213, 3) := by decide +kernel
theorem dX11_putInstruction_70 : decode cX11_putInstruction 70 = .ok (.aload_n 0, 1) := by decide +kernel
theorem dX11_putInstruction_71 : decode cX11_putInstruction 71 = .ok (.iload_n 1, 1) := by decide +kernel
theorem dX11_putInstruction_72 : decode cX11_putInstruction 72 = .ok (.invokevirtual 213, 3) := by decide +kernel
theorem dX11_putInstruction_75 : decode cX11_putInstruction 75 = .ok (.isub, 1) := by decide +kernel
theorem dX11_putInstruction_76 : decode cX11_putInstruction 76 = .ok (.invokevirtual 105, 3) := by decide +kernel
theorem dX11_putInstruction_79 : decode cX11_putInstruction 79 = .ok (.goto 153, 3) := by decide +kernel
theorem dX11_putInstruction_82 : decode cX11_putInstruction 82 = .ok (.iload_n 3, 1) := by decide +kernel
theorem dX11_putInstruction_83 : decode cX11_putInstruction 83 = .ok (.invokestatic 312, 3) := by decide +kernel
theorem dX11_putInstruction_86 : decode cX11_putInstruction 86 = .ok (.ifCond .eq 12, 3) := by decide +kernel
theorem dX11_putInstruction_89 : decode cX11_putInstruction 89 = .ok (.aload_n 0, 1) := by decide +kernel
theorem dX11_putInstruction_90 : decode cX11_putInstruction 90 = .ok (.iload_n 1, 1) := by decide +kernel
theorem dX11_putInstruction_91 : decode cX11_putInstruction 91 = .ok (.iload_n 2, 1) := by decide +kernel
theorem dX11_putInstruction_92 : decode cX11_putInstruction 92 = .ok (.invokevirtual 315, 3) := by decide +kernel
theorem dX11_putInstruction_95 : decode cX11_putInstruction 95 = .ok (.goto 137, 3) := by decide +kernel

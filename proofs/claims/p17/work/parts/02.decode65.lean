theorem dX6_placesOf_21 : decode cX6_placesOf 21 = .ok (.iconst 1, 1) := by decide +kernel
theorem dX6_placesOf_22 : decode cX6_placesOf 22 = .ok (.iadd, 1) := by decide +kernel
theorem dX6_placesOf_23 : decode cX6_placesOf 23 = .ok (.istore_n 1, 1) := by decide +kernel
theorem dX6_placesOf_24 : decode cX6_placesOf 24 = .ok (.iload_n 2, 1) := by decide +kernel
theorem dX6_placesOf_25 : decode cX6_placesOf 25 = .ok (.iconst 4, 1) := by decide +kernel
theorem dX6_placesOf_26 : decode cX6_placesOf 26 = .ok (.ishr, 1) := by decide +kernel
theorem dX6_placesOf_27 : decode cX6_placesOf 27 = .ok (.istore_n 2, 1) := by decide +kernel
theorem dX6_placesOf_28 : decode cX6_placesOf 28 = .ok (.goto (-24), 3) := by decide +kernel
theorem dX6_placesOf_31 : decode cX6_placesOf 31 = .ok (.iload_n 1, 1) := by decide +kernel
theorem dX6_placesOf_32 : decode cX6_placesOf 32 = .ok (.ireturn, 1) := by decide +kernel
theorem dX6_takes_0 : decode cX6_takes 0 = .ok (.iload_n 0, 1) := by decide +kernel
theorem dX6_takes_1 : decode cX6_takes 1 = .ok (.ifCond .lt 11, 3) := by decide +kernel
theorem dX6_takes_4 : decode cX6_takes 4 = .ok (.iload_n 0, 1) := by decide +kernel
theorem dX6_takes_5 : decode cX6_takes 5 = .ok (.getstatic 22, 3) := by decide +kernel
theorem dX6_takes_8 : decode cX6_takes 8 = .ok (.arraylength, 1) := by decide +kernel
theorem dX6_takes_9 : decode cX6_takes 9 = .ok (.if_icmp .lt 7, 3) := by decide +kernel
theorem dX6_takes_12 : decode cX6_takes 12 = .ok (.iconst 0, 1) := by decide +kernel
theorem dX6_takes_13 : decode cX6_takes 13 = .ok (.goto 8, 3) := by decide +kernel
theorem dX6_takes_16 : decode cX6_takes 16 = .ok (.getstatic 22, 3) := by decide +kernel
theorem dX6_takes_19 : decode cX6_takes 19 = .ok (.iload_n 0, 1) := by decide +kernel
theorem dX6_takes_20 : decode cX6_takes 20 = .ok (.iaload, 1) := by decide +kernel
theorem dX6_takes_21 : decode cX6_takes 21 = .ok (.ireturn, 1) := by decide +kernel
theorem dX6_unary_0 : decode cX6_unary 0 = .ok (.iload_n 0, 1) := by decide +kernel
theorem dX6_unary_1 : decode cX6_unary 1 = .ok (.lookupswitch 86 #[(116, 59), (117, 64), (136, 67), (145, 71), (146, 76), (147, 81)], 59) := by decide +kernel
theorem dX6_unary_60 : decode cX6_unary 60 = .ok (.lload_n 1, 1) := by decide +kernel
theorem dX6_unary_61 : decode cX6_unary 61 = .ok (.l2i, 1) := by decide +kernel
theorem dX6_unary_62 : decode cX6_unary 62 = .ok (.ineg, 1) := by decide +kernel
theorem dX6_unary_63 : decode cX6_unary 63 = .ok (.i2l, 1) := by decide +kernel
theorem dX6_unary_64 : decode cX6_unary 64 = .ok (.lreturn, 1) := by decide +kernel
theorem dX6_unary_65 : decode cX6_unary 65 = .ok (.lload_n 1, 1) := by decide +kernel
theorem dX6_unary_66 : decode cX6_unary 66 = .ok (.lneg, 1) := by decide +kernel
theorem dX6_unary_67 : decode cX6_unary 67 = .ok (.lreturn, 1) := by decide +kernel
theorem dX6_unary_68 : decode cX6_unary 68 = .ok (.lload_n 1, 1) := by decide +kernel
theorem dX6_unary_69 : decode cX6_unary 69 = .ok (.l2i, 1) := by decide +kernel
theorem dX6_unary_70 : decode cX6_unary 70 = .ok (.i2l, 1) := by decide +kernel
theorem dX6_unary_71 : decode cX6_unary 71 = .ok (.lreturn, 1) := by decide +kernel
theorem dX6_unary_72 : decode cX6_unary 72 = .ok (.lload_n 1, 1) := by decide +kernel
theorem dX6_unary_73 : decode cX6_unary 73 = .ok (.l2i, 1) := by decide +kernel
theorem dX6_unary_74 : decode cX6_unary 74 = .ok (.i2b, 1) := by decide +kernel
theorem dX6_unary_75 : decode cX6_unary 75 = .ok (.i2l, 1) := by decide +kernel
theorem dX6_unary_76 : decode cX6_unary 76 = .ok (.lreturn, 1) := by decide +kernel
theorem dX6_unary_77 : decode cX6_unary 77 = .ok (.lload_n 1, 1) := by decide +kernel
theorem dX6_unary_78 : decode cX6_unary 78 = .ok (.l2i, 1) := by decide +kernel
theorem dX6_unary_79 : decode cX6_unary 79 = .ok (.i2c, 1) := by decide +kernel
theorem dX6_unary_80 : decode cX6_unary 80 = .ok (.i2l, 1) := by decide +kernel
theorem dX6_unary_81 : decode cX6_unary 81 = .ok (.lreturn, 1) := by decide +kernel
theorem dX6_unary_82 : decode cX6_unary 82 = .ok (.lload_n 1, 1) := by decide +kernel
theorem dX6_unary_83 : decode cX6_unary 83 = .ok (.l2i, 1) := by decide +kernel
theorem dX6_unary_84 : decode cX6_unary 84 = .ok (.i2s, 1) := by decide +kernel
theorem dX6_unary_85 : decode cX6_unary 85 = .ok (.i2l, 1) := by decide +kernel
theorem dX6_unary_86 : decode cX6_unary 86 = .ok (.lreturn, 1) := by decide +kernel
theorem dX6_unary_87 : decode cX6_unary 87 = .ok (.lload_n 1, 1) := by decide +kernel
theorem dX6_unary_88 : decode cX6_unary 88 = .ok (.lreturn, 1) := by decide +kernel
theorem dX6_usesLocal_0 : decode cX6_usesLocal 0 = .ok (.iload_n 0, 1) := by decide +kernel
theorem dX6_usesLocal_1 : decode cX6_usesLocal 1 = .ok (.invokestatic 9, 3) := by decide +kernel
theorem dX6_usesLocal_4 : decode cX6_usesLocal 4 = .ok (.ifCond .ne 17, 3) := by decide +kernel
theorem dX6_usesLocal_7 : decode cX6_usesLocal 7 = .ok (.iload_n 0, 1) := by decide +kernel
theorem dX6_usesLocal_8 : decode cX6_usesLocal 8 = .ok (.invokestatic 15, 3) := by decide +kernel
theorem dX6_usesLocal_11 : decode cX6_usesLocal 11 = .ok (.ifCond .ne 10, 3) := by decide +kernel
theorem dX6_usesLocal_14 : decode cX6_usesLocal 14 = .ok (.iload_n 0, 1) := by decide +kernel
theorem dX6_usesLocal_15 : decode cX6_usesLocal 15 = .ok (.sipush 132, 3) := by decide +kernel
theorem dX6_usesLocal_18 : decode cX6_usesLocal 18 = .ok (.if_icmp .ne 7, 3) := by decide +kernel
theorem dX6_usesLocal_21 : decode cX6_usesLocal 21 = .ok (.iconst 1, 1) := by decide +kernel
theorem dX6_usesLocal_22 : decode cX6_usesLocal 22 = .ok (.goto 4, 3) := by decide +kernel
theorem dX6_usesLocal_25 : decode cX6_usesLocal 25 = .ok (.iconst 0, 1) := by decide +kernel
theorem dX6_usesLocal_26 : decode cX6_usesLocal 26 = .ok (.ireturn, 1) := by decide +kernel
theorem dX7_attributeNamesHold_0 : decode cX7_attributeNamesHold 0 = .ok (.aload_n 0, 1) := by decide +kernel
theorem dX7_attributeNamesHold_1 : decode cX7_attributeNamesHold 1 = .ok (.iload_n 1, 1) := by decide +kernel
theorem dX7_attributeNamesHold_2 : decode cX7_attributeNamesHold 2 = .ok (.invokevirtual 107, 3) := by decide +kernel
theorem dX7_attributeNamesHold_5 : decode cX7_attributeNamesHold 5 = .ok (.istore_n 2, 1) := by decide +kernel
theorem dX7_attributeNamesHold_6 : decode cX7_attributeNamesHold 6 = .ok (.iload_n 1, 1) := by decide +kernel
theorem dX7_attributeNamesHold_7 : decode cX7_attributeNamesHold 7 = .ok (.iconst 2, 1) := by decide +kernel
theorem dX7_attributeNamesHold_8 : decode cX7_attributeNamesHold 8 = .ok (.iadd, 1) := by decide +kernel
theorem dX7_attributeNamesHold_9 : decode cX7_attributeNamesHold 9 = .ok (.istore_n 3, 1) := by decide +kernel
theorem dX7_attributeNamesHold_10 : decode cX7_attributeNamesHold 10 = .ok (.iconst 0, 1) := by decide +kernel
theorem dX7_attributeNamesHold_11 : decode cX7_attributeNamesHold 11 = .ok (.istore 4, 2) := by decide +kernel
theorem dX7_attributeNamesHold_13 : decode cX7_attributeNamesHold 13 = .ok (.iload 4, 2) := by decide +kernel
theorem dX7_attributeNamesHold_15 : decode cX7_attributeNamesHold 15 = .ok (.iload_n 2, 1) := by decide +kernel
theorem dX7_attributeNamesHold_16 : decode cX7_attributeNamesHold 16 = .ok (.if_icmp .ge 32, 3) := by decide +kernel
theorem dX7_attributeNamesHold_19 : decode cX7_attributeNamesHold 19 = .ok (.aload_n 0, 1) := by decide +kernel
theorem dX7_attributeNamesHold_20 : decode cX7_attributeNamesHold 20 = .ok (.iload_n 3, 1) := by decide +kernel
theorem dX7_attributeNamesHold_21 : decode cX7_attributeNamesHold 21 = .ok (.invokevirtual 168, 3) := by decide +kernel
theorem dX7_attributeNamesHold_24 : decode cX7_attributeNamesHold 24 = .ok (.ifCond .ne 5, 3) := by decide +kernel
theorem dX7_attributeNamesHold_27 : decode cX7_attributeNamesHold 27 = .ok (.iconst 0, 1) := by decide +kernel
theorem dX7_attributeNamesHold_28 : decode cX7_attributeNamesHold 28 = .ok (.ireturn, 1) := by decide +kernel
theorem dX7_attributeNamesHold_29 : decode cX7_attributeNamesHold 29 = .ok (.iload_n 3, 1) := by decide +kernel
theorem dX7_attributeNamesHold_30 : decode cX7_attributeNamesHold 30 = .ok (.bipush 6, 2) := by decide +kernel
theorem dX7_attributeNamesHold_32 : decode cX7_attributeNamesHold 32 = .ok (.aload_n 0, 1) := by decide +kernel
theorem dX7_attributeNamesHold_33 : decode cX7_attributeNamesHold 33 = .ok (.iload_n 3, 1) := by decide +kernel
theorem dX7_attributeNamesHold_34 : decode cX7_attributeNamesHold 34 = .ok (.iconst 2, 1) := by decide +kernel
theorem dX7_attributeNamesHold_35 : decode cX7_attributeNamesHold 35 = .ok (.iadd, 1) := by decide +kernel
theorem dX7_attributeNamesHold_36 : decode cX7_attributeNamesHold 36 = .ok (.invokevirtual 91, 3) := by decide +kernel
theorem dX7_attributeNamesHold_39 : decode cX7_attributeNamesHold 39 = .ok (.iadd, 1) := by decide +kernel
theorem dX7_attributeNamesHold_40 : decode cX7_attributeNamesHold 40 = .ok (.iadd, 1) := by decide +kernel
theorem dX7_attributeNamesHold_41 : decode cX7_attributeNamesHold 41 = .ok (.istore_n 3, 1) := by decide +kernel
theorem dX7_attributeNamesHold_42 : decode cX7_attributeNamesHold 42 = .ok (.iinc 4 1, 3) := by decide +kernel
theorem dX7_attributeNamesHold_45 : decode cX7_attributeNamesHold 45 = .ok (.goto (-32), 3) := by decide +kernel
theorem dX7_attributeNamesHold_48 : decode cX7_attributeNamesHold 48 = .ok (.iconst 1, 1) := by decide +kernel
theorem dX7_attributeNamesHold_49 : decode cX7_attributeNamesHold 49 = .ok (.ireturn, 1) := by decide +kernel
theorem dX7_attributesFit_0 : decode cX7_attributesFit 0 = .ok (.aload_n 0, 1) := by decide +kernel
theorem dX7_attributesFit_1 : decode cX7_attributesFit 1 = .ok (.iconst 2, 1) := by decide +kernel
theorem dX7_attributesFit_2 : decode cX7_attributesFit 2 = .ok (.invokevirtual 103, 3) := by decide +kernel
theorem dX7_attributesFit_5 : decode cX7_attributesFit 5 = .ok (.ifCond .ne 5, 3) := by decide +kernel
theorem dX7_attributesFit_8 : decode cX7_attributesFit 8 = .ok (.iconst 0, 1) := by decide +kernel
theorem dX7_attributesFit_9 : decode cX7_attributesFit 9 = .ok (.ireturn, 1) := by decide +kernel
theorem dX7_attributesFit_10 : decode cX7_attributesFit 10 = .ok (.aload_n 0, 1) := by decide +kernel
theorem dX7_attributesFit_11 : decode cX7_attributesFit 11 = .ok (.aload_n 0, 1) := by decide +kernel
theorem dX7_attributesFit_12 : decode cX7_attributesFit 12 = .ok (.getfield 44, 3) := by decide +kernel
theorem dX7_attributesFit_15 : decode cX7_attributesFit 15 = .ok (.invokevirtual 107, 3) := by decide +kernel
theorem dX7_attributesFit_18 : decode cX7_attributesFit 18 = .ok (.istore_n 1, 1) := by decide +kernel
theorem dX7_attributesFit_19 : decode cX7_attributesFit 19 = .ok (.aload_n 0, 1) := by decide +kernel
theorem dX7_attributesFit_20 : decode cX7_attributesFit 20 = .ok (.dup, 1) := by decide +kernel
theorem dX7_attributesFit_21 : decode cX7_attributesFit 21 = .ok (.getfield 44, 3) := by decide +kernel
theorem dX7_attributesFit_24 : decode cX7_attributesFit 24 = .ok (.iconst 2, 1) := by decide +kernel
theorem dX7_attributesFit_25 : decode cX7_attributesFit 25 = .ok (.iadd, 1) := by decide +kernel
theorem dX7_attributesFit_26 : decode cX7_attributesFit 26 = .ok (.putfield 44, 3) := by decide +kernel
theorem dX7_attributesFit_29 : decode cX7_attributesFit 29 = .ok (.iconst 0, 1) := by decide +kernel
theorem dX7_attributesFit_30 : decode cX7_attributesFit 30 = .ok (.istore_n 2, 1) := by decide +kernel
theorem dX7_attributesFit_31 : decode cX7_attributesFit 31 = .ok (.iload_n 2, 1) := by decide +kernel
theorem dX7_attributesFit_32 : decode cX7_attributesFit 32 = .ok (.iload_n 1, 1) := by decide +kernel
theorem dX7_attributesFit_33 : decode cX7_attributesFit 33 = .ok (.if_icmp .ge 78, 3) := by decide +kernel
theorem dX7_attributesFit_36 : decode cX7_attributesFit 36 = .ok (.aload_n 0, 1) := by decide +kernel
theorem dX7_attributesFit_37 : decode cX7_attributesFit 37 = .ok (.bipush 6, 2) := by decide +kernel
theorem dX7_attributesFit_39 : decode cX7_attributesFit 39 = .ok (.invokevirtual 103, 3) := by decide +kernel
theorem dX7_attributesFit_42 : decode cX7_attributesFit 42 = .ok (.ifCond .ne 5, 3) := by decide +kernel
theorem dX7_attributesFit_45 : decode cX7_attributesFit 45 = .ok (.iconst 0, 1) := by decide +kernel
theorem dX7_attributesFit_46 : decode cX7_attributesFit 46 = .ok (.ireturn, 1) := by decide +kernel
theorem dX7_attributesFit_47 : decode cX7_attributesFit 47 = .ok (.aload_n 0, 1) := by decide +kernel
theorem dX7_attributesFit_48 : decode cX7_attributesFit 48 = .ok (.aload_n 0, 1) := by decide +kernel
theorem dX7_attributesFit_49 : decode cX7_attributesFit 49 = .ok (.getfield 44, 3) := by decide +kernel
theorem dX7_attributesFit_52 : decode cX7_attributesFit 52 = .ok (.iconst 2, 1) := by decide +kernel
theorem dX7_attributesFit_53 : decode cX7_attributesFit 53 = .ok (.iadd, 1) := by decide +kernel
theorem dX7_attributesFit_54 : decode cX7_attributesFit 54 = .ok (.invokevirtual 146, 3) := by decide +kernel
theorem dX7_attributesFit_57 : decode cX7_attributesFit 57 = .ok (.lstore_n 3, 1) := by decide +kernel
theorem dX7_attributesFit_58 : decode cX7_attributesFit 58 = .ok (.aload_n 0, 1) := by decide +kernel
theorem dX7_attributesFit_59 : decode cX7_attributesFit 59 = .ok (.dup, 1) := by decide +kernel
theorem dX7_attributesFit_60 : decode cX7_attributesFit 60 = .ok (.getfield 44, 3) := by decide +kernel
theorem dX7_attributesFit_63 : decode cX7_attributesFit 63 = .ok (.bipush 6, 2) := by decide +kernel
theorem dX7_attributesFit_65 : decode cX7_attributesFit 65 = .ok (.iadd, 1) := by decide +kernel
theorem dX7_attributesFit_66 : decode cX7_attributesFit 66 = .ok (.putfield 44, 3) := by decide +kernel
theorem dX7_attributesFit_69 : decode cX7_attributesFit 69 = .ok (.lload_n 3, 1) := by decide +kernel
theorem dX7_attributesFit_70 : decode cX7_attributesFit 70 = .ok (.aload_n 0, 1) := by decide +kernel
theorem dX7_attributesFit_71 : decode cX7_attributesFit 71 = .ok (.getfield 38, 3) := by decide +kernel
theorem dX7_attributesFit_74 : decode cX7_attributesFit 74 = .ok (.aload_n 0, 1) := by decide +kernel
theorem dX7_attributesFit_75 : decode cX7_attributesFit 75 = .ok (.getfield 44, 3) := by decide +kernel
theorem dX7_attributesFit_78 : decode cX7_attributesFit 78 = .ok (.isub, 1) := by decide +kernel
theorem dX7_attributesFit_79 : decode cX7_attributesFit 79 = .ok (.i2l, 1) := by decide +kernel
theorem dX7_attributesFit_80 : decode cX7_attributesFit 80 = .ok (.lcmp, 1) := by decide +kernel
theorem dX7_attributesFit_81 : decode cX7_attributesFit 81 = .ok (.ifCond .le 13, 3) := by decide +kernel
theorem dX7_attributesFit_84 : decode cX7_attributesFit 84 = .ok (.aload_n 0, 1) := by decide +kernel

theorem dX10_gives_31 : decode cX10_gives 31 = .ok (.aload_n 0, 1) := by decide +kernel
theorem dX10_gives_32 : decode cX10_gives 32 = .ok (.aload_n 1, 1) := by decide +kernel
theorem dX10_gives_33 : decode cX10_gives 33 = .ok (.iload_n 2, 1) := by decide +kernel
theorem dX10_gives_34 : decode cX10_gives 34 = .ok (.invokevirtual 60, 3) := by decide +kernel
theorem dX10_gives_37 : decode cX10_gives 37 = .ok (.l2i, 1) := by decide +kernel
theorem dX10_gives_38 : decode cX10_gives 38 = .ok (.invokevirtual 75, 3) := by decide +kernel
theorem dX10_gives_41 : decode cX10_gives 41 = .ok (.goto 7, 3) := by decide +kernel
theorem dX10_gives_44 : decode cX10_gives 44 = .ok (.iload_n 3, 1) := by decide +kernel
theorem dX10_gives_45 : decode cX10_gives 45 = .ok (.invokestatic 78, 3) := by decide +kernel
theorem dX10_gives_48 : decode cX10_gives 48 = .ok (.ireturn, 1) := by decide +kernel
theorem dX10_givesOfMethod_0 : decode cX10_givesOfMethod 0 = .ok (.iload_n 1, 1) := by decide +kernel
theorem dX10_givesOfMethod_1 : decode cX10_givesOfMethod 1 = .ok (.ifCond .lt 12, 3) := by decide +kernel
theorem dX10_givesOfMethod_4 : decode cX10_givesOfMethod 4 = .ok (.iload_n 1, 1) := by decide +kernel
theorem dX10_givesOfMethod_5 : decode cX10_givesOfMethod 5 = .ok (.aload_n 0, 1) := by decide +kernel
theorem dX10_givesOfMethod_6 : decode cX10_givesOfMethod 6 = .ok (.getfield 47, 3) := by decide +kernel
theorem dX10_givesOfMethod_9 : decode cX10_givesOfMethod 9 = .ok (.arraylength, 1) := by decide +kernel
theorem dX10_givesOfMethod_10 : decode cX10_givesOfMethod 10 = .ok (.if_icmp .lt 7, 3) := by decide +kernel
theorem dX10_givesOfMethod_13 : decode cX10_givesOfMethod 13 = .ok (.iconst 0, 1) := by decide +kernel
theorem dX10_givesOfMethod_14 : decode cX10_givesOfMethod 14 = .ok (.goto 9, 3) := by decide +kernel
theorem dX10_givesOfMethod_17 : decode cX10_givesOfMethod 17 = .ok (.aload_n 0, 1) := by decide +kernel
theorem dX10_givesOfMethod_18 : decode cX10_givesOfMethod 18 = .ok (.getfield 47, 3) := by decide +kernel
theorem dX10_givesOfMethod_21 : decode cX10_givesOfMethod 21 = .ok (.iload_n 1, 1) := by decide +kernel
theorem dX10_givesOfMethod_22 : decode cX10_givesOfMethod 22 = .ok (.iaload, 1) := by decide +kernel
theorem dX10_givesOfMethod_23 : decode cX10_givesOfMethod 23 = .ok (.ireturn, 1) := by decide +kernel
theorem dX10_init_0 : decode cX10_init 0 = .ok (.aload_n 0, 1) := by decide +kernel
theorem dX10_init_1 : decode cX10_init 1 = .ok (.invokespecial 3, 3) := by decide +kernel
theorem dX10_init_4 : decode cX10_init 4 = .ok (.aload_n 0, 1) := by decide +kernel
theorem dX10_init_5 : decode cX10_init 5 = .ok (.iconst (-1), 1) := by decide +kernel
theorem dX10_init_6 : decode cX10_init 6 = .ok (.putfield 9, 3) := by decide +kernel
theorem dX10_init_9 : decode cX10_init 9 = .ok (.aload_n 0, 1) := by decide +kernel
theorem dX10_init_10 : decode cX10_init 10 = .ok (.iconst (-1), 1) := by decide +kernel
theorem dX10_init_11 : decode cX10_init 11 = .ok (.putfield 15, 3) := by decide +kernel
theorem dX10_init_14 : decode cX10_init 14 = .ok (.aload_n 0, 1) := by decide +kernel
theorem dX10_init_15 : decode cX10_init 15 = .ok (.aload_n 1, 1) := by decide +kernel
theorem dX10_init_16 : decode cX10_init 16 = .ok (.putfield 18, 3) := by decide +kernel
theorem dX10_init_19 : decode cX10_init 19 = .ok (.aload_n 0, 1) := by decide +kernel
theorem dX10_init_20 : decode cX10_init 20 = .ok (.iload_n 2, 1) := by decide +kernel
theorem dX10_init_21 : decode cX10_init 21 = .ok (.putfield 22, 3) := by decide +kernel
theorem dX10_init_24 : decode cX10_init 24 = .ok (.aload_n 0, 1) := by decide +kernel
theorem dX10_init_25 : decode cX10_init 25 = .ok (.iload_n 2, 1) := by decide +kernel
theorem dX10_init_26 : decode cX10_init 26 = .ok (.newarray .int, 2) := by decide +kernel
theorem dX10_init_28 : decode cX10_init 28 = .ok (.putfield 25, 3) := by decide +kernel
theorem dX10_init_31 : decode cX10_init 31 = .ok (.aload_n 0, 1) := by decide +kernel
theorem dX10_init_32 : decode cX10_init 32 = .ok (.iload_n 2, 1) := by decide +kernel
theorem dX10_init_33 : decode cX10_init 33 = .ok (.newarray .int, 2) := by decide +kernel
theorem dX10_init_35 : decode cX10_init 35 = .ok (.putfield 29, 3) := by decide +kernel
theorem dX10_init_38 : decode cX10_init 38 = .ok (.aload_n 0, 1) := by decide +kernel
theorem dX10_init_39 : decode cX10_init 39 = .ok (.iload_n 2, 1) := by decide +kernel
theorem dX10_init_40 : decode cX10_init 40 = .ok (.newarray .int, 2) := by decide +kernel
theorem dX10_init_42 : decode cX10_init 42 = .ok (.putfield 32, 3) := by decide +kernel
theorem dX10_init_45 : decode cX10_init 45 = .ok (.aload_n 0, 1) := by decide +kernel
theorem dX10_init_46 : decode cX10_init 46 = .ok (.iload_n 3, 1) := by decide +kernel
theorem dX10_init_47 : decode cX10_init 47 = .ok (.putfield 35, 3) := by decide +kernel
theorem dX10_init_50 : decode cX10_init 50 = .ok (.aload_n 0, 1) := by decide +kernel
theorem dX10_init_51 : decode cX10_init 51 = .ok (.iload_n 3, 1) := by decide +kernel
theorem dX10_init_52 : decode cX10_init 52 = .ok (.newarray .int, 2) := by decide +kernel
theorem dX10_init_54 : decode cX10_init 54 = .ok (.putfield 38, 3) := by decide +kernel
theorem dX10_init_57 : decode cX10_init 57 = .ok (.aload_n 0, 1) := by decide +kernel
theorem dX10_init_58 : decode cX10_init 58 = .ok (.iload_n 3, 1) := by decide +kernel
theorem dX10_init_59 : decode cX10_init 59 = .ok (.newarray .int, 2) := by decide +kernel
theorem dX10_init_61 : decode cX10_init 61 = .ok (.putfield 41, 3) := by decide +kernel
theorem dX10_init_64 : decode cX10_init 64 = .ok (.aload_n 0, 1) := by decide +kernel
theorem dX10_init_65 : decode cX10_init 65 = .ok (.iload_n 3, 1) := by decide +kernel
theorem dX10_init_66 : decode cX10_init 66 = .ok (.newarray .int, 2) := by decide +kernel
theorem dX10_init_68 : decode cX10_init 68 = .ok (.putfield 44, 3) := by decide +kernel
theorem dX10_init_71 : decode cX10_init 71 = .ok (.aload_n 0, 1) := by decide +kernel
theorem dX10_init_72 : decode cX10_init 72 = .ok (.iload_n 3, 1) := by decide +kernel
theorem dX10_init_73 : decode cX10_init 73 = .ok (.newarray .int, 2) := by decide +kernel
theorem dX10_init_75 : decode cX10_init 75 = .ok (.putfield 47, 3) := by decide +kernel
theorem dX10_init_78 : decode cX10_init 78 = .ok (.aload_n 0, 1) := by decide +kernel
theorem dX10_init_79 : decode cX10_init 79 = .ok (.iload_n 3, 1) := by decide +kernel
theorem dX10_init_80 : decode cX10_init 80 = .ok (.anewarray 50, 3) := by decide +kernel
theorem dX10_init_83 : decode cX10_init 83 = .ok (.putfield 52, 3) := by decide +kernel
theorem dX10_init_86 : decode cX10_init 86 = .ok (.return_, 1) := by decide +kernel
theorem dX10_kindOfField_0 : decode cX10_kindOfField 0 = .ok (.iload_n 1, 1) := by decide +kernel
theorem dX10_kindOfField_1 : decode cX10_kindOfField 1 = .ok (.ifCond .lt 12, 3) := by decide +kernel
theorem dX10_kindOfField_4 : decode cX10_kindOfField 4 = .ok (.iload_n 1, 1) := by decide +kernel
theorem dX10_kindOfField_5 : decode cX10_kindOfField 5 = .ok (.aload_n 0, 1) := by decide +kernel
theorem dX10_kindOfField_6 : decode cX10_kindOfField 6 = .ok (.getfield 32, 3) := by decide +kernel
theorem dX10_kindOfField_9 : decode cX10_kindOfField 9 = .ok (.arraylength, 1) := by decide +kernel
theorem dX10_kindOfField_10 : decode cX10_kindOfField 10 = .ok (.if_icmp .lt 7, 3) := by decide +kernel
theorem dX10_kindOfField_13 : decode cX10_kindOfField 13 = .ok (.iconst 2, 1) := by decide +kernel
theorem dX10_kindOfField_14 : decode cX10_kindOfField 14 = .ok (.goto 9, 3) := by decide +kernel
theorem dX10_kindOfField_17 : decode cX10_kindOfField 17 = .ok (.aload_n 0, 1) := by decide +kernel
theorem dX10_kindOfField_18 : decode cX10_kindOfField 18 = .ok (.getfield 32, 3) := by decide +kernel
theorem dX10_kindOfField_21 : decode cX10_kindOfField 21 = .ok (.iload_n 1, 1) := by decide +kernel
theorem dX10_kindOfField_22 : decode cX10_kindOfField 22 = .ok (.iaload, 1) := by decide +kernel
theorem dX10_kindOfField_23 : decode cX10_kindOfField 23 = .ok (.ireturn, 1) := by decide +kernel
theorem dX10_placesGiven_0 : decode cX10_placesGiven 0 = .ok (.aload_n 1, 1) := by decide +kernel
theorem dX10_placesGiven_1 : decode cX10_placesGiven 1 = .ok (.iload_n 2, 1) := by decide +kernel
theorem dX10_placesGiven_2 : decode cX10_placesGiven 2 = .ok (.invokevirtual 56, 3) := by decide +kernel
theorem dX10_placesGiven_5 : decode cX10_placesGiven 5 = .ok (.tableswitch 49 89 95 #[43, 45, 49, 47, 49, 49, 43], 43) := by decide +kernel
theorem dX10_placesGiven_48 : decode cX10_placesGiven 48 = .ok (.iconst 2, 1) := by decide +kernel
theorem dX10_placesGiven_49 : decode cX10_placesGiven 49 = .ok (.ireturn, 1) := by decide +kernel
theorem dX10_placesGiven_50 : decode cX10_placesGiven 50 = .ok (.iconst 3, 1) := by decide +kernel
theorem dX10_placesGiven_51 : decode cX10_placesGiven 51 = .ok (.ireturn, 1) := by decide +kernel
theorem dX10_placesGiven_52 : decode cX10_placesGiven 52 = .ok (.iconst 4, 1) := by decide +kernel
theorem dX10_placesGiven_53 : decode cX10_placesGiven 53 = .ok (.ireturn, 1) := by decide +kernel
theorem dX10_placesGiven_54 : decode cX10_placesGiven 54 = .ok (.aload_n 0, 1) := by decide +kernel
theorem dX10_placesGiven_55 : decode cX10_placesGiven 55 = .ok (.aload_n 1, 1) := by decide +kernel
theorem dX10_placesGiven_56 : decode cX10_placesGiven 56 = .ok (.iload_n 2, 1) := by decide +kernel
theorem dX10_placesGiven_57 : decode cX10_placesGiven 57 = .ok (.invokevirtual 81, 3) := by decide +kernel
theorem dX10_placesGiven_60 : decode cX10_placesGiven 60 = .ok (.invokestatic 84, 3) := by decide +kernel
theorem dX10_placesGiven_63 : decode cX10_placesGiven 63 = .ok (.ireturn, 1) := by decide +kernel
theorem dX10_rowAt_0 : decode cX10_rowAt 0 = .ok (.iload_n 1, 1) := by decide +kernel
theorem dX10_rowAt_1 : decode cX10_rowAt 1 = .ok (.ifCond .lt 12, 3) := by decide +kernel
theorem dX10_rowAt_4 : decode cX10_rowAt 4 = .ok (.iload_n 1, 1) := by decide +kernel
theorem dX10_rowAt_5 : decode cX10_rowAt 5 = .ok (.aload_n 0, 1) := by decide +kernel
theorem dX10_rowAt_6 : decode cX10_rowAt 6 = .ok (.getfield 52, 3) := by decide +kernel
theorem dX10_rowAt_9 : decode cX10_rowAt 9 = .ok (.arraylength, 1) := by decide +kernel
theorem dX10_rowAt_10 : decode cX10_rowAt 10 = .ok (.if_icmp .lt 7, 3) := by decide +kernel
theorem dX10_rowAt_13 : decode cX10_rowAt 13 = .ok (.aconst_null, 1) := by decide +kernel
theorem dX10_rowAt_14 : decode cX10_rowAt 14 = .ok (.goto 9, 3) := by decide +kernel
theorem dX10_rowAt_17 : decode cX10_rowAt 17 = .ok (.aload_n 0, 1) := by decide +kernel
theorem dX10_rowAt_18 : decode cX10_rowAt 18 = .ok (.getfield 52, 3) := by decide +kernel
theorem dX10_rowAt_21 : decode cX10_rowAt 21 = .ok (.iload_n 1, 1) := by decide +kernel
theorem dX10_rowAt_22 : decode cX10_rowAt 22 = .ok (.aaload, 1) := by decide +kernel
theorem dX10_rowAt_23 : decode cX10_rowAt 23 = .ok (.areturn, 1) := by decide +kernel
theorem dX10_takes_0 : decode cX10_takes 0 = .ok (.aload_n 1, 1) := by decide +kernel
theorem dX10_takes_1 : decode cX10_takes 1 = .ok (.iload_n 2, 1) := by decide +kernel
theorem dX10_takes_2 : decode cX10_takes 2 = .ok (.invokevirtual 56, 3) := by decide +kernel
theorem dX10_takes_5 : decode cX10_takes 5 = .ok (.istore_n 3, 1) := by decide +kernel
theorem dX10_takes_6 : decode cX10_takes 6 = .ok (.iload_n 3, 1) := by decide +kernel
theorem dX10_takes_7 : decode cX10_takes 7 = .ok (.sipush 179, 3) := by decide +kernel
theorem dX10_takes_10 : decode cX10_takes 10 = .ok (.if_icmp .ne 14, 3) := by decide +kernel
theorem dX10_takes_13 : decode cX10_takes 13 = .ok (.aload_n 0, 1) := by decide +kernel
theorem dX10_takes_14 : decode cX10_takes 14 = .ok (.aload_n 1, 1) := by decide +kernel
theorem dX10_takes_15 : decode cX10_takes 15 = .ok (.iload_n 2, 1) := by decide +kernel
theorem dX10_takes_16 : decode cX10_takes 16 = .ok (.invokevirtual 60, 3) := by decide +kernel
theorem dX10_takes_19 : decode cX10_takes 19 = .ok (.l2i, 1) := by decide +kernel
theorem dX10_takes_20 : decode cX10_takes 20 = .ok (.invokevirtual 64, 3) := by decide +kernel
theorem dX10_takes_23 : decode cX10_takes 23 = .ok (.ireturn, 1) := by decide +kernel
theorem dX10_takes_24 : decode cX10_takes 24 = .ok (.iload_n 3, 1) := by decide +kernel
theorem dX10_takes_25 : decode cX10_takes 25 = .ok (.sipush 184, 3) := by decide +kernel
theorem dX10_takes_28 : decode cX10_takes 28 = .ok (.if_icmp .ne 16, 3) := by decide +kernel
theorem dX10_takes_31 : decode cX10_takes 31 = .ok (.aload_n 0, 1) := by decide +kernel
theorem dX10_takes_32 : decode cX10_takes 32 = .ok (.aload_n 1, 1) := by decide +kernel
theorem dX10_takes_33 : decode cX10_takes 33 = .ok (.iload_n 2, 1) := by decide +kernel
theorem dX10_takes_34 : decode cX10_takes 34 = .ok (.invokevirtual 60, 3) := by decide +kernel
theorem dX10_takes_37 : decode cX10_takes 37 = .ok (.l2i, 1) := by decide +kernel
theorem dX10_takes_38 : decode cX10_takes 38 = .ok (.invokevirtual 67, 3) := by decide +kernel
theorem dX10_takes_41 : decode cX10_takes 41 = .ok (.goto 7, 3) := by decide +kernel
theorem dX10_takes_44 : decode cX10_takes 44 = .ok (.iload_n 3, 1) := by decide +kernel
theorem dX10_takes_45 : decode cX10_takes 45 = .ok (.invokestatic 70, 3) := by decide +kernel
theorem dX10_takes_48 : decode cX10_takes 48 = .ok (.ireturn, 1) := by decide +kernel
theorem dX10_takesOfMethod_0 : decode cX10_takesOfMethod 0 = .ok (.iload_n 1, 1) := by decide +kernel
theorem dX10_takesOfMethod_1 : decode cX10_takesOfMethod 1 = .ok (.ifCond .lt 12, 3) := by decide +kernel
theorem dX10_takesOfMethod_4 : decode cX10_takesOfMethod 4 = .ok (.iload_n 1, 1) := by decide +kernel
theorem dX10_takesOfMethod_5 : decode cX10_takesOfMethod 5 = .ok (.aload_n 0, 1) := by decide +kernel
theorem dX10_takesOfMethod_6 : decode cX10_takesOfMethod 6 = .ok (.getfield 44, 3) := by decide +kernel

theorem dX10_init_71 : decode cX10_init 71 = .ok (.aload_n 0, 1) := by decide +kernel
theorem dX10_init_72 : decode cX10_init 72 = .ok (.iload_n 3, 1) := by decide +kernel
theorem dX10_init_73 : decode cX10_init 73 = .ok (.newarray .int, 2) := by decide +kernel
theorem dX10_init_75 : decode cX10_init 75 = .ok (.putfield 47, 3) := by decide +kernel
theorem dX10_init_78 : decode cX10_init 78 = .ok (.aload_n 0, 1) := by decide +kernel
theorem dX10_init_79 : decode cX10_init 79 = .ok (.iload_n 3, 1) := by decide +kernel
theorem dX10_init_80 : decode cX10_init 80 = .ok (.anewarray 50, 3) := by decide +kernel
theorem dX10_init_83 : decode cX10_init 83 = .ok (.putfield 52, 3) := by decide +kernel
theorem dX10_init_86 : decode cX10_init 86 = .ok (.return_, 1) := by decide +kernel
theorem dX10_kindOfField_0 : decode cX10_kindOfField 0 = .ok (.iload_n 1, 1) := by decide +kernel
theorem dX10_kindOfField_1 : decode cX10_kindOfField 1 = .ok (.ifCond .lt 12, 3) := by decide +kernel
theorem dX10_kindOfField_4 : decode cX10_kindOfField 4 = .ok (.iload_n 1, 1) := by decide +kernel
theorem dX10_kindOfField_5 : decode cX10_kindOfField 5 = .ok (.aload_n 0, 1) := by decide +kernel
theorem dX10_kindOfField_6 : decode cX10_kindOfField 6 = .ok (.getfield 32, 3) := by decide +kernel
theorem dX10_kindOfField_9 : decode cX10_kindOfField 9 = .ok (.arraylength, 1) := by decide +kernel
theorem dX10_kindOfField_10 : decode cX10_kindOfField 10 = .ok (.if_icmp .lt 7, 3) := by decide +kernel
theorem dX10_kindOfField_13 : decode cX10_kindOfField 13 = .ok (.iconst 2, 1) := by decide +kernel
theorem dX10_kindOfField_14 : decode cX10_kindOfField 14 = .ok (.goto 9, 3) := by decide +kernel
theorem dX10_kindOfField_17 : decode cX10_kindOfField 17 = .ok (.aload_n 0, 1) := by decide +kernel
theorem dX10_kindOfField_18 : decode cX10_kindOfField 18 = .ok (.getfield 32, 3) := by decide +kernel
theorem dX10_kindOfField_21 : decode cX10_kindOfField 21 = .ok (.iload_n 1, 1) := by decide +kernel
theorem dX10_kindOfField_22 : decode cX10_kindOfField 22 = .ok (.iaload, 1) := by decide +kernel
theorem dX10_kindOfField_23 : decode cX10_kindOfField 23 = .ok (.ireturn, 1) := by decide +kernel
theorem dX10_placesGiven_0 : decode cX10_placesGiven 0 = .ok (.aload_n 1, 1) := by decide +kernel
theorem dX10_placesGiven_1 : decode cX10_placesGiven 1 = .ok (.iload_n 2, 1) := by decide +kernel
theorem dX10_placesGiven_2 : decode cX10_placesGiven 2 = .ok (.invokevirtual 56, 3) := by decide +kernel
theorem dX10_placesGiven_5 : decode cX10_placesGiven 5 = .ok (.tableswitch 49 89 95 #[43, 45, 49, 47, 49, 49, 43], 43) := by decide +kernel
theorem dX10_placesGiven_48 : decode cX10_placesGiven 48 = .ok (.iconst 2, 1) := by decide +kernel
theorem dX10_placesGiven_49 : decode cX10_placesGiven 49 = .ok (.ireturn, 1) := by decide +kernel
theorem dX10_placesGiven_50 : decode cX10_placesGiven 50 = .ok (.iconst 3, 1) := by decide +kernel
theorem dX10_placesGiven_51 : decode cX10_placesGiven 51 = .ok (.ireturn, 1) := by decide +kernel
theorem dX10_placesGiven_52 : decode cX10_placesGiven 52 = .ok (.iconst 4, 1) := by decide +kernel
theorem dX10_placesGiven_53 : decode cX10_placesGiven 53 = .ok (.ireturn, 1) := by decide +kernel
theorem dX10_placesGiven_54 : decode cX10_placesGiven 54 = .ok (.aload_n 0, 1) := by decide +kernel
theorem dX10_placesGiven_55 : decode cX10_placesGiven 55 = .ok (.aload_n 1, 1) := by decide +kernel
theorem dX10_placesGiven_56 : decode cX10_placesGiven 56 = .ok (.iload_n 2, 1) := by decide +kernel
theorem dX10_placesGiven_57 : decode cX10_placesGiven 57 = .ok (.invokevirtual 81, 3) := by decide +kernel
theorem dX10_placesGiven_60 : decode cX10_placesGiven 60 = .ok (.invokestatic 84, 3) := by decide +kernel
theorem dX10_placesGiven_63 : decode cX10_placesGiven 63 = .ok (.ireturn, 1) := by decide +kernel
theorem dX10_rowAt_0 : decode cX10_rowAt 0 = .ok (.iload_n 1, 1) := by decide +kernel
theorem dX10_rowAt_1 : decode cX10_rowAt 1 = .ok (.ifCond .lt 12, 3) := by decide +kernel
theorem dX10_rowAt_4 : decode cX10_rowAt 4 = .ok (.iload_n 1, 1) := by decide +kernel
theorem dX10_rowAt_5 : decode cX10_rowAt 5 = .ok (.aload_n 0, 1) := by decide +kernel
theorem dX10_rowAt_6 : decode cX10_rowAt 6 = .ok (.getfield 52, 3) := by decide +kernel
theorem dX10_rowAt_9 : decode cX10_rowAt 9 = .ok (.arraylength, 1) := by decide +kernel
theorem dX10_rowAt_10 : decode cX10_rowAt 10 = .ok (.if_icmp .lt 7, 3) := by decide +kernel
theorem dX10_rowAt_13 : decode cX10_rowAt 13 = .ok (.aconst_null, 1) := by decide +kernel
theorem dX10_rowAt_14 : decode cX10_rowAt 14 = .ok (.goto 9, 3) := by decide +kernel
theorem dX10_rowAt_17 : decode cX10_rowAt 17 = .ok (.aload_n 0, 1) := by decide +kernel
theorem dX10_rowAt_18 : decode cX10_rowAt 18 = .ok (.getfield 52, 3) := by decide +kernel
theorem dX10_rowAt_21 : decode cX10_rowAt 21 = .ok (.iload_n 1, 1) := by decide +kernel
theorem dX10_rowAt_22 : decode cX10_rowAt 22 = .ok (.aaload, 1) := by decide +kernel
theorem dX10_rowAt_23 : decode cX10_rowAt 23 = .ok (.areturn, 1) := by decide +kernel
theorem dX10_takes_0 : decode cX10_takes 0 = .ok (.aload_n 1, 1) := by decide +kernel
theorem dX10_takes_1 : decode cX10_takes 1 = .ok (.iload_n 2, 1) := by decide +kernel
theorem dX10_takes_2 : decode cX10_takes 2 = .ok (.invokevirtual 56, 3) := by decide +kernel
theorem dX10_takes_5 : decode cX10_takes 5 = .ok (.istore_n 3, 1) := by decide +kernel
theorem dX10_takes_6 : decode cX10_takes 6 = .ok (.iload_n 3, 1) := by decide +kernel
theorem dX10_takes_7 : decode cX10_takes 7 = .ok (.sipush 179, 3) := by decide +kernel
theorem dX10_takes_10 : decode cX10_takes 10 = .ok (.if_icmp .ne 14, 3) := by decide +kernel
theorem dX10_takes_13 : decode cX10_takes 13 = .ok (.aload_n 0, 1) := by decide +kernel
theorem dX10_takes_14 : decode cX10_takes 14 = .ok (.aload_n 1, 1) := by decide +kernel
theorem dX10_takes_15 : decode cX10_takes 15 = .ok (.iload_n 2, 1) := by decide +kernel
theorem dX10_takes_16 : decode cX10_takes 16 = .ok (.invokevirtual 60, 3) := by decide +kernel
theorem dX10_takes_19 : decode cX10_takes 19 = .ok (.l2i, 1) := by decide +kernel
theorem dX10_takes_20 : decode cX10_takes 20 = .ok (.invokevirtual 64, 3) := by decide +kernel
theorem dX10_takes_23 : decode cX10_takes 23 = .ok (.ireturn, 1) := by decide +kernel
theorem dX10_takes_24 : decode cX10_takes 24 = .ok (.iload_n 3, 1) := by decide +kernel
theorem dX10_takes_25 : decode cX10_takes 25 = .ok (.sipush 184, 3) := by decide +kernel
theorem dX10_takes_28 : decode cX10_takes 28 = .ok (.if_icmp .ne 16, 3) := by decide +kernel
theorem dX10_takes_31 : decode cX10_takes 31 = .ok (.aload_n 0, 1) := by decide +kernel
theorem dX10_takes_32 : decode cX10_takes 32 = .ok (.aload_n 1, 1) := by decide +kernel
theorem dX10_takes_33 : decode cX10_takes 33 = .ok (.iload_n 2, 1) := by decide +kernel
theorem dX10_takes_34 : decode cX10_takes 34 = .ok (.invokevirtual 60, 3) := by decide +kernel
theorem dX10_takes_37 : decode cX10_takes 37 = .ok (.l2i, 1) := by decide +kernel
theorem dX10_takes_38 : decode cX10_takes 38 = .ok (.invokevirtual 67, 3) := by decide +kernel
theorem dX10_takes_41 : decode cX10_takes 41 = .ok (.goto 7, 3) := by decide +kernel
theorem dX10_takes_44 : decode cX10_takes 44 = .ok (.iload_n 3, 1) := by decide +kernel
theorem dX10_takes_45 : decode cX10_takes 45 = .ok (.invokestatic 70, 3) := by decide +kernel
theorem dX10_takes_48 : decode cX10_takes 48 = .ok (.ireturn, 1) := by decide +kernel
theorem dX10_takesOfMethod_0 : decode cX10_takesOfMethod 0 = .ok (.iload_n 1, 1) := by decide +kernel
theorem dX10_takesOfMethod_1 : decode cX10_takesOfMethod 1 = .ok (.ifCond .lt 12, 3) := by decide +kernel
theorem dX10_takesOfMethod_4 : decode cX10_takesOfMethod 4 = .ok (.iload_n 1, 1) := by decide +kernel
theorem dX10_takesOfMethod_5 : decode cX10_takesOfMethod 5 = .ok (.aload_n 0, 1) := by decide +kernel
theorem dX10_takesOfMethod_6 : decode cX10_takesOfMethod 6 = .ok (.getfield 44, 3) := by decide +kernel
theorem dX10_takesOfMethod_9 : decode cX10_takesOfMethod 9 = .ok (.arraylength, 1) := by decide +kernel
theorem dX10_takesOfMethod_10 : decode cX10_takesOfMethod 10 = .ok (.if_icmp .lt 7, 3) := by decide +kernel
theorem dX10_takesOfMethod_13 : decode cX10_takesOfMethod 13 = .ok (.iconst 0, 1) := by decide +kernel
theorem dX10_takesOfMethod_14 : decode cX10_takesOfMethod 14 = .ok (.goto 9, 3) := by decide +kernel
theorem dX10_takesOfMethod_17 : decode cX10_takesOfMethod 17 = .ok (.aload_n 0, 1) := by decide +kernel
theorem dX10_takesOfMethod_18 : decode cX10_takesOfMethod 18 = .ok (.getfield 44, 3) := by decide +kernel
theorem dX10_takesOfMethod_21 : decode cX10_takesOfMethod 21 = .ok (.iload_n 1, 1) := by decide +kernel
theorem dX10_takesOfMethod_22 : decode cX10_takesOfMethod 22 = .ok (.iaload, 1) := by decide +kernel
theorem dX10_takesOfMethod_23 : decode cX10_takesOfMethod 23 = .ok (.ireturn, 1) := by decide +kernel
theorem dX11_addMethod_0 : decode cX11_addMethod 0 = .ok (.aload_n 0, 1) := by decide +kernel
theorem dX11_addMethod_1 : decode cX11_addMethod 1 = .ok (.aload_n 1, 1) := by decide +kernel
theorem dX11_addMethod_2 : decode cX11_addMethod 2 = .ok (.putfield 180, 3) := by decide +kernel
theorem dX11_addMethod_5 : decode cX11_addMethod 5 = .ok (.aload_n 0, 1) := by decide +kernel
theorem dX11_addMethod_6 : decode cX11_addMethod 6 = .ok (.getfield 180, 3) := by decide +kernel
theorem dX11_addMethod_9 : decode cX11_addMethod 9 = .ok (.ifnull 31, 3) := by decide +kernel
theorem dX11_addMethod_12 : decode cX11_addMethod 12 = .ok (.aload_n 0, 1) := by decide +kernel
theorem dX11_addMethod_13 : decode cX11_addMethod 13 = .ok (.getfield 180, 3) := by decide +kernel
theorem dX11_addMethod_16 : decode cX11_addMethod 16 = .ok (.getfield 184, 3) := by decide +kernel
theorem dX11_addMethod_19 : decode cX11_addMethod 19 = .ok (.ifCond .lt 21, 3) := by decide +kernel
theorem dX11_addMethod_22 : decode cX11_addMethod 22 = .ok (.aload_n 0, 1) := by decide +kernel
theorem dX11_addMethod_23 : decode cX11_addMethod 23 = .ok (.getfield 180, 3) := by decide +kernel
theorem dX11_addMethod_26 : decode cX11_addMethod 26 = .ok (.getfield 184, 3) := by decide +kernel
theorem dX11_addMethod_29 : decode cX11_addMethod 29 = .ok (.aload_n 0, 1) := by decide +kernel
theorem dX11_addMethod_30 : decode cX11_addMethod 30 = .ok (.getfield 56, 3) := by decide +kernel
theorem dX11_addMethod_33 : decode cX11_addMethod 33 = .ok (.getfield 174, 3) := by decide +kernel
theorem dX11_addMethod_36 : decode cX11_addMethod 36 = .ok (.arraylength, 1) := by decide +kernel
theorem dX11_addMethod_37 : decode cX11_addMethod 37 = .ok (.if_icmp .lt 4, 3) := by decide +kernel
theorem dX11_addMethod_40 : decode cX11_addMethod 40 = .ok (.return_, 1) := by decide +kernel
theorem dX11_addMethod_41 : decode cX11_addMethod 41 = .ok (.aload_n 0, 1) := by decide +kernel
theorem dX11_addMethod_42 : decode cX11_addMethod 42 = .ok (.aload_n 0, 1) := by decide +kernel
theorem dX11_addMethod_43 : decode cX11_addMethod 43 = .ok (.getfield 56, 3) := by decide +kernel
theorem dX11_addMethod_46 : decode cX11_addMethod 46 = .ok (.getfield 174, 3) := by decide +kernel
theorem dX11_addMethod_49 : decode cX11_addMethod 49 = .ok (.aload_n 0, 1) := by decide +kernel
theorem dX11_addMethod_50 : decode cX11_addMethod 50 = .ok (.getfield 180, 3) := by decide +kernel
theorem dX11_addMethod_53 : decode cX11_addMethod 53 = .ok (.getfield 184, 3) := by decide +kernel
theorem dX11_addMethod_56 : decode cX11_addMethod 56 = .ok (.iaload, 1) := by decide +kernel
theorem dX11_addMethod_57 : decode cX11_addMethod 57 = .ok (.invokevirtual 91, 3) := by decide +kernel
theorem dX11_addMethod_60 : decode cX11_addMethod 60 = .ok (.istore_n 2, 1) := by decide +kernel
theorem dX11_addMethod_61 : decode cX11_addMethod 61 = .ok (.aload_n 0, 1) := by decide +kernel
theorem dX11_addMethod_62 : decode cX11_addMethod 62 = .ok (.iload_n 2, 1) := by decide +kernel
theorem dX11_addMethod_63 : decode cX11_addMethod 63 = .ok (.aload_n 0, 1) := by decide +kernel
theorem dX11_addMethod_64 : decode cX11_addMethod 64 = .ok (.aload_n 0, 1) := by decide +kernel
theorem dX11_addMethod_65 : decode cX11_addMethod 65 = .ok (.getfield 56, 3) := by decide +kernel
theorem dX11_addMethod_68 : decode cX11_addMethod 68 = .ok (.getfield 177, 3) := by decide +kernel
theorem dX11_addMethod_71 : decode cX11_addMethod 71 = .ok (.aload_n 0, 1) := by decide +kernel
theorem dX11_addMethod_72 : decode cX11_addMethod 72 = .ok (.getfield 180, 3) := by decide +kernel
theorem dX11_addMethod_75 : decode cX11_addMethod 75 = .ok (.getfield 184, 3) := by decide +kernel
theorem dX11_addMethod_78 : decode cX11_addMethod 78 = .ok (.iaload, 1) := by decide +kernel
theorem dX11_addMethod_79 : decode cX11_addMethod 79 = .ok (.invokevirtual 91, 3) := by decide +kernel
theorem dX11_addMethod_82 : decode cX11_addMethod 82 = .ok (.iconst 1, 1) := by decide +kernel
theorem dX11_addMethod_83 : decode cX11_addMethod 83 = .ok (.invokevirtual 119, 3) := by decide +kernel
theorem dX11_addMethod_86 : decode cX11_addMethod 86 = .ok (.aload_n 0, 1) := by decide +kernel
theorem dX11_addMethod_87 : decode cX11_addMethod 87 = .ok (.invokevirtual 189, 3) := by decide +kernel
theorem dX11_addMethod_90 : decode cX11_addMethod 90 = .ok (.istore_n 3, 1) := by decide +kernel
theorem dX11_addMethod_91 : decode cX11_addMethod 91 = .ok (.aload_n 0, 1) := by decide +kernel
theorem dX11_addMethod_92 : decode cX11_addMethod 92 = .ok (.getfield 46, 3) := by decide +kernel
theorem dX11_addMethod_95 : decode cX11_addMethod 95 = .ok (.aload_n 0, 1) := by decide +kernel
theorem dX11_addMethod_96 : decode cX11_addMethod 96 = .ok (.getfield 56, 3) := by decide +kernel
theorem dX11_addMethod_99 : decode cX11_addMethod 99 = .ok (.aload_n 0, 1) := by decide +kernel
theorem dX11_addMethod_100 : decode cX11_addMethod 100 = .ok (.getfield 180, 3) := by decide +kernel
theorem dX11_addMethod_103 : decode cX11_addMethod 103 = .ok (.bipush 28, 2) := by decide +kernel
theorem dX11_addMethod_105 : decode cX11_addMethod 105 = .ok (.invokevirtual 192, 3) := by decide +kernel
theorem dX11_addMethod_108 : decode cX11_addMethod 108 = .ok (.aload_n 0, 1) := by decide +kernel
theorem dX11_addMethod_109 : decode cX11_addMethod 109 = .ok (.getfield 18, 3) := by decide +kernel
theorem dX11_addMethod_112 : decode cX11_addMethod 112 = .ok (.aload_n 0, 1) := by decide +kernel

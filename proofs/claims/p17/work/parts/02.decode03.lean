theorem dX0_put2_1 : decode cX0_put2 1 = .ok (.iload_n 1, 1) := by decide +kernel
theorem dX0_put2_2 : decode cX0_put2 2 = .ok (.bipush 8, 2) := by decide +kernel
theorem dX0_put2_4 : decode cX0_put2 4 = .ok (.ishr, 1) := by decide +kernel
theorem dX0_put2_5 : decode cX0_put2 5 = .ok (.invokevirtual 23, 3) := by decide +kernel
theorem dX0_put2_8 : decode cX0_put2 8 = .ok (.aload_n 0, 1) := by decide +kernel
theorem dX0_put2_9 : decode cX0_put2 9 = .ok (.iload_n 1, 1) := by decide +kernel
theorem dX0_put2_10 : decode cX0_put2 10 = .ok (.invokevirtual 23, 3) := by decide +kernel
theorem dX0_put2_13 : decode cX0_put2 13 = .ok (.return_, 1) := by decide +kernel
theorem dX0_put4_0 : decode cX0_put4 0 = .ok (.aload_n 0, 1) := by decide +kernel
theorem dX0_put4_1 : decode cX0_put4 1 = .ok (.iload_n 1, 1) := by decide +kernel
theorem dX0_put4_2 : decode cX0_put4 2 = .ok (.bipush 16, 2) := by decide +kernel
theorem dX0_put4_4 : decode cX0_put4 4 = .ok (.ishr, 1) := by decide +kernel
theorem dX0_put4_5 : decode cX0_put4 5 = .ok (.invokevirtual 27, 3) := by decide +kernel
theorem dX0_put4_8 : decode cX0_put4 8 = .ok (.aload_n 0, 1) := by decide +kernel
theorem dX0_put4_9 : decode cX0_put4 9 = .ok (.iload_n 1, 1) := by decide +kernel
theorem dX0_put4_10 : decode cX0_put4 10 = .ok (.invokevirtual 27, 3) := by decide +kernel
theorem dX0_put4_13 : decode cX0_put4 13 = .ok (.return_, 1) := by decide +kernel
theorem dX0_putAll_0 : decode cX0_putAll 0 = .ok (.aload_n 0, 1) := by decide +kernel
theorem dX0_putAll_1 : decode cX0_putAll 1 = .ok (.getfield 7, 3) := by decide +kernel
theorem dX0_putAll_4 : decode cX0_putAll 4 = .ok (.arraylength, 1) := by decide +kernel
theorem dX0_putAll_5 : decode cX0_putAll 5 = .ok (.istore_n 2, 1) := by decide +kernel
theorem dX0_putAll_6 : decode cX0_putAll 6 = .ok (.iconst 0, 1) := by decide +kernel
theorem dX0_putAll_7 : decode cX0_putAll 7 = .ok (.istore_n 3, 1) := by decide +kernel
theorem dX0_putAll_8 : decode cX0_putAll 8 = .ok (.iload_n 2, 1) := by decide +kernel
theorem dX0_putAll_9 : decode cX0_putAll 9 = .ok (.aload_n 0, 1) := by decide +kernel
theorem dX0_putAll_10 : decode cX0_putAll 10 = .ok (.getfield 13, 3) := by decide +kernel
theorem dX0_putAll_13 : decode cX0_putAll 13 = .ok (.aload_n 1, 1) := by decide +kernel
theorem dX0_putAll_14 : decode cX0_putAll 14 = .ok (.getfield 13, 3) := by decide +kernel
theorem dX0_putAll_17 : decode cX0_putAll 17 = .ok (.iadd, 1) := by decide +kernel
theorem dX0_putAll_18 : decode cX0_putAll 18 = .ok (.if_icmp .ge 19, 3) := by decide +kernel
theorem dX0_putAll_21 : decode cX0_putAll 21 = .ok (.iload_n 3, 1) := by decide +kernel
theorem dX0_putAll_22 : decode cX0_putAll 22 = .ok (.bipush 31, 2) := by decide +kernel
theorem dX0_putAll_24 : decode cX0_putAll 24 = .ok (.if_icmp .ge 13, 3) := by decide +kernel
theorem dX0_putAll_27 : decode cX0_putAll 27 = .ok (.iload_n 2, 1) := by decide +kernel
theorem dX0_putAll_28 : decode cX0_putAll 28 = .ok (.iconst 2, 1) := by decide +kernel
theorem dX0_putAll_29 : decode cX0_putAll 29 = .ok (.imul, 1) := by decide +kernel
theorem dX0_putAll_30 : decode cX0_putAll 30 = .ok (.istore_n 2, 1) := by decide +kernel
theorem dX0_putAll_31 : decode cX0_putAll 31 = .ok (.iinc 3 1, 3) := by decide +kernel
theorem dX0_putAll_34 : decode cX0_putAll 34 = .ok (.goto (-26), 3) := by decide +kernel
theorem dX0_putAll_37 : decode cX0_putAll 37 = .ok (.iload_n 2, 1) := by decide +kernel
theorem dX0_putAll_38 : decode cX0_putAll 38 = .ok (.aload_n 0, 1) := by decide +kernel
theorem dX0_putAll_39 : decode cX0_putAll 39 = .ok (.getfield 7, 3) := by decide +kernel
theorem dX0_putAll_42 : decode cX0_putAll 42 = .ok (.arraylength, 1) := by decide +kernel
theorem dX0_putAll_43 : decode cX0_putAll 43 = .ok (.if_icmp .le 15, 3) := by decide +kernel
theorem dX0_putAll_46 : decode cX0_putAll 46 = .ok (.aload_n 0, 1) := by decide +kernel
theorem dX0_putAll_47 : decode cX0_putAll 47 = .ok (.aload_n 0, 1) := by decide +kernel
theorem dX0_putAll_48 : decode cX0_putAll 48 = .ok (.getfield 7, 3) := by decide +kernel
theorem dX0_putAll_51 : decode cX0_putAll 51 = .ok (.iload_n 2, 1) := by decide +kernel
theorem dX0_putAll_52 : decode cX0_putAll 52 = .ok (.invokestatic 17, 3) := by decide +kernel
theorem dX0_putAll_55 : decode cX0_putAll 55 = .ok (.putfield 7, 3) := by decide +kernel
theorem dX0_putAll_58 : decode cX0_putAll 58 = .ok (.aload_n 1, 1) := by decide +kernel
theorem dX0_putAll_59 : decode cX0_putAll 59 = .ok (.getfield 7, 3) := by decide +kernel
theorem dX0_putAll_62 : decode cX0_putAll 62 = .ok (.iconst 0, 1) := by decide +kernel
theorem dX0_putAll_63 : decode cX0_putAll 63 = .ok (.aload_n 0, 1) := by decide +kernel
theorem dX0_putAll_64 : decode cX0_putAll 64 = .ok (.getfield 7, 3) := by decide +kernel
theorem dX0_putAll_67 : decode cX0_putAll 67 = .ok (.aload_n 0, 1) := by decide +kernel
theorem dX0_putAll_68 : decode cX0_putAll 68 = .ok (.getfield 13, 3) := by decide +kernel
theorem dX0_putAll_71 : decode cX0_putAll 71 = .ok (.aload_n 1, 1) := by decide +kernel
theorem dX0_putAll_72 : decode cX0_putAll 72 = .ok (.getfield 13, 3) := by decide +kernel
theorem dX0_putAll_75 : decode cX0_putAll 75 = .ok (.invokestatic 30, 3) := by decide +kernel
theorem dX0_putAll_78 : decode cX0_putAll 78 = .ok (.aload_n 0, 1) := by decide +kernel
theorem dX0_putAll_79 : decode cX0_putAll 79 = .ok (.dup, 1) := by decide +kernel
theorem dX0_putAll_80 : decode cX0_putAll 80 = .ok (.getfield 13, 3) := by decide +kernel
theorem dX0_putAll_83 : decode cX0_putAll 83 = .ok (.aload_n 1, 1) := by decide +kernel
theorem dX0_putAll_84 : decode cX0_putAll 84 = .ok (.getfield 13, 3) := by decide +kernel
theorem dX0_putAll_87 : decode cX0_putAll 87 = .ok (.iadd, 1) := by decide +kernel
theorem dX0_putAll_88 : decode cX0_putAll 88 = .ok (.putfield 13, 3) := by decide +kernel
theorem dX0_putAll_91 : decode cX0_putAll 91 = .ok (.return_, 1) := by decide +kernel
theorem dX10_gives_0 : decode cX10_gives 0 = .ok (.aload_n 1, 1) := by decide +kernel
theorem dX10_gives_1 : decode cX10_gives 1 = .ok (.iload_n 2, 1) := by decide +kernel
theorem dX10_gives_2 : decode cX10_gives 2 = .ok (.invokevirtual 56, 3) := by decide +kernel
theorem dX10_gives_5 : decode cX10_gives 5 = .ok (.istore_n 3, 1) := by decide +kernel
theorem dX10_gives_6 : decode cX10_gives 6 = .ok (.iload_n 3, 1) := by decide +kernel
theorem dX10_gives_7 : decode cX10_gives 7 = .ok (.sipush 178, 3) := by decide +kernel
theorem dX10_gives_10 : decode cX10_gives 10 = .ok (.if_icmp .ne 14, 3) := by decide +kernel
theorem dX10_gives_13 : decode cX10_gives 13 = .ok (.aload_n 0, 1) := by decide +kernel
theorem dX10_gives_14 : decode cX10_gives 14 = .ok (.aload_n 1, 1) := by decide +kernel
theorem dX10_gives_15 : decode cX10_gives 15 = .ok (.iload_n 2, 1) := by decide +kernel
theorem dX10_gives_16 : decode cX10_gives 16 = .ok (.invokevirtual 60, 3) := by decide +kernel
theorem dX10_gives_19 : decode cX10_gives 19 = .ok (.l2i, 1) := by decide +kernel
theorem dX10_gives_20 : decode cX10_gives 20 = .ok (.invokevirtual 64, 3) := by decide +kernel
theorem dX10_gives_23 : decode cX10_gives 23 = .ok (.ireturn, 1) := by decide +kernel
theorem dX10_gives_24 : decode cX10_gives 24 = .ok (.iload_n 3, 1) := by decide +kernel
theorem dX10_gives_25 : decode cX10_gives 25 = .ok (.sipush 184, 3) := by decide +kernel
theorem dX10_gives_28 : decode cX10_gives 28 = .ok (.if_icmp .ne 16, 3) := by decide +kernel
theorem dX10_gives_31 : decode cX10_gives 31 = .ok (.aload_n 0, 1) := by decide +kernel
theorem dX10_gives_32 : decode cX10_gives 32 = .ok (.aload_n 1, 1) := by decide +kernel
theorem dX10_gives_33 : decode cX10_gives 33 = .ok (.iload_n 2, 1) := by decide +kernel
theorem dX10_gives_34 : decode cX10_gives 34 = .ok (.invokevirtual 60, 3) := by decide +kernel
theorem dX10_gives_37 : decode cX10_gives 37 = .ok (.l2i, 1) := by decide +kernel
theorem dX10_gives_38 : decode cX10_gives 38 = .ok (.invokevirtual 75, 3) := by decide +kernel
theorem dX10_gives_41 : decode cX10_gives 41 = .ok (.goto 7, 3) := by decide +kernel
theorem dX10_gives_44 : decode cX10_gives 44 = .ok (.iload_n 3, 1) := by decide +kernel
theorem dX10_gives_45 : decode cX10_gives 45 = .ok (.invokestatic 78, 3) := by decide +kernel
theorem dX10_gives_48 : decode cX10_gives 48 = .ok (.ireturn, 1) := by decide +kernel
theorem dX10_givesOfMethod_0 : decode cX10_givesOfMethod 0 = .ok (.iload_n 1, 1) := by decide +kernel
theorem dX10_givesOfMethod_1 : decode cX10_givesOfMethod 1 = .ok (.ifCond .lt 12, 3) := by decide +kernel
theorem dX10_givesOfMethod_4 : decode cX10_givesOfMethod 4 = .ok (.iload_n 1, 1) := by decide +kernel
theorem dX10_givesOfMethod_5 : decode cX10_givesOfMethod 5 = .ok (.aload_n 0, 1) := by decide +kernel
theorem dX10_givesOfMethod_6 : decode cX10_givesOfMethod 6 = .ok (.getfield 47, 3) := by decide +kernel
theorem dX10_givesOfMethod_9 : decode cX10_givesOfMethod 9 = .ok (.arraylength, 1) := by decide +kernel
theorem dX10_givesOfMethod_10 : decode cX10_givesOfMethod 10 = .ok (.if_icmp .lt 7, 3) := by decide +kernel
theorem dX10_givesOfMethod_13 : decode cX10_givesOfMethod 13 = .ok (.iconst 0, 1) := by decide +kernel
theorem dX10_givesOfMethod_14 : decode cX10_givesOfMethod 14 = .ok (.goto 9, 3) := by decide +kernel
theorem dX10_givesOfMethod_17 : decode cX10_givesOfMethod 17 = .ok (.aload_n 0, 1) := by decide +kernel
theorem dX10_givesOfMethod_18 : decode cX10_givesOfMethod 18 = .ok (.getfield 47, 3) := by decide +kernel
theorem dX10_givesOfMethod_21 : decode cX10_givesOfMethod 21 = .ok (.iload_n 1, 1) := by decide +kernel
theorem dX10_givesOfMethod_22 : decode cX10_givesOfMethod 22 = .ok (.iaload, 1) := by decide +kernel
theorem dX10_givesOfMethod_23 : decode cX10_givesOfMethod 23 = .ok (.ireturn, 1) := by decide +kernel
theorem dX10_init_0 : decode cX10_init 0 = .ok (.aload_n 0, 1) := by decide +kernel
theorem dX10_init_1 : decode cX10_init 1 = .ok (.invokespecial 3, 3) := by decide +kernel
theorem dX10_init_4 : decode cX10_init 4 = .ok (.aload_n 0, 1) := by decide +kernel
theorem dX10_init_5 : decode cX10_init 5 = .ok (.iconst (-1), 1) := by decide +kernel
theorem dX10_init_6 : decode cX10_init 6 = .ok (.putfield 9, 3) := by decide +kernel
theorem dX10_init_9 : decode cX10_init 9 = .ok (.aload_n 0, 1) := by decide +kernel
theorem dX10_init_10 : decode cX10_init 10 = .ok (.iconst (-1), 1) := by decide +kernel
theorem dX10_init_11 : decode cX10_init 11 = .ok (.putfield 15, 3) := by decide +kernel
theorem dX10_init_14 : decode cX10_init 14 = .ok (.aload_n 0, 1) := by decide +kernel
theorem dX10_init_15 : decode cX10_init 15 = .ok (.aload_n 1, 1) := by decide +kernel
theorem dX10_init_16 : decode cX10_init 16 = .ok (.putfield 18, 3) := by decide +kernel
theorem dX10_init_19 : decode cX10_init 19 = .ok (.aload_n 0, 1) := by decide +kernel
theorem dX10_init_20 : decode cX10_init 20 = .ok (.iload_n 2, 1) := by decide +kernel
theorem dX10_init_21 : decode cX10_init 21 = .ok (.putfield 22, 3) := by decide +kernel
theorem dX10_init_24 : decode cX10_init 24 = .ok (.aload_n 0, 1) := by decide +kernel
theorem dX10_init_25 : decode cX10_init 25 = .ok (.iload_n 2, 1) := by decide +kernel
theorem dX10_init_26 : decode cX10_init 26 = .ok (.newarray .int, 2) := by decide +kernel
theorem dX10_init_28 : decode cX10_init 28 = .ok (.putfield 25, 3) := by decide +kernel
theorem dX10_init_31 : decode cX10_init 31 = .ok (.aload_n 0, 1) := by decide +kernel
theorem dX10_init_32 : decode cX10_init 32 = .ok (.iload_n 2, 1) := by decide +kernel
theorem dX10_init_33 : decode cX10_init 33 = .ok (.newarray .int, 2) := by decide +kernel
theorem dX10_init_35 : decode cX10_init 35 = .ok (.putfield 29, 3) := by decide +kernel
theorem dX10_init_38 : decode cX10_init 38 = .ok (.aload_n 0, 1) := by decide +kernel
theorem dX10_init_39 : decode cX10_init 39 = .ok (.iload_n 2, 1) := by decide +kernel
theorem dX10_init_40 : decode cX10_init 40 = .ok (.newarray .int, 2) := by decide +kernel
theorem dX10_init_42 : decode cX10_init 42 = .ok (.putfield 32, 3) := by decide +kernel
theorem dX10_init_45 : decode cX10_init 45 = .ok (.aload_n 0, 1) := by decide +kernel
theorem dX10_init_46 : decode cX10_init 46 = .ok (.iload_n 3, 1) := by decide +kernel
theorem dX10_init_47 : decode cX10_init 47 = .ok (.putfield 35, 3) := by decide +kernel
theorem dX10_init_50 : decode cX10_init 50 = .ok (.aload_n 0, 1) := by decide +kernel
theorem dX10_init_51 : decode cX10_init 51 = .ok (.iload_n 3, 1) := by decide +kernel
theorem dX10_init_52 : decode cX10_init 52 = .ok (.newarray .int, 2) := by decide +kernel
theorem dX10_init_54 : decode cX10_init 54 = .ok (.putfield 38, 3) := by decide +kernel
theorem dX10_init_57 : decode cX10_init 57 = .ok (.aload_n 0, 1) := by decide +kernel
theorem dX10_init_58 : decode cX10_init 58 = .ok (.iload_n 3, 1) := by decide +kernel
theorem dX10_init_59 : decode cX10_init 59 = .ok (.newarray .int, 2) := by decide +kernel
theorem dX10_init_61 : decode cX10_init 61 = .ok (.putfield 41, 3) := by decide +kernel
theorem dX10_init_64 : decode cX10_init 64 = .ok (.aload_n 0, 1) := by decide +kernel
theorem dX10_init_65 : decode cX10_init 65 = .ok (.iload_n 3, 1) := by decide +kernel
theorem dX10_init_66 : decode cX10_init 66 = .ok (.newarray .int, 2) := by decide +kernel
theorem dX10_init_68 : decode cX10_init 68 = .ok (.putfield 44, 3) := by decide +kernel

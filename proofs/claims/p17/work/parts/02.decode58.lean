theorem dX5_pop_67 : decode cX5_pop 67 = .ok (.aload_n 0, 1) := by decide +kernel
theorem dX5_pop_68 : decode cX5_pop 68 = .ok (.getfield 28, 3) := by decide +kernel
theorem dX5_pop_71 : decode cX5_pop 71 = .ok (.iload_n 1, 1) := by decide +kernel
theorem dX5_pop_72 : decode cX5_pop 72 = .ok (.laload, 1) := by decide +kernel
theorem dX5_pop_73 : decode cX5_pop 73 = .ok (.lreturn, 1) := by decide +kernel
theorem dX5_pop__0 : decode cX5_pop_ 0 = .ok (.iload_n 1, 1) := by decide +kernel
theorem dX5_pop__1 : decode cX5_pop_ 1 = .ok (.iconst 2, 1) := by decide +kernel
theorem dX5_pop__2 : decode cX5_pop_ 2 = .ok (.if_icmp .ne 8, 3) := by decide +kernel
theorem dX5_pop__5 : decode cX5_pop_ 5 = .ok (.aload_n 0, 1) := by decide +kernel
theorem dX5_pop__6 : decode cX5_pop_ 6 = .ok (.invokevirtual 141, 3) := by decide +kernel
theorem dX5_pop__9 : decode cX5_pop_ 9 = .ok (.pop2, 1) := by decide +kernel
theorem dX5_pop__10 : decode cX5_pop_ 10 = .ok (.iload_n 1, 1) := by decide +kernel
theorem dX5_pop__11 : decode cX5_pop_ 11 = .ok (.ifCond .ne 7, 3) := by decide +kernel
theorem dX5_pop__14 : decode cX5_pop_ 14 = .ok (.lconst 0, 1) := by decide +kernel
theorem dX5_pop__15 : decode cX5_pop_ 15 = .ok (.goto 7, 3) := by decide +kernel
theorem dX5_pop__18 : decode cX5_pop_ 18 = .ok (.aload_n 0, 1) := by decide +kernel
theorem dX5_pop__19 : decode cX5_pop_ 19 = .ok (.invokevirtual 141, 3) := by decide +kernel
theorem dX5_pop__22 : decode cX5_pop_ 22 = .ok (.lreturn, 1) := by decide +kernel
theorem dX5_push_0 : decode cX5_push 0 = .ok (.aload_n 0, 1) := by decide +kernel
theorem dX5_push_1 : decode cX5_push 1 = .ok (.getfield 106, 3) := by decide +kernel
theorem dX5_push_4 : decode cX5_push 4 = .ok (.bipush 24, 2) := by decide +kernel
theorem dX5_push_6 : decode cX5_push 6 = .ok (.imul, 1) := by decide +kernel
theorem dX5_push_7 : decode cX5_push 7 = .ok (.aload_n 0, 1) := by decide +kernel
theorem dX5_push_8 : decode cX5_push 8 = .ok (.getfield 126, 3) := by decide +kernel
theorem dX5_push_11 : decode cX5_push 11 = .ok (.iadd, 1) := by decide +kernel
theorem dX5_push_12 : decode cX5_push 12 = .ok (.istore_n 3, 1) := by decide +kernel
theorem dX5_push_13 : decode cX5_push 13 = .ok (.aload_n 0, 1) := by decide +kernel
theorem dX5_push_14 : decode cX5_push 14 = .ok (.getfield 126, 3) := by decide +kernel
theorem dX5_push_17 : decode cX5_push 17 = .ok (.ifCond .lt 25, 3) := by decide +kernel
theorem dX5_push_20 : decode cX5_push 20 = .ok (.aload_n 0, 1) := by decide +kernel
theorem dX5_push_21 : decode cX5_push 21 = .ok (.getfield 126, 3) := by decide +kernel
theorem dX5_push_24 : decode cX5_push 24 = .ok (.bipush 24, 2) := by decide +kernel
theorem dX5_push_26 : decode cX5_push 26 = .ok (.if_icmp .ge 16, 3) := by decide +kernel
theorem dX5_push_29 : decode cX5_push 29 = .ok (.iload_n 3, 1) := by decide +kernel
theorem dX5_push_30 : decode cX5_push 30 = .ok (.ifCond .lt 12, 3) := by decide +kernel
theorem dX5_push_33 : decode cX5_push 33 = .ok (.iload_n 3, 1) := by decide +kernel
theorem dX5_push_34 : decode cX5_push 34 = .ok (.aload_n 0, 1) := by decide +kernel
theorem dX5_push_35 : decode cX5_push 35 = .ok (.getfield 28, 3) := by decide +kernel
theorem dX5_push_38 : decode cX5_push 38 = .ok (.arraylength, 1) := by decide +kernel
theorem dX5_push_39 : decode cX5_push 39 = .ok (.if_icmp .lt 14, 3) := by decide +kernel
theorem dX5_push_42 : decode cX5_push 42 = .ok (.aload_n 0, 1) := by decide +kernel
theorem dX5_push_43 : decode cX5_push 43 = .ok (.dup, 1) := by decide +kernel
theorem dX5_push_44 : decode cX5_push 44 = .ok (.getfield 76, 3) := by decide +kernel
theorem dX5_push_47 : decode cX5_push 47 = .ok (.iconst 1, 1) := by decide +kernel
theorem dX5_push_48 : decode cX5_push 48 = .ok (.iadd, 1) := by decide +kernel
theorem dX5_push_49 : decode cX5_push 49 = .ok (.putfield 76, 3) := by decide +kernel
theorem dX5_push_52 : decode cX5_push 52 = .ok (.return_, 1) := by decide +kernel
theorem dX5_push_53 : decode cX5_push 53 = .ok (.aload_n 0, 1) := by decide +kernel
theorem dX5_push_54 : decode cX5_push 54 = .ok (.getfield 28, 3) := by decide +kernel
theorem dX5_push_57 : decode cX5_push 57 = .ok (.iload_n 3, 1) := by decide +kernel
theorem dX5_push_58 : decode cX5_push 58 = .ok (.lload_n 1, 1) := by decide +kernel
theorem dX5_push_59 : decode cX5_push 59 = .ok (.lastore, 1) := by decide +kernel
theorem dX5_push_60 : decode cX5_push 60 = .ok (.aload_n 0, 1) := by decide +kernel
theorem dX5_push_61 : decode cX5_push 61 = .ok (.dup, 1) := by decide +kernel
theorem dX5_push_62 : decode cX5_push 62 = .ok (.getfield 126, 3) := by decide +kernel
theorem dX5_push_65 : decode cX5_push 65 = .ok (.iconst 1, 1) := by decide +kernel
theorem dX5_push_66 : decode cX5_push 66 = .ok (.iadd, 1) := by decide +kernel
theorem dX5_push_67 : decode cX5_push 67 = .ok (.putfield 126, 3) := by decide +kernel
theorem dX5_push_70 : decode cX5_push 70 = .ok (.return_, 1) := by decide +kernel
theorem dX5_push__0 : decode cX5_push_ 0 = .ok (.iload_n 1, 1) := by decide +kernel
theorem dX5_push__1 : decode cX5_push_ 1 = .ok (.ifCond .eq 8, 3) := by decide +kernel
theorem dX5_push__4 : decode cX5_push_ 4 = .ok (.aload_n 0, 1) := by decide +kernel
theorem dX5_push__5 : decode cX5_push_ 5 = .ok (.lload_n 2, 1) := by decide +kernel
theorem dX5_push__6 : decode cX5_push_ 6 = .ok (.invokevirtual 137, 3) := by decide +kernel
theorem dX5_push__9 : decode cX5_push_ 9 = .ok (.iload_n 1, 1) := by decide +kernel
theorem dX5_push__10 : decode cX5_push_ 10 = .ok (.iconst 2, 1) := by decide +kernel
theorem dX5_push__11 : decode cX5_push_ 11 = .ok (.if_icmp .ne 8, 3) := by decide +kernel
theorem dX5_push__14 : decode cX5_push_ 14 = .ok (.aload_n 0, 1) := by decide +kernel
theorem dX5_push__15 : decode cX5_push_ 15 = .ok (.lconst 0, 1) := by decide +kernel
theorem dX5_push__16 : decode cX5_push_ 16 = .ok (.invokevirtual 137, 3) := by decide +kernel
theorem dX5_push__19 : decode cX5_push_ 19 = .ok (.return_, 1) := by decide +kernel
theorem dX5_raise_0 : decode cX5_raise 0 = .ok (.aload_n 0, 1) := by decide +kernel
theorem dX5_raise_1 : decode cX5_raise 1 = .ok (.getfield 106, 3) := by decide +kernel
theorem dX5_raise_4 : decode cX5_raise 4 = .ok (.istore_n 2, 1) := by decide +kernel
theorem dX5_raise_5 : decode cX5_raise 5 = .ok (.iload_n 2, 1) := by decide +kernel
theorem dX5_raise_6 : decode cX5_raise 6 = .ok (.ifCond .lt 46, 3) := by decide +kernel
theorem dX5_raise_9 : decode cX5_raise 9 = .ok (.aload_n 0, 1) := by decide +kernel
theorem dX5_raise_10 : decode cX5_raise 10 = .ok (.iload_n 1, 1) := by decide +kernel
theorem dX5_raise_11 : decode cX5_raise 11 = .ok (.invokevirtual 291, 3) := by decide +kernel
theorem dX5_raise_14 : decode cX5_raise 14 = .ok (.istore_n 3, 1) := by decide +kernel
theorem dX5_raise_15 : decode cX5_raise 15 = .ok (.iload_n 3, 1) := by decide +kernel
theorem dX5_raise_16 : decode cX5_raise 16 = .ok (.ifCond .lt 22, 3) := by decide +kernel
theorem dX5_raise_19 : decode cX5_raise 19 = .ok (.aload_n 0, 1) := by decide +kernel
theorem dX5_raise_20 : decode cX5_raise 20 = .ok (.iload_n 3, 1) := by decide +kernel
theorem dX5_raise_21 : decode cX5_raise 21 = .ok (.putfield 123, 3) := by decide +kernel
theorem dX5_raise_24 : decode cX5_raise 24 = .ok (.aload_n 0, 1) := by decide +kernel
theorem dX5_raise_25 : decode cX5_raise 25 = .ok (.iconst 0, 1) := by decide +kernel
theorem dX5_raise_26 : decode cX5_raise 26 = .ok (.putfield 126, 3) := by decide +kernel
theorem dX5_raise_29 : decode cX5_raise 29 = .ok (.aload_n 0, 1) := by decide +kernel
theorem dX5_raise_30 : decode cX5_raise 30 = .ok (.iconst (-1), 1) := by decide +kernel
theorem dX5_raise_31 : decode cX5_raise 31 = .ok (.iload_n 1, 1) := by decide +kernel
theorem dX5_raise_32 : decode cX5_raise 32 = .ok (.isub, 1) := by decide +kernel
theorem dX5_raise_33 : decode cX5_raise 33 = .ok (.i2l, 1) := by decide +kernel
theorem dX5_raise_34 : decode cX5_raise 34 = .ok (.invokevirtual 137, 3) := by decide +kernel
theorem dX5_raise_37 : decode cX5_raise 37 = .ok (.return_, 1) := by decide +kernel
theorem dX5_raise_38 : decode cX5_raise 38 = .ok (.iload_n 2, 1) := by decide +kernel
theorem dX5_raise_39 : decode cX5_raise 39 = .ok (.ifCond .le 7, 3) := by decide +kernel
theorem dX5_raise_42 : decode cX5_raise 42 = .ok (.aload_n 0, 1) := by decide +kernel
theorem dX5_raise_43 : decode cX5_raise 43 = .ok (.invokevirtual 276, 3) := by decide +kernel
theorem dX5_raise_46 : decode cX5_raise 46 = .ok (.iinc 2 (-1), 3) := by decide +kernel
theorem dX5_raise_49 : decode cX5_raise 49 = .ok (.goto (-44), 3) := by decide +kernel
theorem dX5_raise_52 : decode cX5_raise 52 = .ok (.aload_n 0, 1) := by decide +kernel
theorem dX5_raise_53 : decode cX5_raise 53 = .ok (.iconst 1, 1) := by decide +kernel
theorem dX5_raise_54 : decode cX5_raise 54 = .ok (.putfield 103, 3) := by decide +kernel
theorem dX5_raise_57 : decode cX5_raise 57 = .ok (.aload_n 0, 1) := by decide +kernel
theorem dX5_raise_58 : decode cX5_raise 58 = .ok (.iload_n 1, 1) := by decide +kernel
theorem dX5_raise_59 : decode cX5_raise 59 = .ok (.putfield 34, 3) := by decide +kernel
theorem dX5_raise_62 : decode cX5_raise 62 = .ok (.return_, 1) := by decide +kernel
theorem dX5_refusal_0 : decode cX5_refusal 0 = .ok (.aload_n 0, 1) := by decide +kernel
theorem dX5_refusal_1 : decode cX5_refusal 1 = .ok (.getfield 38, 3) := by decide +kernel
theorem dX5_refusal_4 : decode cX5_refusal 4 = .ok (.ifnull 14, 3) := by decide +kernel
theorem dX5_refusal_7 : decode cX5_refusal 7 = .ok (.aload_n 0, 1) := by decide +kernel
theorem dX5_refusal_8 : decode cX5_refusal 8 = .ok (.getfield 38, 3) := by decide +kernel
theorem dX5_refusal_11 : decode cX5_refusal 11 = .ok (.iload_n 1, 1) := by decide +kernel
theorem dX5_refusal_12 : decode cX5_refusal 12 = .ok (.invokevirtual 79, 3) := by decide +kernel
theorem dX5_refusal_15 : decode cX5_refusal 15 = .ok (.ifnonnull 5, 3) := by decide +kernel
theorem dX5_refusal_18 : decode cX5_refusal 18 = .ok (.iconst (-1), 1) := by decide +kernel
theorem dX5_refusal_19 : decode cX5_refusal 19 = .ok (.ireturn, 1) := by decide +kernel
theorem dX5_refusal_20 : decode cX5_refusal 20 = .ok (.aload_n 0, 1) := by decide +kernel
theorem dX5_refusal_21 : decode cX5_refusal 21 = .ok (.getfield 38, 3) := by decide +kernel
theorem dX5_refusal_24 : decode cX5_refusal 24 = .ok (.iload_n 1, 1) := by decide +kernel
theorem dX5_refusal_25 : decode cX5_refusal 25 = .ok (.invokevirtual 83, 3) := by decide +kernel
theorem dX5_refusal_28 : decode cX5_refusal 28 = .ok (.istore_n 3, 1) := by decide +kernel
theorem dX5_refusal_29 : decode cX5_refusal 29 = .ok (.iload_n 3, 1) := by decide +kernel
theorem dX5_refusal_30 : decode cX5_refusal 30 = .ok (.invokestatic 86, 3) := by decide +kernel
theorem dX5_refusal_33 : decode cX5_refusal 33 = .ok (.aload_n 0, 1) := by decide +kernel
theorem dX5_refusal_34 : decode cX5_refusal 34 = .ok (.getfield 54, 3) := by decide +kernel
theorem dX5_refusal_37 : decode cX5_refusal 37 = .ok (.if_icmp .eq 6, 3) := by decide +kernel
theorem dX5_refusal_40 : decode cX5_refusal 40 = .ok (.bipush (-2), 2) := by decide +kernel
theorem dX5_refusal_42 : decode cX5_refusal 42 = .ok (.ireturn, 1) := by decide +kernel
theorem dX5_refusal_43 : decode cX5_refusal 43 = .ok (.iconst 0, 1) := by decide +kernel
theorem dX5_refusal_44 : decode cX5_refusal 44 = .ok (.istore 4, 2) := by decide +kernel
theorem dX5_refusal_46 : decode cX5_refusal 46 = .ok (.iload 4, 2) := by decide +kernel
theorem dX5_refusal_48 : decode cX5_refusal 48 = .ok (.aload_n 0, 1) := by decide +kernel
theorem dX5_refusal_49 : decode cX5_refusal 49 = .ok (.getfield 54, 3) := by decide +kernel
theorem dX5_refusal_52 : decode cX5_refusal 52 = .ok (.if_icmp .ge 48, 3) := by decide +kernel
theorem dX5_refusal_55 : decode cX5_refusal 55 = .ok (.iload_n 3, 1) := by decide +kernel
theorem dX5_refusal_56 : decode cX5_refusal 56 = .ok (.iload 4, 2) := by decide +kernel
theorem dX5_refusal_58 : decode cX5_refusal 58 = .ok (.invokestatic 91, 3) := by decide +kernel
theorem dX5_refusal_61 : decode cX5_refusal 61 = .ok (.iconst 3, 1) := by decide +kernel
theorem dX5_refusal_62 : decode cX5_refusal 62 = .ok (.if_icmp .ne 32, 3) := by decide +kernel
theorem dX5_refusal_65 : decode cX5_refusal 65 = .ok (.aload_n 0, 1) := by decide +kernel
theorem dX5_refusal_66 : decode cX5_refusal 66 = .ok (.getfield 22, 3) := by decide +kernel
theorem dX5_refusal_69 : decode cX5_refusal 69 = .ok (.iload 4, 2) := by decide +kernel
theorem dX5_refusal_71 : decode cX5_refusal 71 = .ok (.laload, 1) := by decide +kernel
theorem dX5_refusal_72 : decode cX5_refusal 72 = .ok (.lconst 0, 1) := by decide +kernel
theorem dX5_refusal_73 : decode cX5_refusal 73 = .ok (.lcmp, 1) := by decide +kernel
theorem dX5_refusal_74 : decode cX5_refusal 74 = .ok (.ifCond .eq 20, 3) := by decide +kernel
theorem dX5_refusal_77 : decode cX5_refusal 77 = .ok (.aload_n 0, 1) := by decide +kernel
theorem dX5_refusal_78 : decode cX5_refusal 78 = .ok (.aload_n 0, 1) := by decide +kernel

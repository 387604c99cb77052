theorem dX7_poolFits_120 : decode cX7_poolFits 120 = .ok (.goto 4, 3) := by decide +kernel
theorem dX7_poolFits_123 : decode cX7_poolFits 123 = .ok (.iconst 0, 1) := by decide +kernel
theorem dX7_poolFits_124 : decode cX7_poolFits 124 = .ok (.iadd, 1) := by decide +kernel
theorem dX7_poolFits_125 : decode cX7_poolFits 125 = .ok (.istore_n 1, 1) := by decide +kernel
theorem dX7_poolFits_126 : decode cX7_poolFits 126 = .ok (.aload_n 0, 1) := by decide +kernel
theorem dX7_poolFits_127 : decode cX7_poolFits 127 = .ok (.dup, 1) := by decide +kernel
theorem dX7_poolFits_128 : decode cX7_poolFits 128 = .ok (.getfield 44, 3) := by decide +kernel
theorem dX7_poolFits_131 : decode cX7_poolFits 131 = .ok (.aload_n 0, 1) := by decide +kernel
theorem dX7_poolFits_132 : decode cX7_poolFits 132 = .ok (.aload_n 0, 1) := by decide +kernel
theorem dX7_poolFits_133 : decode cX7_poolFits 133 = .ok (.aload_n 0, 1) := by decide +kernel
theorem dX7_poolFits_134 : decode cX7_poolFits 134 = .ok (.getfield 44, 3) := by decide +kernel
theorem dX7_poolFits_137 : decode cX7_poolFits 137 = .ok (.invokevirtual 100, 3) := by decide +kernel
theorem dX7_poolFits_140 : decode cX7_poolFits 140 = .ok (.invokevirtual 122, 3) := by decide +kernel
theorem dX7_poolFits_143 : decode cX7_poolFits 143 = .ok (.iadd, 1) := by decide +kernel
theorem dX7_poolFits_144 : decode cX7_poolFits 144 = .ok (.putfield 44, 3) := by decide +kernel
theorem dX7_poolFits_147 : decode cX7_poolFits 147 = .ok (.iinc 1 1, 3) := by decide +kernel
theorem dX7_poolFits_150 : decode cX7_poolFits 150 = .ok (.goto (-80), 3) := by decide +kernel
theorem dX7_poolFits_153 : decode cX7_poolFits 153 = .ok (.iconst 1, 1) := by decide +kernel
theorem dX7_poolFits_154 : decode cX7_poolFits 154 = .ok (.ireturn, 1) := by decide +kernel
theorem dX7_s4_0 : decode cX7_s4 0 = .ok (.iload_n 1, 1) := by decide +kernel
theorem dX7_s4_1 : decode cX7_s4 1 = .ok (.ifCond .lt 25, 3) := by decide +kernel
theorem dX7_s4_4 : decode cX7_s4 4 = .ok (.iload_n 1, 1) := by decide +kernel
theorem dX7_s4_5 : decode cX7_s4 5 = .ok (.aload_n 0, 1) := by decide +kernel
theorem dX7_s4_6 : decode cX7_s4 6 = .ok (.getfield 38, 3) := by decide +kernel
theorem dX7_s4_9 : decode cX7_s4 9 = .ok (.iconst 4, 1) := by decide +kernel
theorem dX7_s4_10 : decode cX7_s4 10 = .ok (.isub, 1) := by decide +kernel
theorem dX7_s4_11 : decode cX7_s4 11 = .ok (.if_icmp .gt 15, 3) := by decide +kernel
theorem dX7_s4_14 : decode cX7_s4 14 = .ok (.aload_n 0, 1) := by decide +kernel
theorem dX7_s4_15 : decode cX7_s4 15 = .ok (.getfield 38, 3) := by decide +kernel
theorem dX7_s4_18 : decode cX7_s4 18 = .ok (.aload_n 0, 1) := by decide +kernel
theorem dX7_s4_19 : decode cX7_s4 19 = .ok (.getfield 9, 3) := by decide +kernel
theorem dX7_s4_22 : decode cX7_s4 22 = .ok (.arraylength, 1) := by decide +kernel
theorem dX7_s4_23 : decode cX7_s4 23 = .ok (.if_icmp .le 5, 3) := by decide +kernel
theorem dX7_s4_26 : decode cX7_s4 26 = .ok (.iconst 0, 1) := by decide +kernel
theorem dX7_s4_27 : decode cX7_s4 27 = .ok (.ireturn, 1) := by decide +kernel
theorem dX7_s4_28 : decode cX7_s4 28 = .ok (.aload_n 0, 1) := by decide +kernel
theorem dX7_s4_29 : decode cX7_s4 29 = .ok (.getfield 9, 3) := by decide +kernel
theorem dX7_s4_32 : decode cX7_s4 32 = .ok (.iload_n 1, 1) := by decide +kernel
theorem dX7_s4_33 : decode cX7_s4 33 = .ok (.baload, 1) := by decide +kernel
theorem dX7_s4_34 : decode cX7_s4 34 = .ok (.bipush 24, 2) := by decide +kernel
theorem dX7_s4_36 : decode cX7_s4 36 = .ok (.ishl, 1) := by decide +kernel
theorem dX7_s4_37 : decode cX7_s4 37 = .ok (.aload_n 0, 1) := by decide +kernel
theorem dX7_s4_38 : decode cX7_s4 38 = .ok (.getfield 9, 3) := by decide +kernel
theorem dX7_s4_41 : decode cX7_s4 41 = .ok (.iload_n 1, 1) := by decide +kernel
theorem dX7_s4_42 : decode cX7_s4 42 = .ok (.iconst 1, 1) := by decide +kernel
theorem dX7_s4_43 : decode cX7_s4 43 = .ok (.iadd, 1) := by decide +kernel
theorem dX7_s4_44 : decode cX7_s4 44 = .ok (.baload, 1) := by decide +kernel
theorem dX7_s4_45 : decode cX7_s4 45 = .ok (.sipush 255, 3) := by decide +kernel
theorem dX7_s4_48 : decode cX7_s4 48 = .ok (.iand, 1) := by decide +kernel
theorem dX7_s4_49 : decode cX7_s4 49 = .ok (.bipush 16, 2) := by decide +kernel
theorem dX7_s4_51 : decode cX7_s4 51 = .ok (.ishl, 1) := by decide +kernel
theorem dX7_s4_52 : decode cX7_s4 52 = .ok (.ior, 1) := by decide +kernel
theorem dX7_s4_53 : decode cX7_s4 53 = .ok (.aload_n 0, 1) := by decide +kernel
theorem dX7_s4_54 : decode cX7_s4 54 = .ok (.getfield 9, 3) := by decide +kernel
theorem dX7_s4_57 : decode cX7_s4 57 = .ok (.iload_n 1, 1) := by decide +kernel
theorem dX7_s4_58 : decode cX7_s4 58 = .ok (.iconst 2, 1) := by decide +kernel
theorem dX7_s4_59 : decode cX7_s4 59 = .ok (.iadd, 1) := by decide +kernel
theorem dX7_s4_60 : decode cX7_s4 60 = .ok (.baload, 1) := by decide +kernel
theorem dX7_s4_61 : decode cX7_s4 61 = .ok (.sipush 255, 3) := by decide +kernel
theorem dX7_s4_64 : decode cX7_s4 64 = .ok (.iand, 1) := by decide +kernel
theorem dX7_s4_65 : decode cX7_s4 65 = .ok (.bipush 8, 2) := by decide +kernel
theorem dX7_s4_67 : decode cX7_s4 67 = .ok (.ishl, 1) := by decide +kernel
theorem dX7_s4_68 : decode cX7_s4 68 = .ok (.ior, 1) := by decide +kernel
theorem dX7_s4_69 : decode cX7_s4 69 = .ok (.aload_n 0, 1) := by decide +kernel
theorem dX7_s4_70 : decode cX7_s4 70 = .ok (.getfield 9, 3) := by decide +kernel
theorem dX7_s4_73 : decode cX7_s4 73 = .ok (.iload_n 1, 1) := by decide +kernel
theorem dX7_s4_74 : decode cX7_s4 74 = .ok (.iconst 3, 1) := by decide +kernel
theorem dX7_s4_75 : decode cX7_s4 75 = .ok (.iadd, 1) := by decide +kernel
theorem dX7_s4_76 : decode cX7_s4 76 = .ok (.baload, 1) := by decide +kernel
theorem dX7_s4_77 : decode cX7_s4 77 = .ok (.sipush 255, 3) := by decide +kernel
theorem dX7_s4_80 : decode cX7_s4 80 = .ok (.iand, 1) := by decide +kernel
theorem dX7_s4_81 : decode cX7_s4 81 = .ok (.ior, 1) := by decide +kernel
theorem dX7_s4_82 : decode cX7_s4 82 = .ok (.ireturn, 1) := by decide +kernel
theorem dX7_secondOf_0 : decode cX7_secondOf 0 = .ok (.aload_n 0, 1) := by decide +kernel
theorem dX7_secondOf_1 : decode cX7_secondOf 1 = .ok (.aload_n 0, 1) := by decide +kernel
theorem dX7_secondOf_2 : decode cX7_secondOf 2 = .ok (.iload_n 1, 1) := by decide +kernel
theorem dX7_secondOf_3 : decode cX7_secondOf 3 = .ok (.invokevirtual 150, 3) := by decide +kernel
theorem dX7_secondOf_6 : decode cX7_secondOf 6 = .ok (.iconst 3, 1) := by decide +kernel
theorem dX7_secondOf_7 : decode cX7_secondOf 7 = .ok (.iadd, 1) := by decide +kernel
theorem dX7_secondOf_8 : decode cX7_secondOf 8 = .ok (.invokevirtual 107, 3) := by decide +kernel
theorem dX7_secondOf_11 : decode cX7_secondOf 11 = .ok (.ireturn, 1) := by decide +kernel
theorem dX7_tagOf_0 : decode cX7_tagOf 0 = .ok (.aload_n 0, 1) := by decide +kernel
theorem dX7_tagOf_1 : decode cX7_tagOf 1 = .ok (.iload_n 1, 1) := by decide +kernel
theorem dX7_tagOf_2 : decode cX7_tagOf 2 = .ok (.invokevirtual 150, 3) := by decide +kernel
theorem dX7_tagOf_5 : decode cX7_tagOf 5 = .ok (.ifCond .ne 7, 3) := by decide +kernel
theorem dX7_tagOf_8 : decode cX7_tagOf 8 = .ok (.iconst 0, 1) := by decide +kernel
theorem dX7_tagOf_9 : decode cX7_tagOf 9 = .ok (.goto 12, 3) := by decide +kernel
theorem dX7_tagOf_12 : decode cX7_tagOf 12 = .ok (.aload_n 0, 1) := by decide +kernel
theorem dX7_tagOf_13 : decode cX7_tagOf 13 = .ok (.aload_n 0, 1) := by decide +kernel
theorem dX7_tagOf_14 : decode cX7_tagOf 14 = .ok (.iload_n 1, 1) := by decide +kernel
theorem dX7_tagOf_15 : decode cX7_tagOf 15 = .ok (.invokevirtual 150, 3) := by decide +kernel
theorem dX7_tagOf_18 : decode cX7_tagOf 18 = .ok (.invokevirtual 100, 3) := by decide +kernel
theorem dX7_tagOf_21 : decode cX7_tagOf 21 = .ok (.ireturn, 1) := by decide +kernel
theorem dX7_typeOf_0 : decode cX7_typeOf 0 = .ok (.aload_n 0, 1) := by decide +kernel
theorem dX7_typeOf_1 : decode cX7_typeOf 1 = .ok (.aload_n 0, 1) := by decide +kernel
theorem dX7_typeOf_2 : decode cX7_typeOf 2 = .ok (.iload_n 1, 1) := by decide +kernel
theorem dX7_typeOf_3 : decode cX7_typeOf 3 = .ok (.invokevirtual 165, 3) := by decide +kernel
theorem dX7_typeOf_6 : decode cX7_typeOf 6 = .ok (.iconst 4, 1) := by decide +kernel
theorem dX7_typeOf_7 : decode cX7_typeOf 7 = .ok (.iadd, 1) := by decide +kernel
theorem dX7_typeOf_8 : decode cX7_typeOf 8 = .ok (.invokevirtual 107, 3) := by decide +kernel
theorem dX7_typeOf_11 : decode cX7_typeOf 11 = .ok (.ireturn, 1) := by decide +kernel
theorem dX7_typesHold_0 : decode cX7_typesHold 0 = .ok (.iconst 1, 1) := by decide +kernel
theorem dX7_typesHold_1 : decode cX7_typesHold 1 = .ok (.istore_n 1, 1) := by decide +kernel
theorem dX7_typesHold_2 : decode cX7_typesHold 2 = .ok (.iload_n 1, 1) := by decide +kernel
theorem dX7_typesHold_3 : decode cX7_typesHold 3 = .ok (.aload_n 0, 1) := by decide +kernel
theorem dX7_typesHold_4 : decode cX7_typesHold 4 = .ok (.getfield 110, 3) := by decide +kernel
theorem dX7_typesHold_7 : decode cX7_typesHold 7 = .ok (.if_icmp .ge 71, 3) := by decide +kernel
theorem dX7_typesHold_10 : decode cX7_typesHold 10 = .ok (.aload_n 0, 1) := by decide +kernel
theorem dX7_typesHold_11 : decode cX7_typesHold 11 = .ok (.iload_n 1, 1) := by decide +kernel
theorem dX7_typesHold_12 : decode cX7_typesHold 12 = .ok (.invokevirtual 156, 3) := by decide +kernel
theorem dX7_typesHold_15 : decode cX7_typesHold 15 = .ok (.istore_n 2, 1) := by decide +kernel
theorem dX7_typesHold_16 : decode cX7_typesHold 16 = .ok (.iload_n 2, 1) := by decide +kernel
theorem dX7_typesHold_17 : decode cX7_typesHold 17 = .ok (.bipush 9, 2) := by decide +kernel
theorem dX7_typesHold_19 : decode cX7_typesHold 19 = .ok (.if_icmp .ne 19, 3) := by decide +kernel
theorem dX7_typesHold_22 : decode cX7_typesHold 22 = .ok (.aload_n 0, 1) := by decide +kernel
theorem dX7_typesHold_23 : decode cX7_typesHold 23 = .ok (.aload_n 0, 1) := by decide +kernel
theorem dX7_typesHold_24 : decode cX7_typesHold 24 = .ok (.aload_n 0, 1) := by decide +kernel
theorem dX7_typesHold_25 : decode cX7_typesHold 25 = .ok (.iload_n 1, 1) := by decide +kernel
theorem dX7_typesHold_26 : decode cX7_typesHold 26 = .ok (.invokevirtual 162, 3) := by decide +kernel
theorem dX7_typesHold_29 : decode cX7_typesHold 29 = .ok (.invokevirtual 162, 3) := by decide +kernel
theorem dX7_typesHold_32 : decode cX7_typesHold 32 = .ok (.invokevirtual 174, 3) := by decide +kernel
theorem dX7_typesHold_35 : decode cX7_typesHold 35 = .ok (.ifCond .eq 25, 3) := by decide +kernel
theorem dX7_typesHold_38 : decode cX7_typesHold 38 = .ok (.iload_n 2, 1) := by decide +kernel
theorem dX7_typesHold_39 : decode cX7_typesHold 39 = .ok (.bipush 10, 2) := by decide +kernel
theorem dX7_typesHold_41 : decode cX7_typesHold 41 = .ok (.if_icmp .ne 31, 3) := by decide +kernel
theorem dX7_typesHold_44 : decode cX7_typesHold 44 = .ok (.aload_n 0, 1) := by decide +kernel
theorem dX7_typesHold_45 : decode cX7_typesHold 45 = .ok (.aload_n 0, 1) := by decide +kernel
theorem dX7_typesHold_46 : decode cX7_typesHold 46 = .ok (.aload_n 0, 1) := by decide +kernel
theorem dX7_typesHold_47 : decode cX7_typesHold 47 = .ok (.iload_n 1, 1) := by decide +kernel
theorem dX7_typesHold_48 : decode cX7_typesHold 48 = .ok (.invokevirtual 162, 3) := by decide +kernel
theorem dX7_typesHold_51 : decode cX7_typesHold 51 = .ok (.invokevirtual 162, 3) := by decide +kernel
theorem dX7_typesHold_54 : decode cX7_typesHold 54 = .ok (.invokevirtual 177, 3) := by decide +kernel
theorem dX7_typesHold_57 : decode cX7_typesHold 57 = .ok (.ifCond .ne 15, 3) := by decide +kernel
theorem dX7_typesHold_60 : decode cX7_typesHold 60 = .ok (.aload_n 0, 1) := by decide +kernel
theorem dX7_typesHold_61 : decode cX7_typesHold 61 = .ok (.bipush 10, 2) := by decide +kernel
theorem dX7_typesHold_63 : decode cX7_typesHold 63 = .ok (.aload_n 0, 1) := by decide +kernel
theorem dX7_typesHold_64 : decode cX7_typesHold 64 = .ok (.iload_n 1, 1) := by decide +kernel
theorem dX7_typesHold_65 : decode cX7_typesHold 65 = .ok (.invokevirtual 150, 3) := by decide +kernel
theorem dX7_typesHold_68 : decode cX7_typesHold 68 = .ok (.invokevirtual 87, 3) := by decide +kernel
theorem dX7_typesHold_71 : decode cX7_typesHold 71 = .ok (.ireturn, 1) := by decide +kernel
theorem dX7_typesHold_72 : decode cX7_typesHold 72 = .ok (.iinc 1 1, 3) := by decide +kernel
theorem dX7_typesHold_75 : decode cX7_typesHold 75 = .ok (.goto (-73), 3) := by decide +kernel
theorem dX7_typesHold_78 : decode cX7_typesHold 78 = .ok (.iconst 0, 1) := by decide +kernel
theorem dX7_typesHold_79 : decode cX7_typesHold 79 = .ok (.istore_n 1, 1) := by decide +kernel
theorem dX7_typesHold_80 : decode cX7_typesHold 80 = .ok (.iload_n 1, 1) := by decide +kernel
theorem dX7_typesHold_81 : decode cX7_typesHold 81 = .ok (.aload_n 0, 1) := by decide +kernel
theorem dX7_typesHold_82 : decode cX7_typesHold 82 = .ok (.getfield 134, 3) := by decide +kernel
theorem dX7_typesHold_85 : decode cX7_typesHold 85 = .ok (.aload_n 0, 1) := by decide +kernel
theorem dX7_typesHold_86 : decode cX7_typesHold 86 = .ok (.getfield 131, 3) := by decide +kernel
theorem dX7_typesHold_89 : decode cX7_typesHold 89 = .ok (.iadd, 1) := by decide +kernel

theorem dX14_edges_88 : decode cX14_edges 88 = .ok (.iaload, 1) := by decide +kernel
theorem dX14_edges_89 : decode cX14_edges 89 = .ok (.invokevirtual 1100, 3) := by decide +kernel
theorem dX14_edges_92 : decode cX14_edges 92 = .ok (.iinc 3 1, 3) := by decide +kernel
theorem dX14_edges_95 : decode cX14_edges 95 = .ok (.goto (-28), 3) := by decide +kernel
theorem dX14_edges_98 : decode cX14_edges 98 = .ok (.iconst 0, 1) := by decide +kernel
theorem dX14_edges_99 : decode cX14_edges 99 = .ok (.istore_n 3, 1) := by decide +kernel
theorem dX14_edges_100 : decode cX14_edges 100 = .ok (.iload_n 3, 1) := by decide +kernel
theorem dX14_edges_101 : decode cX14_edges 101 = .ok (.aload_n 0, 1) := by decide +kernel
theorem dX14_edges_102 : decode cX14_edges 102 = .ok (.getfield 679, 3) := by decide +kernel
theorem dX14_edges_105 : decode cX14_edges 105 = .ok (.if_icmp .ge 34, 3) := by decide +kernel
theorem dX14_edges_108 : decode cX14_edges 108 = .ok (.aload_n 0, 1) := by decide +kernel
theorem dX14_edges_109 : decode cX14_edges 109 = .ok (.iload_n 2, 1) := by decide +kernel
theorem dX14_edges_110 : decode cX14_edges 110 = .ok (.iload_n 3, 1) := by decide +kernel
theorem dX14_edges_111 : decode cX14_edges 111 = .ok (.invokevirtual 744, 3) := by decide +kernel
theorem dX14_edges_114 : decode cX14_edges 114 = .ok (.ifCond .eq 19, 3) := by decide +kernel
theorem dX14_edges_117 : decode cX14_edges 117 = .ok (.aload_n 0, 1) := by decide +kernel
theorem dX14_edges_118 : decode cX14_edges 118 = .ok (.iload_n 1, 1) := by decide +kernel
theorem dX14_edges_119 : decode cX14_edges 119 = .ok (.aload_n 0, 1) := by decide +kernel
theorem dX14_edges_120 : decode cX14_edges 120 = .ok (.getfield 188, 3) := by decide +kernel
theorem dX14_edges_123 : decode cX14_edges 123 = .ok (.aload_n 0, 1) := by decide +kernel
theorem dX14_edges_124 : decode cX14_edges 124 = .ok (.iload_n 3, 1) := by decide +kernel
theorem dX14_edges_125 : decode cX14_edges 125 = .ok (.iconst 2, 1) := by decide +kernel
theorem dX14_edges_126 : decode cX14_edges 126 = .ok (.invokevirtual 682, 3) := by decide +kernel
theorem dX14_edges_129 : decode cX14_edges 129 = .ok (.iaload, 1) := by decide +kernel
theorem dX14_edges_130 : decode cX14_edges 130 = .ok (.invokevirtual 1100, 3) := by decide +kernel
theorem dX14_edges_133 : decode cX14_edges 133 = .ok (.iinc 3 1, 3) := by decide +kernel
theorem dX14_edges_136 : decode cX14_edges 136 = .ok (.goto (-36), 3) := by decide +kernel
theorem dX14_edges_139 : decode cX14_edges 139 = .ok (.iinc 1 1, 3) := by decide +kernel
theorem dX14_edges_142 : decode cX14_edges 142 = .ok (.goto (-135), 3) := by decide +kernel
theorem dX14_edges_145 : decode cX14_edges 145 = .ok (.aload_n 0, 1) := by decide +kernel
theorem dX14_edges_146 : decode cX14_edges 146 = .ok (.getfield 194, 3) := by decide +kernel
theorem dX14_edges_149 : decode cX14_edges 149 = .ok (.aload_n 0, 1) := by decide +kernel
theorem dX14_edges_150 : decode cX14_edges 150 = .ok (.getfield 1088, 3) := by decide +kernel
theorem dX14_edges_153 : decode cX14_edges 153 = .ok (.aload_n 0, 1) := by decide +kernel
theorem dX14_edges_154 : decode cX14_edges 154 = .ok (.getfield 1097, 3) := by decide +kernel
theorem dX14_edges_157 : decode cX14_edges 157 = .ok (.iastore, 1) := by decide +kernel
theorem dX14_edges_158 : decode cX14_edges 158 = .ok (.return_, 1) := by decide +kernel
theorem dX14_element_0 : decode cX14_element 0 = .ok (.iload_n 1, 1) := by decide +kernel
theorem dX14_element_1 : decode cX14_element 1 = .ok (.iconst 1, 1) := by decide +kernel
theorem dX14_element_2 : decode cX14_element 2 = .ok (.if_icmp .lt 41, 3) := by decide +kernel
theorem dX14_element_5 : decode cX14_element 5 = .ok (.iload_n 1, 1) := by decide +kernel
theorem dX14_element_6 : decode cX14_element 6 = .ok (.aload_n 0, 1) := by decide +kernel
theorem dX14_element_7 : decode cX14_element 7 = .ok (.getfield 964, 3) := by decide +kernel
theorem dX14_element_10 : decode cX14_element 10 = .ok (.if_icmp .gt 33, 3) := by decide +kernel
theorem dX14_element_13 : decode cX14_element 13 = .ok (.iload_n 2, 1) := by decide +kernel
theorem dX14_element_14 : decode cX14_element 14 = .ok (.ifCond .lt 29, 3) := by decide +kernel
theorem dX14_element_17 : decode cX14_element 17 = .ok (.iload_n 2, 1) := by decide +kernel
theorem dX14_element_18 : decode cX14_element 18 = .ok (.aload_n 0, 1) := by decide +kernel
theorem dX14_element_19 : decode cX14_element 19 = .ok (.getfield 155, 3) := by decide +kernel
theorem dX14_element_22 : decode cX14_element 22 = .ok (.iload_n 1, 1) := by decide +kernel
theorem dX14_element_23 : decode cX14_element 23 = .ok (.iaload, 1) := by decide +kernel
theorem dX14_element_24 : decode cX14_element 24 = .ok (.if_icmp .ge 19, 3) := by decide +kernel
theorem dX14_element_27 : decode cX14_element 27 = .ok (.aload_n 0, 1) := by decide +kernel
theorem dX14_element_28 : decode cX14_element 28 = .ok (.getfield 149, 3) := by decide +kernel
theorem dX14_element_31 : decode cX14_element 31 = .ok (.aload_n 0, 1) := by decide +kernel
theorem dX14_element_32 : decode cX14_element 32 = .ok (.getfield 152, 3) := by decide +kernel
theorem dX14_element_35 : decode cX14_element 35 = .ok (.iload_n 1, 1) := by decide +kernel
theorem dX14_element_36 : decode cX14_element 36 = .ok (.iaload, 1) := by decide +kernel
theorem dX14_element_37 : decode cX14_element 37 = .ok (.iload_n 2, 1) := by decide +kernel
theorem dX14_element_38 : decode cX14_element 38 = .ok (.iadd, 1) := by decide +kernel
theorem dX14_element_39 : decode cX14_element 39 = .ok (.iaload, 1) := by decide +kernel
theorem dX14_element_40 : decode cX14_element 40 = .ok (.goto 4, 3) := by decide +kernel
theorem dX14_element_43 : decode cX14_element 43 = .ok (.iconst 0, 1) := by decide +kernel
theorem dX14_element_44 : decode cX14_element 44 = .ok (.ireturn, 1) := by decide +kernel
theorem dX14_end_0 : decode cX14_end 0 = .ok (.iload_n 1, 1) := by decide +kernel
theorem dX14_end_1 : decode cX14_end 1 = .ok (.ifCond .lt 11, 3) := by decide +kernel
theorem dX14_end_4 : decode cX14_end 4 = .ok (.iload_n 1, 1) := by decide +kernel
theorem dX14_end_5 : decode cX14_end 5 = .ok (.aload_n 0, 1) := by decide +kernel
theorem dX14_end_6 : decode cX14_end 6 = .ok (.getfield 285, 3) := by decide +kernel
theorem dX14_end_9 : decode cX14_end 9 = .ok (.if_icmp .le 5, 3) := by decide +kernel
theorem dX14_end_12 : decode cX14_end 12 = .ok (.iconst 0, 1) := by decide +kernel
theorem dX14_end_13 : decode cX14_end 13 = .ok (.ireturn, 1) := by decide +kernel
theorem dX14_end_14 : decode cX14_end 14 = .ok (.aload_n 0, 1) := by decide +kernel
theorem dX14_end_15 : decode cX14_end 15 = .ok (.iload_n 1, 1) := by decide +kernel
theorem dX14_end_16 : decode cX14_end 16 = .ok (.putfield 285, 3) := by decide +kernel
theorem dX14_end_19 : decode cX14_end 19 = .ok (.iconst 1, 1) := by decide +kernel
theorem dX14_end_20 : decode cX14_end 20 = .ok (.ireturn, 1) := by decide +kernel
theorem dX14_enter_0 : decode cX14_enter 0 = .ok (.aload_n 0, 1) := by decide +kernel
theorem dX14_enter_1 : decode cX14_enter 1 = .ok (.getfield 161, 3) := by decide +kernel
theorem dX14_enter_4 : decode cX14_enter 4 = .ok (.aload_n 0, 1) := by decide +kernel
theorem dX14_enter_5 : decode cX14_enter 5 = .ok (.getfield 974, 3) := by decide +kernel
theorem dX14_enter_8 : decode cX14_enter 8 = .ok (.iload_n 1, 1) := by decide +kernel
theorem dX14_enter_9 : decode cX14_enter 9 = .ok (.iastore, 1) := by decide +kernel
theorem dX14_enter_10 : decode cX14_enter 10 = .ok (.aload_n 0, 1) := by decide +kernel
theorem dX14_enter_11 : decode cX14_enter 11 = .ok (.getfield 164, 3) := by decide +kernel
theorem dX14_enter_14 : decode cX14_enter 14 = .ok (.aload_n 0, 1) := by decide +kernel
theorem dX14_enter_15 : decode cX14_enter 15 = .ok (.getfield 974, 3) := by decide +kernel
theorem dX14_enter_18 : decode cX14_enter 18 = .ok (.iconst 0, 1) := by decide +kernel
theorem dX14_enter_19 : decode cX14_enter 19 = .ok (.iastore, 1) := by decide +kernel
theorem dX14_enter_20 : decode cX14_enter 20 = .ok (.aload_n 0, 1) := by decide +kernel
theorem dX14_enter_21 : decode cX14_enter 21 = .ok (.getfield 167, 3) := by decide +kernel
theorem dX14_enter_24 : decode cX14_enter 24 = .ok (.aload_n 0, 1) := by decide +kernel
theorem dX14_enter_25 : decode cX14_enter 25 = .ok (.getfield 974, 3) := by decide +kernel
theorem dX14_enter_28 : decode cX14_enter 28 = .ok (.iconst 0, 1) := by decide +kernel
theorem dX14_enter_29 : decode cX14_enter 29 = .ok (.iastore, 1) := by decide +kernel
theorem dX14_enter_30 : decode cX14_enter 30 = .ok (.iconst 0, 1) := by decide +kernel
theorem dX14_enter_31 : decode cX14_enter 31 = .ok (.istore_n 2, 1) := by decide +kernel
theorem dX14_enter_32 : decode cX14_enter 32 = .ok (.iload_n 2, 1) := by decide +kernel
theorem dX14_enter_33 : decode cX14_enter 33 = .ok (.bipush 24, 2) := by decide +kernel
theorem dX14_enter_35 : decode cX14_enter 35 = .ok (.if_icmp .ge 39, 3) := by decide +kernel
theorem dX14_enter_38 : decode cX14_enter 38 = .ok (.aload_n 0, 1) := by decide +kernel
theorem dX14_enter_39 : decode cX14_enter 39 = .ok (.getfield 170, 3) := by decide +kernel
theorem dX14_enter_42 : decode cX14_enter 42 = .ok (.bipush 24, 2) := by decide +kernel
theorem dX14_enter_44 : decode cX14_enter 44 = .ok (.aload_n 0, 1) := by decide +kernel
theorem dX14_enter_45 : decode cX14_enter 45 = .ok (.getfield 974, 3) := by decide +kernel
theorem dX14_enter_48 : decode cX14_enter 48 = .ok (.imul, 1) := by decide +kernel
theorem dX14_enter_49 : decode cX14_enter 49 = .ok (.iload_n 2, 1) := by decide +kernel
theorem dX14_enter_50 : decode cX14_enter 50 = .ok (.iadd, 1) := by decide +kernel
theorem dX14_enter_51 : decode cX14_enter 51 = .ok (.lconst 0, 1) := by decide +kernel
theorem dX14_enter_52 : decode cX14_enter 52 = .ok (.lastore, 1) := by decide +kernel
theorem dX14_enter_53 : decode cX14_enter 53 = .ok (.aload_n 0, 1) := by decide +kernel
theorem dX14_enter_54 : decode cX14_enter 54 = .ok (.getfield 176, 3) := by decide +kernel
theorem dX14_enter_57 : decode cX14_enter 57 = .ok (.bipush 24, 2) := by decide +kernel
theorem dX14_enter_59 : decode cX14_enter 59 = .ok (.aload_n 0, 1) := by decide +kernel
theorem dX14_enter_60 : decode cX14_enter 60 = .ok (.getfield 974, 3) := by decide +kernel
theorem dX14_enter_63 : decode cX14_enter 63 = .ok (.imul, 1) := by decide +kernel
theorem dX14_enter_64 : decode cX14_enter 64 = .ok (.iload_n 2, 1) := by decide +kernel
theorem dX14_enter_65 : decode cX14_enter 65 = .ok (.iadd, 1) := by decide +kernel
theorem dX14_enter_66 : decode cX14_enter 66 = .ok (.iconst 0, 1) := by decide +kernel
theorem dX14_enter_67 : decode cX14_enter 67 = .ok (.bastore, 1) := by decide +kernel
theorem dX14_enter_68 : decode cX14_enter 68 = .ok (.iinc 2 1, 3) := by decide +kernel
theorem dX14_enter_71 : decode cX14_enter 71 = .ok (.goto (-39), 3) := by decide +kernel
theorem dX14_enter_74 : decode cX14_enter 74 = .ok (.aload_n 0, 1) := by decide +kernel
theorem dX14_enter_75 : decode cX14_enter 75 = .ok (.dup, 1) := by decide +kernel
theorem dX14_enter_76 : decode cX14_enter 76 = .ok (.getfield 974, 3) := by decide +kernel
theorem dX14_enter_79 : decode cX14_enter 79 = .ok (.iconst 1, 1) := by decide +kernel
theorem dX14_enter_80 : decode cX14_enter 80 = .ok (.iadd, 1) := by decide +kernel
theorem dX14_enter_81 : decode cX14_enter 81 = .ok (.putfield 974, 3) := by decide +kernel
theorem dX14_enter_84 : decode cX14_enter 84 = .ok (.return_, 1) := by decide +kernel
theorem dX14_entries_0 : decode cX14_entries 0 = .ok (.iconst 1, 1) := by decide +kernel
theorem dX14_entries_1 : decode cX14_entries 1 = .ok (.istore_n 1, 1) := by decide +kernel
theorem dX14_entries_2 : decode cX14_entries 2 = .ok (.iload_n 1, 1) := by decide +kernel
theorem dX14_entries_3 : decode cX14_entries 3 = .ok (.aload_n 0, 1) := by decide +kernel
theorem dX14_entries_4 : decode cX14_entries 4 = .ok (.getfield 338, 3) := by decide +kernel
theorem dX14_entries_7 : decode cX14_entries 7 = .ok (.if_icmp .ge 144, 3) := by decide +kernel
theorem dX14_entries_10 : decode cX14_entries 10 = .ok (.aload_n 0, 1) := by decide +kernel
theorem dX14_entries_11 : decode cX14_entries 11 = .ok (.getfield 37, 3) := by decide +kernel
theorem dX14_entries_14 : decode cX14_entries 14 = .ok (.iload_n 1, 1) := by decide +kernel
theorem dX14_entries_15 : decode cX14_entries 15 = .ok (.iaload, 1) := by decide +kernel
theorem dX14_entries_16 : decode cX14_entries 16 = .ok (.istore_n 2, 1) := by decide +kernel
theorem dX14_entries_17 : decode cX14_entries 17 = .ok (.aload_n 0, 1) := by decide +kernel
theorem dX14_entries_18 : decode cX14_entries 18 = .ok (.getfield 40, 3) := by decide +kernel
theorem dX14_entries_21 : decode cX14_entries 21 = .ok (.iload_n 1, 1) := by decide +kernel
theorem dX14_entries_22 : decode cX14_entries 22 = .ok (.iaload, 1) := by decide +kernel
theorem dX14_entries_23 : decode cX14_entries 23 = .ok (.istore_n 3, 1) := by decide +kernel
theorem dX14_entries_24 : decode cX14_entries 24 = .ok (.iconst 1, 1) := by decide +kernel
theorem dX14_entries_25 : decode cX14_entries 25 = .ok (.istore 4, 2) := by decide +kernel
theorem dX14_entries_27 : decode cX14_entries 27 = .ok (.aload_n 0, 1) := by decide +kernel
theorem dX14_entries_28 : decode cX14_entries 28 = .ok (.getfield 30, 3) := by decide +kernel
theorem dX14_entries_31 : decode cX14_entries 31 = .ok (.iload_n 1, 1) := by decide +kernel
theorem dX14_entries_32 : decode cX14_entries 32 = .ok (.iaload, 1) := by decide +kernel
theorem dX14_entries_33 : decode cX14_entries 33 = .ok (.bipush 7, 2) := by decide +kernel
theorem dX14_entries_35 : decode cX14_entries 35 = .ok (.if_icmp .ne 11, 3) := by decide +kernel
theorem dX14_entries_38 : decode cX14_entries 38 = .ok (.aload_n 0, 1) := by decide +kernel
theorem dX14_entries_39 : decode cX14_entries 39 = .ok (.iload_n 2, 1) := by decide +kernel
theorem dX14_entries_40 : decode cX14_entries 40 = .ok (.iconst 1, 1) := by decide +kernel
theorem dX14_entries_41 : decode cX14_entries 41 = .ok (.invokevirtual 380, 3) := by decide +kernel
theorem dX14_entries_44 : decode cX14_entries 44 = .ok (.istore 4, 2) := by decide +kernel
theorem dX14_entries_46 : decode cX14_entries 46 = .ok (.aload_n 0, 1) := by decide +kernel
theorem dX14_entries_47 : decode cX14_entries 47 = .ok (.getfield 30, 3) := by decide +kernel
theorem dX14_entries_50 : decode cX14_entries 50 = .ok (.iload_n 1, 1) := by decide +kernel
theorem dX14_entries_51 : decode cX14_entries 51 = .ok (.iaload, 1) := by decide +kernel
theorem dX14_entries_52 : decode cX14_entries 52 = .ok (.bipush 12, 2) := by decide +kernel
theorem dX14_entries_54 : decode cX14_entries 54 = .ok (.if_icmp .ne 28, 3) := by decide +kernel
theorem dX14_entries_57 : decode cX14_entries 57 = .ok (.aload_n 0, 1) := by decide +kernel
theorem dX14_entries_58 : decode cX14_entries 58 = .ok (.iload_n 2, 1) := by decide +kernel
theorem dX14_entries_59 : decode cX14_entries 59 = .ok (.iconst 1, 1) := by decide +kernel
theorem dX14_entries_60 : decode cX14_entries 60 = .ok (.invokevirtual 380, 3) := by decide +kernel
theorem dX14_entries_63 : decode cX14_entries 63 = .ok (.ifCond .eq 16, 3) := by decide +kernel
theorem dX14_entries_66 : decode cX14_entries 66 = .ok (.aload_n 0, 1) := by decide +kernel
theorem dX14_entries_67 : decode cX14_entries 67 = .ok (.iload_n 3, 1) := by decide +kernel
theorem dX14_entries_68 : decode cX14_entries 68 = .ok (.iconst 1, 1) := by decide +kernel
theorem dX14_entries_69 : decode cX14_entries 69 = .ok (.invokevirtual 380, 3) := by decide +kernel
theorem dX14_entries_72 : decode cX14_entries 72 = .ok (.ifCond .eq 7, 3) := by decide +kernel
theorem dX14_entries_75 : decode cX14_entries 75 = .ok (.iconst 1, 1) := by decide +kernel
theorem dX14_entries_76 : decode cX14_entries 76 = .ok (.goto 4, 3) := by decide +kernel
theorem dX14_entries_79 : decode cX14_entries 79 = .ok (.iconst 0, 1) := by decide +kernel
theorem dX14_entries_80 : decode cX14_entries 80 = .ok (.istore 4, 2) := by decide +kernel
theorem dX14_entries_82 : decode cX14_entries 82 = .ok (.aload_n 0, 1) := by decide +kernel
theorem dX14_entries_83 : decode cX14_entries 83 = .ok (.getfield 30, 3) := by decide +kernel
theorem dX14_entries_86 : decode cX14_entries 86 = .ok (.iload_n 1, 1) := by decide +kernel
theorem dX14_entries_87 : decode cX14_entries 87 = .ok (.iaload, 1) := by decide +kernel
theorem dX14_entries_88 : decode cX14_entries 88 = .ok (.bipush 9, 2) := by decide +kernel
theorem dX14_entries_90 : decode cX14_entries 90 = .ok (.if_icmp .eq 14, 3) := by decide +kernel
theorem dX14_entries_93 : decode cX14_entries 93 = .ok (.aload_n 0, 1) := by decide +kernel
theorem dX14_entries_94 : decode cX14_entries 94 = .ok (.getfield 30, 3) := by decide +kernel
theorem dX14_entries_97 : decode cX14_entries 97 = .ok (.iload_n 1, 1) := by decide +kernel
theorem dX14_entries_98 : decode cX14_entries 98 = .ok (.iaload, 1) := by decide +kernel
theorem dX14_entries_99 : decode cX14_entries 99 = .ok (.bipush 10, 2) := by decide +kernel
theorem dX14_entries_101 : decode cX14_entries 101 = .ok (.if_icmp .ne 30, 3) := by decide +kernel
theorem dX14_entries_104 : decode cX14_entries 104 = .ok (.aload_n 0, 1) := by decide +kernel
theorem dX14_entries_105 : decode cX14_entries 105 = .ok (.iload_n 2, 1) := by decide +kernel
theorem dX14_entries_106 : decode cX14_entries 106 = .ok (.bipush 7, 2) := by decide +kernel
theorem dX14_entries_108 : decode cX14_entries 108 = .ok (.invokevirtual 380, 3) := by decide +kernel
theorem dX14_entries_111 : decode cX14_entries 111 = .ok (.ifCond .eq 17, 3) := by decide +kernel
theorem dX14_entries_114 : decode cX14_entries 114 = .ok (.aload_n 0, 1) := by decide +kernel
theorem dX14_entries_115 : decode cX14_entries 115 = .ok (.iload_n 3, 1) := by decide +kernel
theorem dX14_entries_116 : decode cX14_entries 116 = .ok (.bipush 12, 2) := by decide +kernel
theorem dX14_entries_118 : decode cX14_entries 118 = .ok (.invokevirtual 380, 3) := by decide +kernel
theorem dX14_entries_121 : decode cX14_entries 121 = .ok (.ifCond .eq 7, 3) := by decide +kernel
theorem dX14_entries_124 : decode cX14_entries 124 = .ok (.iconst 1, 1) := by decide +kernel
theorem dX14_entries_125 : decode cX14_entries 125 = .ok (.goto 4, 3) := by decide +kernel
theorem dX14_entries_128 : decode cX14_entries 128 = .ok (.iconst 0, 1) := by decide +kernel
theorem dX14_entries_129 : decode cX14_entries 129 = .ok (.istore 4, 2) := by decide +kernel
theorem dX14_entries_131 : decode cX14_entries 131 = .ok (.aload_n 0, 1) := by decide +kernel
theorem dX14_entries_132 : decode cX14_entries 132 = .ok (.iload 4, 2) := by decide +kernel
theorem dX14_entries_134 : decode cX14_entries 134 = .ok (.bipush 6, 2) := by decide +kernel
theorem dX14_entries_136 : decode cX14_entries 136 = .ok (.aload_n 0, 1) := by decide +kernel
theorem dX14_entries_137 : decode cX14_entries 137 = .ok (.getfield 34, 3) := by decide +kernel
theorem dX14_entries_140 : decode cX14_entries 140 = .ok (.iload_n 1, 1) := by decide +kernel
theorem dX14_entries_141 : decode cX14_entries 141 = .ok (.iaload, 1) := by decide +kernel
theorem dX14_entries_142 : decode cX14_entries 142 = .ok (.invokevirtual 325, 3) := by decide +kernel
theorem dX14_entries_145 : decode cX14_entries 145 = .ok (.iinc 1 1, 3) := by decide +kernel
theorem dX14_entries_148 : decode cX14_entries 148 = .ok (.goto (-146), 3) := by decide +kernel
theorem dX14_entries_151 : decode cX14_entries 151 = .ok (.return_, 1) := by decide +kernel
theorem dX14_entry_0 : decode cX14_entry 0 = .ok (.aload_n 0, 1) := by decide +kernel
theorem dX14_entry_1 : decode cX14_entry 1 = .ok (.lconst 1, 1) := by decide +kernel
theorem dX14_entry_2 : decode cX14_entry 2 = .ok (.invokevirtual 334, 3) := by decide +kernel
theorem dX14_entry_5 : decode cX14_entry 5 = .ok (.istore_n 2, 1) := by decide +kernel
theorem dX14_entry_6 : decode cX14_entry 6 = .ok (.aload_n 0, 1) := by decide +kernel
theorem dX14_entry_7 : decode cX14_entry 7 = .ok (.getfield 34, 3) := by decide +kernel
theorem dX14_entry_10 : decode cX14_entry 10 = .ok (.iload_n 1, 1) := by decide +kernel
theorem dX14_entry_11 : decode cX14_entry 11 = .ok (.iload_n 2, 1) := by decide +kernel
theorem dX14_entry_12 : decode cX14_entry 12 = .ok (.iastore, 1) := by decide +kernel
theorem dX14_entry_13 : decode cX14_entry 13 = .ok (.aload_n 0, 1) := by decide +kernel
theorem dX14_entry_14 : decode cX14_entry 14 = .ok (.iload_n 2, 1) := by decide +kernel
theorem dX14_entry_15 : decode cX14_entry 15 = .ok (.invokevirtual 312, 3) := by decide +kernel
theorem dX14_entry_18 : decode cX14_entry 18 = .ok (.istore_n 3, 1) := by decide +kernel
theorem dX14_entry_19 : decode cX14_entry 19 = .ok (.iload_n 3, 1) := by decide +kernel
theorem dX14_entry_20 : decode cX14_entry 20 = .ok (.tableswitch 193 1 12 #[64, 193, 73, 193, 94, 193, 136, 193, 156, 156, 193, 156], 64) := by decide +kernel
theorem dX14_entry_84 : decode cX14_entry 84 = .ok (.aload_n 0, 1) := by decide +kernel
theorem dX14_entry_85 : decode cX14_entry 85 = .ok (.iload_n 1, 1) := by decide +kernel
theorem dX14_entry_86 : decode cX14_entry 86 = .ok (.iload_n 2, 1) := by decide +kernel
theorem dX14_entry_87 : decode cX14_entry 87 = .ok (.invokevirtual 367, 3) := by decide +kernel
theorem dX14_entry_90 : decode cX14_entry 90 = .ok (.goto 130, 3) := by decide +kernel
theorem dX14_entry_93 : decode cX14_entry 93 = .ok (.aload_n 0, 1) := by decide +kernel
theorem dX14_entry_94 : decode cX14_entry 94 = .ok (.getfield 43, 3) := by decide +kernel
theorem dX14_entry_97 : decode cX14_entry 97 = .ok (.iload_n 1, 1) := by decide +kernel
theorem dX14_entry_98 : decode cX14_entry 98 = .ok (.aload_n 0, 1) := by decide +kernel
theorem dX14_entry_99 : decode cX14_entry 99 = .ok (.aload_n 0, 1) := by decide +kernel
theorem dX14_entry_100 : decode cX14_entry 100 = .ok (.ldc2_w 371, 3) := by decide +kernel
theorem dX14_entry_103 : decode cX14_entry 103 = .ok (.invokevirtual 334, 3) := by decide +kernel
theorem dX14_entry_106 : decode cX14_entry 106 = .ok (.invokevirtual 373, 3) := by decide +kernel
theorem dX14_entry_109 : decode cX14_entry 109 = .ok (.i2l, 1) := by decide +kernel
theorem dX14_entry_110 : decode cX14_entry 110 = .ok (.lastore, 1) := by decide +kernel
theorem dX14_entry_111 : decode cX14_entry 111 = .ok (.goto 109, 3) := by decide +kernel
theorem dX14_entry_114 : decode cX14_entry 114 = .ok (.aload_n 0, 1) := by decide +kernel
theorem dX14_entry_115 : decode cX14_entry 115 = .ok (.ldc2_w 376, 3) := by decide +kernel
theorem dX14_entry_118 : decode cX14_entry 118 = .ok (.invokevirtual 334, 3) := by decide +kernel
theorem dX14_entry_121 : decode cX14_entry 121 = .ok (.istore 4, 2) := by decide +kernel
theorem dX14_entry_123 : decode cX14_entry 123 = .ok (.aload_n 0, 1) := by decide +kernel
theorem dX14_entry_124 : decode cX14_entry 124 = .ok (.getfield 43, 3) := by decide +kernel
theorem dX14_entry_127 : decode cX14_entry 127 = .ok (.iload_n 1, 1) := by decide +kernel
theorem dX14_entry_128 : decode cX14_entry 128 = .ok (.aload_n 0, 1) := by decide +kernel
theorem dX14_entry_129 : decode cX14_entry 129 = .ok (.iload 4, 2) := by decide +kernel
theorem dX14_entry_131 : decode cX14_entry 131 = .ok (.invokevirtual 373, 3) := by decide +kernel
theorem dX14_entry_134 : decode cX14_entry 134 = .ok (.i2l, 1) := by decide +kernel
theorem dX14_entry_135 : decode cX14_entry 135 = .ok (.bipush 32, 2) := by decide +kernel
theorem dX14_entry_137 : decode cX14_entry 137 = .ok (.lshl, 1) := by decide +kernel
theorem dX14_entry_138 : decode cX14_entry 138 = .ok (.aload_n 0, 1) := by decide +kernel
theorem dX14_entry_139 : decode cX14_entry 139 = .ok (.iload 4, 2) := by decide +kernel
theorem dX14_entry_141 : decode cX14_entry 141 = .ok (.iconst 4, 1) := by decide +kernel
theorem dX14_entry_142 : decode cX14_entry 142 = .ok (.iadd, 1) := by decide +kernel
theorem dX14_entry_143 : decode cX14_entry 143 = .ok (.invokevirtual 373, 3) := by decide +kernel
theorem dX14_entry_146 : decode cX14_entry 146 = .ok (.i2l, 1) := by decide +kernel
theorem dX14_entry_147 : decode cX14_entry 147 = .ok (.ldc2_w 378, 3) := by decide +kernel
theorem dX14_entry_150 : decode cX14_entry 150 = .ok (.land, 1) := by decide +kernel
theorem dX14_entry_151 : decode cX14_entry 151 = .ok (.lor, 1) := by decide +kernel
theorem dX14_entry_152 : decode cX14_entry 152 = .ok (.lastore, 1) := by decide +kernel
theorem dX14_entry_153 : decode cX14_entry 153 = .ok (.goto 67, 3) := by decide +kernel
theorem dX14_entry_156 : decode cX14_entry 156 = .ok (.aload_n 0, 1) := by decide +kernel
theorem dX14_entry_157 : decode cX14_entry 157 = .ok (.getfield 37, 3) := by decide +kernel
theorem dX14_entry_160 : decode cX14_entry 160 = .ok (.iload_n 1, 1) := by decide +kernel
theorem dX14_entry_161 : decode cX14_entry 161 = .ok (.aload_n 0, 1) := by decide +kernel
theorem dX14_entry_162 : decode cX14_entry 162 = .ok (.aload_n 0, 1) := by decide +kernel
theorem dX14_entry_163 : decode cX14_entry 163 = .ok (.ldc2_w 332, 3) := by decide +kernel
theorem dX14_entry_166 : decode cX14_entry 166 = .ok (.invokevirtual 334, 3) := by decide +kernel
theorem dX14_entry_169 : decode cX14_entry 169 = .ok (.invokevirtual 316, 3) := by decide +kernel
theorem dX14_entry_172 : decode cX14_entry 172 = .ok (.iastore, 1) := by decide +kernel
theorem dX14_entry_173 : decode cX14_entry 173 = .ok (.goto 47, 3) := by decide +kernel
theorem dX14_entry_176 : decode cX14_entry 176 = .ok (.aload_n 0, 1) := by decide +kernel
theorem dX14_entry_177 : decode cX14_entry 177 = .ok (.getfield 37, 3) := by decide +kernel
theorem dX14_entry_180 : decode cX14_entry 180 = .ok (.iload_n 1, 1) := by decide +kernel
theorem dX14_entry_181 : decode cX14_entry 181 = .ok (.aload_n 0, 1) := by decide +kernel
theorem dX14_entry_182 : decode cX14_entry 182 = .ok (.aload_n 0, 1) := by decide +kernel
theorem dX14_entry_183 : decode cX14_entry 183 = .ok (.ldc2_w 332, 3) := by decide +kernel
theorem dX14_entry_186 : decode cX14_entry 186 = .ok (.invokevirtual 334, 3) := by decide +kernel
theorem dX14_entry_189 : decode cX14_entry 189 = .ok (.invokevirtual 316, 3) := by decide +kernel
theorem dX14_entry_192 : decode cX14_entry 192 = .ok (.iastore, 1) := by decide +kernel
theorem dX14_entry_193 : decode cX14_entry 193 = .ok (.aload_n 0, 1) := by decide +kernel
theorem dX14_entry_194 : decode cX14_entry 194 = .ok (.getfield 40, 3) := by decide +kernel
theorem dX14_entry_197 : decode cX14_entry 197 = .ok (.iload_n 1, 1) := by decide +kernel
theorem dX14_entry_198 : decode cX14_entry 198 = .ok (.aload_n 0, 1) := by decide +kernel
theorem dX14_entry_199 : decode cX14_entry 199 = .ok (.aload_n 0, 1) := by decide +kernel
theorem dX14_entry_200 : decode cX14_entry 200 = .ok (.ldc2_w 332, 3) := by decide +kernel
theorem dX14_entry_203 : decode cX14_entry 203 = .ok (.invokevirtual 334, 3) := by decide +kernel
theorem dX14_entry_206 : decode cX14_entry 206 = .ok (.invokevirtual 316, 3) := by decide +kernel
theorem dX14_entry_209 : decode cX14_entry 209 = .ok (.iastore, 1) := by decide +kernel
theorem dX14_entry_210 : decode cX14_entry 210 = .ok (.goto 10, 3) := by decide +kernel
theorem dX14_entry_213 : decode cX14_entry 213 = .ok (.aload_n 0, 1) := by decide +kernel
theorem dX14_entry_214 : decode cX14_entry 214 = .ok (.iconst 3, 1) := by decide +kernel
theorem dX14_entry_215 : decode cX14_entry 215 = .ok (.iload_n 2, 1) := by decide +kernel
theorem dX14_entry_216 : decode cX14_entry 216 = .ok (.invokevirtual 302, 3) := by decide +kernel
theorem dX14_entry_219 : decode cX14_entry 219 = .ok (.athrow, 1) := by decide +kernel
theorem dX14_entry_220 : decode cX14_entry 220 = .ok (.aload_n 0, 1) := by decide +kernel
theorem dX14_entry_221 : decode cX14_entry 221 = .ok (.getfield 30, 3) := by decide +kernel
theorem dX14_entry_224 : decode cX14_entry 224 = .ok (.iload_n 1, 1) := by decide +kernel
theorem dX14_entry_225 : decode cX14_entry 225 = .ok (.iload_n 3, 1) := by decide +kernel
theorem dX14_entry_226 : decode cX14_entry 226 = .ok (.iastore, 1) := by decide +kernel
theorem dX14_entry_227 : decode cX14_entry 227 = .ok (.return_, 1) := by decide +kernel
theorem dX14_error_0 : decode cX14_error 0 = .ok (.aload_n 0, 1) := by decide +kernel
theorem dX14_error_1 : decode cX14_error 1 = .ok (.getfield 182, 3) := by decide +kernel
theorem dX14_error_4 : decode cX14_error 4 = .ok (.ireturn, 1) := by decide +kernel
theorem dX14_errorName_0 : decode cX14_errorName 0 = .ok (.iload_n 0, 1) := by decide +kernel
theorem dX14_errorName_1 : decode cX14_errorName 1 = .ok (.ifCond .ne 9, 3) := by decide +kernel
theorem dX14_errorName_4 : decode cX14_errorName 4 = .ok (.ldc_w 532, 3) := by decide +kernel
theorem dX14_errorName_7 : decode cX14_errorName 7 = .ok (.goto 28, 3) := by decide +kernel
theorem dX14_errorName_10 : decode cX14_errorName 10 = .ok (.iload_n 0, 1) := by decide +kernel
theorem dX14_errorName_11 : decode cX14_errorName 11 = .ok (.iconst 1, 1) := by decide +kernel
theorem dX14_errorName_12 : decode cX14_errorName 12 = .ok (.if_icmp .ne 9, 3) := by decide +kernel
theorem dX14_errorName_15 : decode cX14_errorName 15 = .ok (.ldc_w 534, 3) := by decide +kernel
theorem dX14_errorName_18 : decode cX14_errorName 18 = .ok (.goto 17, 3) := by decide +kernel
theorem dX14_errorName_21 : decode cX14_errorName 21 = .ok (.iload_n 0, 1) := by decide +kernel
theorem dX14_errorName_22 : decode cX14_errorName 22 = .ok (.iconst 2, 1) := by decide +kernel
theorem dX14_errorName_23 : decode cX14_errorName 23 = .ok (.if_icmp .ne 9, 3) := by decide +kernel
theorem dX14_errorName_26 : decode cX14_errorName 26 = .ok (.ldc_w 536, 3) := by decide +kernel
theorem dX14_errorName_29 : decode cX14_errorName 29 = .ok (.goto 6, 3) := by decide +kernel
theorem dX14_errorName_32 : decode cX14_errorName 32 = .ok (.ldc_w 538, 3) := by decide +kernel
theorem dX14_errorName_35 : decode cX14_errorName 35 = .ok (.areturn, 1) := by decide +kernel
theorem dX14_feed_0 : decode cX14_feed 0 = .ok (.aload_n 0, 1) := by decide +kernel
theorem dX14_feed_1 : decode cX14_feed 1 = .ok (.getfield 285, 3) := by decide +kernel
theorem dX14_feed_4 : decode cX14_feed 4 = .ok (.bipush 20, 2) := by decide +kernel
theorem dX14_feed_6 : decode cX14_feed 6 = .ok (.iadd, 1) := by decide +kernel
theorem dX14_feed_7 : decode cX14_feed 7 = .ok (.sipush 16000, 3) := by decide +kernel
theorem dX14_feed_10 : decode cX14_feed 10 = .ok (.if_icmp .gt 16, 3) := by decide +kernel
theorem dX14_feed_13 : decode cX14_feed 13 = .ok (.aload_n 0, 1) := by decide +kernel
theorem dX14_feed_14 : decode cX14_feed 14 = .ok (.getfield 288, 3) := by decide +kernel
theorem dX14_feed_17 : decode cX14_feed 17 = .ok (.bipush 20, 2) := by decide +kernel
theorem dX14_feed_19 : decode cX14_feed 19 = .ok (.iadd, 1) := by decide +kernel
theorem dX14_feed_20 : decode cX14_feed 20 = .ok (.ldc_w 291, 3) := by decide +kernel
theorem dX14_feed_23 : decode cX14_feed 23 = .ok (.if_icmp .le 5, 3) := by decide +kernel
theorem dX14_feed_26 : decode cX14_feed 26 = .ok (.iconst (-1), 1) := by decide +kernel
theorem dX14_feed_27 : decode cX14_feed 27 = .ok (.ireturn, 1) := by decide +kernel
theorem dX14_feed_28 : decode cX14_feed 28 = .ok (.aload_n 0, 1) := by decide +kernel
theorem dX14_feed_29 : decode cX14_feed 29 = .ok (.iload_n 1, 1) := by decide +kernel
theorem dX14_feed_30 : decode cX14_feed 30 = .ok (.invokevirtual 292, 3) := by decide +kernel
theorem dX14_feed_33 : decode cX14_feed 33 = .ok (.aload_n 0, 1) := by decide +kernel
theorem dX14_feed_34 : decode cX14_feed 34 = .ok (.iload_n 2, 1) := by decide +kernel
theorem dX14_feed_35 : decode cX14_feed 35 = .ok (.invokevirtual 292, 3) := by decide +kernel
theorem dX14_feed_38 : decode cX14_feed 38 = .ok (.aload_n 0, 1) := by decide +kernel
theorem dX14_feed_39 : decode cX14_feed 39 = .ok (.iload_n 3, 1) := by decide +kernel
theorem dX14_feed_40 : decode cX14_feed 40 = .ok (.invokevirtual 292, 3) := by decide +kernel
theorem dX14_feed_43 : decode cX14_feed 43 = .ok (.aload_n 0, 1) := by decide +kernel
theorem dX14_feed_44 : decode cX14_feed 44 = .ok (.iload 4, 2) := by decide +kernel
theorem dX14_feed_46 : decode cX14_feed 46 = .ok (.invokevirtual 292, 3) := by decide +kernel
theorem dX14_feed_49 : decode cX14_feed 49 = .ok (.aload_n 0, 1) := by decide +kernel
theorem dX14_feed_50 : decode cX14_feed 50 = .ok (.iload 5, 2) := by decide +kernel
theorem dX14_feed_52 : decode cX14_feed 52 = .ok (.invokevirtual 292, 3) := by decide +kernel
theorem dX14_feed_55 : decode cX14_feed 55 = .ok (.aload_n 0, 1) := by decide +kernel
theorem dX14_feed_56 : decode cX14_feed 56 = .ok (.dup, 1) := by decide +kernel
theorem dX14_feed_57 : decode cX14_feed 57 = .ok (.getfield 288, 3) := by decide +kernel
theorem dX14_feed_60 : decode cX14_feed 60 = .ok (.bipush 20, 2) := by decide +kernel
theorem dX14_feed_62 : decode cX14_feed 62 = .ok (.iadd, 1) := by decide +kernel
theorem dX14_feed_63 : decode cX14_feed 63 = .ok (.putfield 288, 3) := by decide +kernel
theorem dX14_feed_66 : decode cX14_feed 66 = .ok (.aload_n 0, 1) := by decide +kernel
theorem dX14_feed_67 : decode cX14_feed 67 = .ok (.getfield 285, 3) := by decide +kernel
theorem dX14_feed_70 : decode cX14_feed 70 = .ok (.ireturn, 1) := by decide +kernel
theorem dX14_field_0 : decode cX14_field 0 = .ok (.aload_n 0, 1) := by decide +kernel
theorem dX14_field_1 : decode cX14_field 1 = .ok (.getfield 961, 3) := by decide +kernel
theorem dX14_field_4 : decode cX14_field 4 = .ok (.ifnull 27, 3) := by decide +kernel
theorem dX14_field_7 : decode cX14_field 7 = .ok (.iload_n 1, 1) := by decide +kernel
theorem dX14_field_8 : decode cX14_field 8 = .ok (.ifCond .lt 23, 3) := by decide +kernel
theorem dX14_field_11 : decode cX14_field 11 = .ok (.iload_n 1, 1) := by decide +kernel
theorem dX14_field_12 : decode cX14_field 12 = .ok (.aload_n 0, 1) := by decide +kernel
theorem dX14_field_13 : decode cX14_field 13 = .ok (.getfield 961, 3) := by decide +kernel
theorem dX14_field_16 : decode cX14_field 16 = .ok (.getfield 594, 3) := by decide +kernel
theorem dX14_field_19 : decode cX14_field 19 = .ok (.if_icmp .ge 12, 3) := by decide +kernel
theorem dX14_field_22 : decode cX14_field 22 = .ok (.aload_n 0, 1) := by decide +kernel
theorem dX14_field_23 : decode cX14_field 23 = .ok (.getfield 146, 3) := by decide +kernel
theorem dX14_field_26 : decode cX14_field 26 = .ok (.iload_n 1, 1) := by decide +kernel
theorem dX14_field_27 : decode cX14_field 27 = .ok (.laload, 1) := by decide +kernel
theorem dX14_field_28 : decode cX14_field 28 = .ok (.goto 4, 3) := by decide +kernel
theorem dX14_field_31 : decode cX14_field 31 = .ok (.lconst 0, 1) := by decide +kernel
theorem dX14_field_32 : decode cX14_field 32 = .ok (.lreturn, 1) := by decide +kernel
theorem dX14_file_0 : decode cX14_file 0 = .ok (.aload_n 0, 1) := by decide +kernel
theorem dX14_file_1 : decode cX14_file 1 = .ok (.getfield 647, 3) := by decide +kernel
theorem dX14_file_4 : decode cX14_file 4 = .ok (.bipush 12, 2) := by decide +kernel
theorem dX14_file_6 : decode cX14_file 6 = .ok (.if_icmp .ne 6, 3) := by decide +kernel
theorem dX14_file_9 : decode cX14_file 9 = .ok (.bipush (-2), 2) := by decide +kernel
theorem dX14_file_11 : decode cX14_file 11 = .ok (.ireturn, 1) := by decide +kernel
theorem dX14_file_12 : decode cX14_file 12 = .ok (.aload_n 0, 1) := by decide +kernel
theorem dX14_file_13 : decode cX14_file 13 = .ok (.getfield 285, 3) := by decide +kernel
theorem dX14_file_16 : decode cX14_file 16 = .ok (.istore_n 1, 1) := by decide +kernel
theorem dX14_file_17 : decode cX14_file 17 = .ok (.aload_n 0, 1) := by decide +kernel
theorem dX14_file_18 : decode cX14_file 18 = .ok (.iconst 0, 1) := by decide +kernel
theorem dX14_file_19 : decode cX14_file 19 = .ok (.putfield 285, 3) := by decide +kernel
theorem dX14_file_22 : decode cX14_file 22 = .ok (.aload_n 0, 1) := by decide +kernel
theorem dX14_file_23 : decode cX14_file 23 = .ok (.iconst 0, 1) := by decide +kernel
theorem dX14_file_24 : decode cX14_file 24 = .ok (.putfield 306, 3) := by decide +kernel
theorem dX14_file_27 : decode cX14_file 27 = .ok (.aload_n 0, 1) := by decide +kernel
theorem dX14_file_28 : decode cX14_file 28 = .ok (.iconst (-1), 1) := by decide +kernel
theorem dX14_file_29 : decode cX14_file 29 = .ok (.putfield 26, 3) := by decide +kernel
theorem dX14_file_32 : decode cX14_file 32 = .ok (.aload_n 0, 1) := by decide +kernel
theorem dX14_file_33 : decode cX14_file 33 = .ok (.aload_n 0, 1) := by decide +kernel
theorem dX14_file_34 : decode cX14_file 34 = .ok (.aload_n 0, 1) := by decide +kernel
theorem dX14_file_35 : decode cX14_file 35 = .ok (.getfield 15, 3) := by decide +kernel
theorem dX14_file_38 : decode cX14_file 38 = .ok (.iload_n 1, 1) := by decide +kernel
theorem dX14_file_39 : decode cX14_file 39 = .ok (.invokevirtual 650, 3) := by decide +kernel
theorem dX14_file_42 : decode cX14_file 42 = .ok (.invokevirtual 654, 3) := by decide +kernel
theorem dX14_file_45 : decode cX14_file 45 = .ok (.ireturn, 1) := by decide +kernel
theorem dX14_file_46 : decode cX14_file 46 = .ok (.astore_n 2, 1) := by decide +kernel
theorem dX14_file_47 : decode cX14_file 47 = .ok (.aload_n 0, 1) := by decide +kernel
theorem dX14_file_48 : decode cX14_file 48 = .ok (.aload_n 0, 1) := by decide +kernel
theorem dX14_file_49 : decode cX14_file 49 = .ok (.getfield 296, 3) := by decide +kernel
theorem dX14_file_52 : decode cX14_file 52 = .ok (.putfield 306, 3) := by decide +kernel
theorem dX14_file_55 : decode cX14_file 55 = .ok (.aload_n 0, 1) := by decide +kernel
theorem dX14_file_56 : decode cX14_file 56 = .ok (.aload_n 0, 1) := by decide +kernel
theorem dX14_file_57 : decode cX14_file 57 = .ok (.getfield 299, 3) := by decide +kernel
theorem dX14_file_60 : decode cX14_file 60 = .ok (.putfield 26, 3) := by decide +kernel
theorem dX14_file_63 : decode cX14_file 63 = .ok (.iconst (-1), 1) := by decide +kernel
theorem dX14_file_64 : decode cX14_file 64 = .ok (.ireturn, 1) := by decide +kernel
theorem dX14_fileAt_0 : decode cX14_fileAt 0 = .ok (.iload_n 1, 1) := by decide +kernel
theorem dX14_fileAt_1 : decode cX14_fileAt 1 = .ok (.ifCond .lt 20, 3) := by decide +kernel
theorem dX14_fileAt_4 : decode cX14_fileAt 4 = .ok (.iload_n 1, 1) := by decide +kernel
theorem dX14_fileAt_5 : decode cX14_fileAt 5 = .ok (.aload_n 0, 1) := by decide +kernel
theorem dX14_fileAt_6 : decode cX14_fileAt 6 = .ok (.getfield 647, 3) := by decide +kernel
theorem dX14_fileAt_9 : decode cX14_fileAt 9 = .ok (.if_icmp .ge 12, 3) := by decide +kernel
theorem dX14_fileAt_12 : decode cX14_fileAt 12 = .ok (.aload_n 0, 1) := by decide +kernel
theorem dX14_fileAt_13 : decode cX14_fileAt 13 = .ok (.getfield 11, 3) := by decide +kernel
theorem dX14_fileAt_16 : decode cX14_fileAt 16 = .ok (.iload_n 1, 1) := by decide +kernel
theorem dX14_fileAt_17 : decode cX14_fileAt 17 = .ok (.aaload, 1) := by decide +kernel
theorem dX14_fileAt_18 : decode cX14_fileAt 18 = .ok (.goto 4, 3) := by decide +kernel
theorem dX14_fileAt_21 : decode cX14_fileAt 21 = .ok (.aconst_null, 1) := by decide +kernel
theorem dX14_fileAt_22 : decode cX14_fileAt 22 = .ok (.areturn, 1) := by decide +kernel
theorem dX14_findHeights_0 : decode cX14_findHeights 0 = .ok (.aload_n 0, 1) := by decide +kernel
theorem dX14_findHeights_1 : decode cX14_findHeights 1 = .ok (.iload_n 1, 1) := by decide +kernel
theorem dX14_findHeights_2 : decode cX14_findHeights 2 = .ok (.putfield 750, 3) := by decide +kernel
theorem dX14_findHeights_5 : decode cX14_findHeights 5 = .ok (.iconst 0, 1) := by decide +kernel
theorem dX14_findHeights_6 : decode cX14_findHeights 6 = .ok (.istore_n 2, 1) := by decide +kernel
theorem dX14_findHeights_7 : decode cX14_findHeights 7 = .ok (.iload_n 2, 1) := by decide +kernel
theorem dX14_findHeights_8 : decode cX14_findHeights 8 = .ok (.aload_n 0, 1) := by decide +kernel
theorem dX14_findHeights_9 : decode cX14_findHeights 9 = .ok (.getfield 673, 3) := by decide +kernel
theorem dX14_findHeights_12 : decode cX14_findHeights 12 = .ok (.if_icmp .ge 16, 3) := by decide +kernel
theorem dX14_findHeights_15 : decode cX14_findHeights 15 = .ok (.aload_n 0, 1) := by decide +kernel
theorem dX14_findHeights_16 : decode cX14_findHeights 16 = .ok (.getfield 88, 3) := by decide +kernel
theorem dX14_findHeights_19 : decode cX14_findHeights 19 = .ok (.iload_n 2, 1) := by decide +kernel
theorem dX14_findHeights_20 : decode cX14_findHeights 20 = .ok (.iconst 0, 1) := by decide +kernel
theorem dX14_findHeights_21 : decode cX14_findHeights 21 = .ok (.iastore, 1) := by decide +kernel
theorem dX14_findHeights_22 : decode cX14_findHeights 22 = .ok (.iinc 2 1, 3) := by decide +kernel
theorem dX14_findHeights_25 : decode cX14_findHeights 25 = .ok (.goto (-18), 3) := by decide +kernel
theorem dX14_findHeights_28 : decode cX14_findHeights 28 = .ok (.aload_n 0, 1) := by decide +kernel
theorem dX14_findHeights_29 : decode cX14_findHeights 29 = .ok (.getfield 88, 3) := by decide +kernel
theorem dX14_findHeights_32 : decode cX14_findHeights 32 = .ok (.iconst 0, 1) := by decide +kernel
theorem dX14_findHeights_33 : decode cX14_findHeights 33 = .ok (.iconst 1, 1) := by decide +kernel
theorem dX14_findHeights_34 : decode cX14_findHeights 34 = .ok (.iastore, 1) := by decide +kernel
theorem dX14_findHeights_35 : decode cX14_findHeights 35 = .ok (.aload_n 0, 1) := by decide +kernel
theorem dX14_findHeights_36 : decode cX14_findHeights 36 = .ok (.iconst 1, 1) := by decide +kernel
theorem dX14_findHeights_37 : decode cX14_findHeights 37 = .ok (.putfield 740, 3) := by decide +kernel
theorem dX14_findHeights_40 : decode cX14_findHeights 40 = .ok (.aload_n 0, 1) := by decide +kernel
theorem dX14_findHeights_41 : decode cX14_findHeights 41 = .ok (.getfield 740, 3) := by decide +kernel
theorem dX14_findHeights_44 : decode cX14_findHeights 44 = .ok (.ifCond .eq 69, 3) := by decide +kernel
theorem dX14_findHeights_47 : decode cX14_findHeights 47 = .ok (.aload_n 0, 1) := by decide +kernel
theorem dX14_findHeights_48 : decode cX14_findHeights 48 = .ok (.iconst 0, 1) := by decide +kernel
theorem dX14_findHeights_49 : decode cX14_findHeights 49 = .ok (.putfield 740, 3) := by decide +kernel
theorem dX14_findHeights_52 : decode cX14_findHeights 52 = .ok (.iconst 0, 1) := by decide +kernel
theorem dX14_findHeights_53 : decode cX14_findHeights 53 = .ok (.istore_n 2, 1) := by decide +kernel
theorem dX14_findHeights_54 : decode cX14_findHeights 54 = .ok (.iload_n 2, 1) := by decide +kernel
theorem dX14_findHeights_55 : decode cX14_findHeights 55 = .ok (.aload_n 0, 1) := by decide +kernel
theorem dX14_findHeights_56 : decode cX14_findHeights 56 = .ok (.getfield 673, 3) := by decide +kernel
theorem dX14_findHeights_59 : decode cX14_findHeights 59 = .ok (.if_icmp .ge 51, 3) := by decide +kernel
theorem dX14_findHeights_62 : decode cX14_findHeights 62 = .ok (.iconst 0, 1) := by decide +kernel
theorem dX14_findHeights_63 : decode cX14_findHeights 63 = .ok (.istore_n 3, 1) := by decide +kernel
theorem dX14_findHeights_64 : decode cX14_findHeights 64 = .ok (.iload_n 3, 1) := by decide +kernel
theorem dX14_findHeights_65 : decode cX14_findHeights 65 = .ok (.iload_n 1, 1) := by decide +kernel
theorem dX14_findHeights_66 : decode cX14_findHeights 66 = .ok (.if_icmp .gt 38, 3) := by decide +kernel
theorem dX14_findHeights_69 : decode cX14_findHeights 69 = .ok (.aload_n 0, 1) := by decide +kernel
theorem dX14_findHeights_70 : decode cX14_findHeights 70 = .ok (.getfield 88, 3) := by decide +kernel
theorem dX14_findHeights_73 : decode cX14_findHeights 73 = .ok (.iload_n 2, 1) := by decide +kernel
theorem dX14_findHeights_74 : decode cX14_findHeights 74 = .ok (.iaload, 1) := by decide +kernel
theorem dX14_findHeights_75 : decode cX14_findHeights 75 = .ok (.iload_n 3, 1) := by decide +kernel
theorem dX14_findHeights_76 : decode cX14_findHeights 76 = .ok (.ishr, 1) := by decide +kernel
theorem dX14_findHeights_77 : decode cX14_findHeights 77 = .ok (.iconst 1, 1) := by decide +kernel
theorem dX14_findHeights_78 : decode cX14_findHeights 78 = .ok (.iand, 1) := by decide +kernel
theorem dX14_findHeights_79 : decode cX14_findHeights 79 = .ok (.iconst 1, 1) := by decide +kernel
theorem dX14_findHeights_80 : decode cX14_findHeights 80 = .ok (.if_icmp .ne 18, 3) := by decide +kernel
theorem dX14_findHeights_83 : decode cX14_findHeights 83 = .ok (.aload_n 0, 1) := by decide +kernel
theorem dX14_findHeights_84 : decode cX14_findHeights 84 = .ok (.iload_n 2, 1) := by decide +kernel
theorem dX14_findHeights_85 : decode cX14_findHeights 85 = .ok (.iload_n 3, 1) := by decide +kernel
theorem dX14_findHeights_86 : decode cX14_findHeights 86 = .ok (.invokevirtual 768, 3) := by decide +kernel
theorem dX14_findHeights_89 : decode cX14_findHeights 89 = .ok (.ifCond .eq 9, 3) := by decide +kernel
theorem dX14_findHeights_92 : decode cX14_findHeights 92 = .ok (.aload_n 0, 1) := by decide +kernel
theorem dX14_findHeights_93 : decode cX14_findHeights 93 = .ok (.iload_n 2, 1) := by decide +kernel
theorem dX14_findHeights_94 : decode cX14_findHeights 94 = .ok (.iload_n 3, 1) := by decide +kernel
theorem dX14_findHeights_95 : decode cX14_findHeights 95 = .ok (.invokevirtual 771, 3) := by decide +kernel
theorem dX14_findHeights_98 : decode cX14_findHeights 98 = .ok (.iinc 3 1, 3) := by decide +kernel
theorem dX14_findHeights_101 : decode cX14_findHeights 101 = .ok (.goto (-37), 3) := by decide +kernel
theorem dX14_findHeights_104 : decode cX14_findHeights 104 = .ok (.iinc 2 1, 3) := by decide +kernel
theorem dX14_findHeights_107 : decode cX14_findHeights 107 = .ok (.goto (-53), 3) := by decide +kernel
theorem dX14_findHeights_110 : decode cX14_findHeights 110 = .ok (.goto (-70), 3) := by decide +kernel
theorem dX14_findHeights_113 : decode cX14_findHeights 113 = .ok (.return_, 1) := by decide +kernel
theorem dX14_findLive_0 : decode cX14_findLive 0 = .ok (.iconst 0, 1) := by decide +kernel
theorem dX14_findLive_1 : decode cX14_findLive 1 = .ok (.istore_n 1, 1) := by decide +kernel
theorem dX14_findLive_2 : decode cX14_findLive 2 = .ok (.iload_n 1, 1) := by decide +kernel
theorem dX14_findLive_3 : decode cX14_findLive 3 = .ok (.aload_n 0, 1) := by decide +kernel
theorem dX14_findLive_4 : decode cX14_findLive 4 = .ok (.getfield 1130, 3) := by decide +kernel
theorem dX14_findLive_7 : decode cX14_findLive 7 = .ok (.if_icmp .ge 16, 3) := by decide +kernel
theorem dX14_findLive_10 : decode cX14_findLive 10 = .ok (.aload_n 0, 1) := by decide +kernel
theorem dX14_findLive_11 : decode cX14_findLive 11 = .ok (.getfield 276, 3) := by decide +kernel
theorem dX14_findLive_14 : decode cX14_findLive 14 = .ok (.iload_n 1, 1) := by decide +kernel
theorem dX14_findLive_15 : decode cX14_findLive 15 = .ok (.iconst 0, 1) := by decide +kernel
theorem dX14_findLive_16 : decode cX14_findLive 16 = .ok (.iastore, 1) := by decide +kernel
theorem dX14_findLive_17 : decode cX14_findLive 17 = .ok (.iinc 1 1, 3) := by decide +kernel
theorem dX14_findLive_20 : decode cX14_findLive 20 = .ok (.goto (-18), 3) := by decide +kernel
theorem dX14_findLive_23 : decode cX14_findLive 23 = .ok (.iconst 1, 1) := by decide +kernel
theorem dX14_findLive_24 : decode cX14_findLive 24 = .ok (.istore_n 1, 1) := by decide +kernel
theorem dX14_findLive_25 : decode cX14_findLive 25 = .ok (.iload_n 1, 1) := by decide +kernel
theorem dX14_findLive_26 : decode cX14_findLive 26 = .ok (.ifCond .eq 70, 3) := by decide +kernel
theorem dX14_findLive_29 : decode cX14_findLive 29 = .ok (.iconst 0, 1) := by decide +kernel
theorem dX14_findLive_30 : decode cX14_findLive 30 = .ok (.istore_n 1, 1) := by decide +kernel
theorem dX14_findLive_31 : decode cX14_findLive 31 = .ok (.aload_n 0, 1) := by decide +kernel
theorem dX14_findLive_32 : decode cX14_findLive 32 = .ok (.getfield 1130, 3) := by decide +kernel
theorem dX14_findLive_35 : decode cX14_findLive 35 = .ok (.iconst 1, 1) := by decide +kernel
theorem dX14_findLive_36 : decode cX14_findLive 36 = .ok (.isub, 1) := by decide +kernel
theorem dX14_findLive_37 : decode cX14_findLive 37 = .ok (.istore_n 2, 1) := by decide +kernel
theorem dX14_findLive_38 : decode cX14_findLive 38 = .ok (.iload_n 2, 1) := by decide +kernel
theorem dX14_findLive_39 : decode cX14_findLive 39 = .ok (.ifCond .lt 54, 3) := by decide +kernel
theorem dX14_findLive_42 : decode cX14_findLive 42 = .ok (.aload_n 0, 1) := by decide +kernel
theorem dX14_findLive_43 : decode cX14_findLive 43 = .ok (.getfield 249, 3) := by decide +kernel
theorem dX14_findLive_46 : decode cX14_findLive 46 = .ok (.iload_n 2, 1) := by decide +kernel
theorem dX14_findLive_47 : decode cX14_findLive 47 = .ok (.baload, 1) := by decide +kernel
theorem dX14_findLive_48 : decode cX14_findLive 48 = .ok (.ifCond .eq 6, 3) := by decide +kernel
theorem dX14_findLive_51 : decode cX14_findLive 51 = .ok (.goto 36, 3) := by decide +kernel
theorem dX14_findLive_54 : decode cX14_findLive 54 = .ok (.aload_n 0, 1) := by decide +kernel
theorem dX14_findLive_55 : decode cX14_findLive 55 = .ok (.iload_n 2, 1) := by decide +kernel
theorem dX14_findLive_56 : decode cX14_findLive 56 = .ok (.invokevirtual 1246, 3) := by decide +kernel
theorem dX14_findLive_59 : decode cX14_findLive 59 = .ok (.istore_n 3, 1) := by decide +kernel
theorem dX14_findLive_60 : decode cX14_findLive 60 = .ok (.iload_n 1, 1) := by decide +kernel
theorem dX14_findLive_61 : decode cX14_findLive 61 = .ok (.ifCond .ne 13, 3) := by decide +kernel
theorem dX14_findLive_64 : decode cX14_findLive 64 = .ok (.iload_n 3, 1) := by decide +kernel
theorem dX14_findLive_65 : decode cX14_findLive 65 = .ok (.aload_n 0, 1) := by decide +kernel
theorem dX14_findLive_66 : decode cX14_findLive 66 = .ok (.getfield 276, 3) := by decide +kernel
theorem dX14_findLive_69 : decode cX14_findLive 69 = .ok (.iload_n 2, 1) := by decide +kernel
theorem dX14_findLive_70 : decode cX14_findLive 70 = .ok (.iaload, 1) := by decide +kernel
theorem dX14_findLive_71 : decode cX14_findLive 71 = .ok (.if_icmp .eq 7, 3) := by decide +kernel
theorem dX14_findLive_74 : decode cX14_findLive 74 = .ok (.iconst 1, 1) := by decide +kernel
theorem dX14_findLive_75 : decode cX14_findLive 75 = .ok (.goto 4, 3) := by decide +kernel
theorem dX14_findLive_78 : decode cX14_findLive 78 = .ok (.iconst 0, 1) := by decide +kernel
theorem dX14_findLive_79 : decode cX14_findLive 79 = .ok (.istore_n 1, 1) := by decide +kernel
theorem dX14_findLive_80 : decode cX14_findLive 80 = .ok (.aload_n 0, 1) := by decide +kernel
theorem dX14_findLive_81 : decode cX14_findLive 81 = .ok (.getfield 276, 3) := by decide +kernel
theorem dX14_findLive_84 : decode cX14_findLive 84 = .ok (.iload_n 2, 1) := by decide +kernel
theorem dX14_findLive_85 : decode cX14_findLive 85 = .ok (.iload_n 3, 1) := by decide +kernel
theorem dX14_findLive_86 : decode cX14_findLive 86 = .ok (.iastore, 1) := by decide +kernel
theorem dX14_findLive_87 : decode cX14_findLive 87 = .ok (.iinc 2 (-1), 3) := by decide +kernel
theorem dX14_findLive_90 : decode cX14_findLive 90 = .ok (.goto (-52), 3) := by decide +kernel
theorem dX14_findLive_93 : decode cX14_findLive 93 = .ok (.goto (-68), 3) := by decide +kernel
theorem dX14_findLive_96 : decode cX14_findLive 96 = .ok (.return_, 1) := by decide +kernel
theorem dX14_first_0 : decode cX14_first 0 = .ok (.aload_n 0, 1) := by decide +kernel
theorem dX14_first_1 : decode cX14_first 1 = .ok (.getfield 667, 3) := by decide +kernel
theorem dX14_first_4 : decode cX14_first 4 = .ok (.iconst 3, 1) := by decide +kernel
theorem dX14_first_5 : decode cX14_first 5 = .ok (.aload_n 0, 1) := by decide +kernel
theorem dX14_first_6 : decode cX14_first 6 = .ok (.getfield 670, 3) := by decide +kernel
theorem dX14_first_9 : decode cX14_first 9 = .ok (.iload_n 1, 1) := by decide +kernel
theorem dX14_first_10 : decode cX14_first 10 = .ok (.iadd, 1) := by decide +kernel
theorem dX14_first_11 : decode cX14_first 11 = .ok (.imul, 1) := by decide +kernel
theorem dX14_first_12 : decode cX14_first 12 = .ok (.iconst 1, 1) := by decide +kernel
theorem dX14_first_13 : decode cX14_first 13 = .ok (.iadd, 1) := by decide +kernel
theorem dX14_first_14 : decode cX14_first 14 = .ok (.iaload, 1) := by decide +kernel
theorem dX14_first_15 : decode cX14_first 15 = .ok (.ireturn, 1) := by decide +kernel
theorem dX14_firstFault_0 : decode cX14_firstFault 0 = .ok (.aload_n 0, 1) := by decide +kernel
theorem dX14_firstFault_1 : decode cX14_firstFault 1 = .ok (.aload_n 1, 1) := by decide +kernel
theorem dX14_firstFault_2 : decode cX14_firstFault 2 = .ok (.iload_n 2, 1) := by decide +kernel
theorem dX14_firstFault_3 : decode cX14_firstFault 3 = .ok (.invokevirtual 834, 3) := by decide +kernel
theorem dX14_firstFault_6 : decode cX14_firstFault 6 = .ok (.aload_n 0, 1) := by decide +kernel
theorem dX14_firstFault_7 : decode cX14_firstFault 7 = .ok (.aload_n 1, 1) := by decide +kernel
theorem dX14_firstFault_8 : decode cX14_firstFault 8 = .ok (.getfield 629, 3) := by decide +kernel
theorem dX14_firstFault_11 : decode cX14_firstFault 11 = .ok (.iload_n 2, 1) := by decide +kernel
theorem dX14_firstFault_12 : decode cX14_firstFault 12 = .ok (.iaload, 1) := by decide +kernel
theorem dX14_firstFault_13 : decode cX14_firstFault 13 = .ok (.invokevirtual 838, 3) := by decide +kernel
theorem dX14_firstFault_16 : decode cX14_firstFault 16 = .ok (.iconst 0, 1) := by decide +kernel
theorem dX14_firstFault_17 : decode cX14_firstFault 17 = .ok (.istore_n 3, 1) := by decide +kernel
theorem dX14_firstFault_18 : decode cX14_firstFault 18 = .ok (.iload_n 3, 1) := by decide +kernel
theorem dX14_firstFault_19 : decode cX14_firstFault 19 = .ok (.aload_n 0, 1) := by decide +kernel
theorem dX14_firstFault_20 : decode cX14_firstFault 20 = .ok (.getfield 673, 3) := by decide +kernel
theorem dX14_firstFault_23 : decode cX14_firstFault 23 = .ok (.if_icmp .ge 16, 3) := by decide +kernel
theorem dX14_firstFault_26 : decode cX14_firstFault 26 = .ok (.aload_n 0, 1) := by decide +kernel
theorem dX14_firstFault_27 : decode cX14_firstFault 27 = .ok (.getfield 95, 3) := by decide +kernel
theorem dX14_firstFault_30 : decode cX14_firstFault 30 = .ok (.iload_n 3, 1) := by decide +kernel
theorem dX14_firstFault_31 : decode cX14_firstFault 31 = .ok (.iconst 0, 1) := by decide +kernel
theorem dX14_firstFault_32 : decode cX14_firstFault 32 = .ok (.bastore, 1) := by decide +kernel
theorem dX14_firstFault_33 : decode cX14_firstFault 33 = .ok (.iinc 3 1, 3) := by decide +kernel
theorem dX14_firstFault_36 : decode cX14_firstFault 36 = .ok (.goto (-18), 3) := by decide +kernel
theorem dX14_firstFault_39 : decode cX14_firstFault 39 = .ok (.iconst 0, 1) := by decide +kernel
theorem dX14_firstFault_40 : decode cX14_firstFault 40 = .ok (.istore_n 3, 1) := by decide +kernel
theorem dX14_firstFault_41 : decode cX14_firstFault 41 = .ok (.iload_n 3, 1) := by decide +kernel
theorem dX14_firstFault_42 : decode cX14_firstFault 42 = .ok (.bipush 24, 2) := by decide +kernel
theorem dX14_firstFault_44 : decode cX14_firstFault 44 = .ok (.if_icmp .ge 16, 3) := by decide +kernel
theorem dX14_firstFault_47 : decode cX14_firstFault 47 = .ok (.aload_n 0, 1) := by decide +kernel
theorem dX14_firstFault_48 : decode cX14_firstFault 48 = .ok (.getfield 99, 3) := by decide +kernel
theorem dX14_firstFault_51 : decode cX14_firstFault 51 = .ok (.iload_n 3, 1) := by decide +kernel
theorem dX14_firstFault_52 : decode cX14_firstFault 52 = .ok (.iconst 0, 1) := by decide +kernel
theorem dX14_firstFault_53 : decode cX14_firstFault 53 = .ok (.bastore, 1) := by decide +kernel
theorem dX14_firstFault_54 : decode cX14_firstFault 54 = .ok (.iinc 3 1, 3) := by decide +kernel
theorem dX14_firstFault_57 : decode cX14_firstFault 57 = .ok (.goto (-16), 3) := by decide +kernel
theorem dX14_firstFault_60 : decode cX14_firstFault 60 = .ok (.aload_n 1, 1) := by decide +kernel
theorem dX14_firstFault_61 : decode cX14_firstFault 61 = .ok (.getfield 619, 3) := by decide +kernel
theorem dX14_firstFault_64 : decode cX14_firstFault 64 = .ok (.iload_n 2, 1) := by decide +kernel
theorem dX14_firstFault_65 : decode cX14_firstFault 65 = .ok (.aaload, 1) := by decide +kernel
theorem dX14_firstFault_66 : decode cX14_firstFault 66 = .ok (.astore_n 3, 1) := by decide +kernel
theorem dX14_firstFault_67 : decode cX14_firstFault 67 = .ok (.iconst 0, 1) := by decide +kernel
theorem dX14_firstFault_68 : decode cX14_firstFault 68 = .ok (.istore 4, 2) := by decide +kernel
theorem dX14_firstFault_70 : decode cX14_firstFault 70 = .ok (.iconst 0, 1) := by decide +kernel
theorem dX14_firstFault_71 : decode cX14_firstFault 71 = .ok (.istore 5, 2) := by decide +kernel
theorem dX14_firstFault_73 : decode cX14_firstFault 73 = .ok (.iload 5, 2) := by decide +kernel
theorem dX14_firstFault_75 : decode cX14_firstFault 75 = .ok (.aload_n 3, 1) := by decide +kernel
theorem dX14_firstFault_76 : decode cX14_firstFault 76 = .ok (.invokevirtual 404, 3) := by decide +kernel
theorem dX14_firstFault_79 : decode cX14_firstFault 79 = .ok (.if_icmp .ge 82, 3) := by decide +kernel
theorem dX14_firstFault_82 : decode cX14_firstFault 82 = .ok (.aload_n 3, 1) := by decide +kernel
theorem dX14_firstFault_83 : decode cX14_firstFault 83 = .ok (.iload 5, 2) := by decide +kernel
theorem dX14_firstFault_85 : decode cX14_firstFault 85 = .ok (.invokevirtual 408, 3) := by decide +kernel
theorem dX14_firstFault_88 : decode cX14_firstFault 88 = .ok (.istore 6, 2) := by decide +kernel
theorem dX14_firstFault_90 : decode cX14_firstFault 90 = .ok (.aload_n 0, 1) := by decide +kernel
theorem dX14_firstFault_91 : decode cX14_firstFault 91 = .ok (.getfield 99, 3) := by decide +kernel
theorem dX14_firstFault_94 : decode cX14_firstFault 94 = .ok (.iload 4, 2) := by decide +kernel
theorem dX14_firstFault_96 : decode cX14_firstFault 96 = .ok (.iload 6, 2) := by decide +kernel
theorem dX14_firstFault_98 : decode cX14_firstFault 98 = .ok (.bipush 73, 2) := by decide +kernel
theorem dX14_firstFault_100 : decode cX14_firstFault 100 = .ok (.if_icmp .ne 7, 3) := by decide +kernel
theorem dX14_firstFault_103 : decode cX14_firstFault 103 = .ok (.iconst 1, 1) := by decide +kernel
theorem dX14_firstFault_104 : decode cX14_firstFault 104 = .ok (.goto 15, 3) := by decide +kernel
theorem dX14_firstFault_107 : decode cX14_firstFault 107 = .ok (.iload 6, 2) := by decide +kernel
theorem dX14_firstFault_109 : decode cX14_firstFault 109 = .ok (.bipush 74, 2) := by decide +kernel
theorem dX14_firstFault_111 : decode cX14_firstFault 111 = .ok (.if_icmp .ne 7, 3) := by decide +kernel
theorem dX14_firstFault_114 : decode cX14_firstFault 114 = .ok (.iconst 2, 1) := by decide +kernel
theorem dX14_firstFault_115 : decode cX14_firstFault 115 = .ok (.goto 4, 3) := by decide +kernel
theorem dX14_firstFault_118 : decode cX14_firstFault 118 = .ok (.iconst 4, 1) := by decide +kernel
theorem dX14_firstFault_119 : decode cX14_firstFault 119 = .ok (.i2b, 1) := by decide +kernel
theorem dX14_firstFault_120 : decode cX14_firstFault 120 = .ok (.bastore, 1) := by decide +kernel
theorem dX14_firstFault_121 : decode cX14_firstFault 121 = .ok (.iload 6, 2) := by decide +kernel
theorem dX14_firstFault_123 : decode cX14_firstFault 123 = .ok (.bipush 74, 2) := by decide +kernel
theorem dX14_firstFault_125 : decode cX14_firstFault 125 = .ok (.if_icmp .ne 13, 3) := by decide +kernel
theorem dX14_firstFault_128 : decode cX14_firstFault 128 = .ok (.aload_n 0, 1) := by decide +kernel
theorem dX14_firstFault_129 : decode cX14_firstFault 129 = .ok (.getfield 99, 3) := by decide +kernel
theorem dX14_firstFault_132 : decode cX14_firstFault 132 = .ok (.iload 4, 2) := by decide +kernel
theorem dX14_firstFault_134 : decode cX14_firstFault 134 = .ok (.iconst 1, 1) := by decide +kernel
theorem dX14_firstFault_135 : decode cX14_firstFault 135 = .ok (.iadd, 1) := by decide +kernel
theorem dX14_firstFault_136 : decode cX14_firstFault 136 = .ok (.iconst 3, 1) := by decide +kernel
theorem dX14_firstFault_137 : decode cX14_firstFault 137 = .ok (.bastore, 1) := by decide +kernel
theorem dX14_firstFault_138 : decode cX14_firstFault 138 = .ok (.iload 4, 2) := by decide +kernel
theorem dX14_firstFault_140 : decode cX14_firstFault 140 = .ok (.iload 6, 2) := by decide +kernel
theorem dX14_firstFault_142 : decode cX14_firstFault 142 = .ok (.bipush 74, 2) := by decide +kernel
theorem dX14_firstFault_144 : decode cX14_firstFault 144 = .ok (.if_icmp .ne 7, 3) := by decide +kernel
theorem dX14_firstFault_147 : decode cX14_firstFault 147 = .ok (.iconst 2, 1) := by decide +kernel
theorem dX14_firstFault_148 : decode cX14_firstFault 148 = .ok (.goto 4, 3) := by decide +kernel
theorem dX14_firstFault_151 : decode cX14_firstFault 151 = .ok (.iconst 1, 1) := by decide +kernel
theorem dX14_firstFault_152 : decode cX14_firstFault 152 = .ok (.iadd, 1) := by decide +kernel
theorem dX14_firstFault_153 : decode cX14_firstFault 153 = .ok (.istore 4, 2) := by decide +kernel
theorem dX14_firstFault_155 : decode cX14_firstFault 155 = .ok (.iinc 5 1, 3) := by decide +kernel
theorem dX14_firstFault_158 : decode cX14_firstFault 158 = .ok (.goto (-85), 3) := by decide +kernel
theorem dX14_firstFault_161 : decode cX14_firstFault 161 = .ok (.aload_n 0, 1) := by decide +kernel
theorem dX14_firstFault_162 : decode cX14_firstFault 162 = .ok (.iconst 0, 1) := by decide +kernel
theorem dX14_firstFault_163 : decode cX14_firstFault 163 = .ok (.iconst 0, 1) := by decide +kernel
theorem dX14_firstFault_164 : decode cX14_firstFault 164 = .ok (.invokevirtual 826, 3) := by decide +kernel
theorem dX14_firstFault_167 : decode cX14_firstFault 167 = .ok (.aload_n 0, 1) := by decide +kernel
theorem dX14_firstFault_168 : decode cX14_firstFault 168 = .ok (.iconst 1, 1) := by decide +kernel
theorem dX14_firstFault_169 : decode cX14_firstFault 169 = .ok (.putfield 740, 3) := by decide +kernel
theorem dX14_firstFault_172 : decode cX14_firstFault 172 = .ok (.aload_n 0, 1) := by decide +kernel
theorem dX14_firstFault_173 : decode cX14_firstFault 173 = .ok (.getfield 740, 3) := by decide +kernel
theorem dX14_firstFault_176 : decode cX14_firstFault 176 = .ok (.ifCond .eq 60, 3) := by decide +kernel
theorem dX14_firstFault_179 : decode cX14_firstFault 179 = .ok (.aload_n 0, 1) := by decide +kernel
theorem dX14_firstFault_180 : decode cX14_firstFault 180 = .ok (.iconst 0, 1) := by decide +kernel
theorem dX14_firstFault_181 : decode cX14_firstFault 181 = .ok (.putfield 740, 3) := by decide +kernel
theorem dX14_firstFault_184 : decode cX14_firstFault 184 = .ok (.iconst 0, 1) := by decide +kernel
theorem dX14_firstFault_185 : decode cX14_firstFault 185 = .ok (.istore 5, 2) := by decide +kernel
theorem dX14_firstFault_187 : decode cX14_firstFault 187 = .ok (.iload 5, 2) := by decide +kernel
theorem dX14_firstFault_189 : decode cX14_firstFault 189 = .ok (.aload_n 0, 1) := by decide +kernel
theorem dX14_firstFault_190 : decode cX14_firstFault 190 = .ok (.getfield 673, 3) := by decide +kernel
theorem dX14_firstFault_193 : decode cX14_firstFault 193 = .ok (.if_icmp .ge 40, 3) := by decide +kernel
theorem dX14_firstFault_196 : decode cX14_firstFault 196 = .ok (.aload_n 0, 1) := by decide +kernel
theorem dX14_firstFault_197 : decode cX14_firstFault 197 = .ok (.getfield 95, 3) := by decide +kernel
theorem dX14_firstFault_200 : decode cX14_firstFault 200 = .ok (.iload 5, 2) := by decide +kernel
theorem dX14_firstFault_202 : decode cX14_firstFault 202 = .ok (.baload, 1) := by decide +kernel
theorem dX14_firstFault_203 : decode cX14_firstFault 203 = .ok (.ifCond .eq 24, 3) := by decide +kernel
theorem dX14_firstFault_206 : decode cX14_firstFault 206 = .ok (.aload_n 0, 1) := by decide +kernel
theorem dX14_firstFault_207 : decode cX14_firstFault 207 = .ok (.iload 5, 2) := by decide +kernel
theorem dX14_firstFault_209 : decode cX14_firstFault 209 = .ok (.invokevirtual 841, 3) := by decide +kernel
theorem dX14_firstFault_212 : decode cX14_firstFault 212 = .ok (.ifCond .ne 15, 3) := by decide +kernel
theorem dX14_firstFault_215 : decode cX14_firstFault 215 = .ok (.aload_n 0, 1) := by decide +kernel
theorem dX14_firstFault_216 : decode cX14_firstFault 216 = .ok (.iload 5, 2) := by decide +kernel
theorem dX14_firstFault_218 : decode cX14_firstFault 218 = .ok (.aload_n 1, 1) := by decide +kernel
theorem dX14_firstFault_219 : decode cX14_firstFault 219 = .ok (.getfield 622, 3) := by decide +kernel
theorem dX14_firstFault_222 : decode cX14_firstFault 222 = .ok (.iload_n 2, 1) := by decide +kernel
theorem dX14_firstFault_223 : decode cX14_firstFault 223 = .ok (.aaload, 1) := by decide +kernel
theorem dX14_firstFault_224 : decode cX14_firstFault 224 = .ok (.invokevirtual 844, 3) := by decide +kernel
theorem dX14_firstFault_227 : decode cX14_firstFault 227 = .ok (.iinc 5 1, 3) := by decide +kernel
theorem dX14_firstFault_230 : decode cX14_firstFault 230 = .ok (.goto (-43), 3) := by decide +kernel
theorem dX14_firstFault_233 : decode cX14_firstFault 233 = .ok (.goto (-61), 3) := by decide +kernel
theorem dX14_firstFault_236 : decode cX14_firstFault 236 = .ok (.iconst 0, 1) := by decide +kernel
theorem dX14_firstFault_237 : decode cX14_firstFault 237 = .ok (.istore 5, 2) := by decide +kernel
theorem dX14_firstFault_239 : decode cX14_firstFault 239 = .ok (.iload 5, 2) := by decide +kernel
theorem dX14_firstFault_241 : decode cX14_firstFault 241 = .ok (.aload_n 0, 1) := by decide +kernel
theorem dX14_firstFault_242 : decode cX14_firstFault 242 = .ok (.getfield 673, 3) := by decide +kernel
theorem dX14_firstFault_245 : decode cX14_firstFault 245 = .ok (.if_icmp .ge 68, 3) := by decide +kernel
theorem dX14_firstFault_248 : decode cX14_firstFault 248 = .ok (.aload_n 0, 1) := by decide +kernel
theorem dX14_firstFault_249 : decode cX14_firstFault 249 = .ok (.iload 5, 2) := by decide +kernel
theorem dX14_firstFault_251 : decode cX14_firstFault 251 = .ok (.invokevirtual 841, 3) := by decide +kernel
theorem dX14_firstFault_254 : decode cX14_firstFault 254 = .ok (.ifCond .eq 6, 3) := by decide +kernel
theorem dX14_firstFault_257 : decode cX14_firstFault 257 = .ok (.iload 5, 2) := by decide +kernel
theorem dX14_firstFault_259 : decode cX14_firstFault 259 = .ok (.ireturn, 1) := by decide +kernel
theorem dX14_firstFault_260 : decode cX14_firstFault 260 = .ok (.aload_n 0, 1) := by decide +kernel
theorem dX14_firstFault_261 : decode cX14_firstFault 261 = .ok (.getfield 95, 3) := by decide +kernel
theorem dX14_firstFault_264 : decode cX14_firstFault 264 = .ok (.iload 5, 2) := by decide +kernel
theorem dX14_firstFault_266 : decode cX14_firstFault 266 = .ok (.baload, 1) := by decide +kernel
theorem dX14_firstFault_267 : decode cX14_firstFault 267 = .ok (.ifCond .ne 6, 3) := by decide +kernel
theorem dX14_firstFault_270 : decode cX14_firstFault 270 = .ok (.goto 37, 3) := by decide +kernel
theorem dX14_firstFault_273 : decode cX14_firstFault 273 = .ok (.aload_n 0, 1) := by decide +kernel
theorem dX14_firstFault_274 : decode cX14_firstFault 274 = .ok (.iload 5, 2) := by decide +kernel
theorem dX14_firstFault_276 : decode cX14_firstFault 276 = .ok (.aload_n 0, 1) := by decide +kernel
theorem dX14_firstFault_277 : decode cX14_firstFault 277 = .ok (.iload 5, 2) := by decide +kernel
theorem dX14_firstFault_279 : decode cX14_firstFault 279 = .ok (.invokevirtual 774, 3) := by decide +kernel
theorem dX14_firstFault_282 : decode cX14_firstFault 282 = .ok (.invokevirtual 823, 3) := by decide +kernel
theorem dX14_firstFault_285 : decode cX14_firstFault 285 = .ok (.aload_n 0, 1) := by decide +kernel
theorem dX14_firstFault_286 : decode cX14_firstFault 286 = .ok (.iload 5, 2) := by decide +kernel
theorem dX14_firstFault_288 : decode cX14_firstFault 288 = .ok (.aload_n 1, 1) := by decide +kernel
theorem dX14_firstFault_289 : decode cX14_firstFault 289 = .ok (.getfield 622, 3) := by decide +kernel
theorem dX14_firstFault_292 : decode cX14_firstFault 292 = .ok (.iload_n 2, 1) := by decide +kernel
theorem dX14_firstFault_293 : decode cX14_firstFault 293 = .ok (.aaload, 1) := by decide +kernel
theorem dX14_firstFault_294 : decode cX14_firstFault 294 = .ok (.invokevirtual 830, 3) := by decide +kernel
theorem dX14_firstFault_297 : decode cX14_firstFault 297 = .ok (.aload_n 0, 1) := by decide +kernel
theorem dX14_firstFault_298 : decode cX14_firstFault 298 = .ok (.getfield 783, 3) := by decide +kernel
theorem dX14_firstFault_301 : decode cX14_firstFault 301 = .ok (.ifCond .ne 6, 3) := by decide +kernel
theorem dX14_firstFault_304 : decode cX14_firstFault 304 = .ok (.iload 5, 2) := by decide +kernel
theorem dX14_firstFault_306 : decode cX14_firstFault 306 = .ok (.ireturn, 1) := by decide +kernel
theorem dX14_firstFault_307 : decode cX14_firstFault 307 = .ok (.iinc 5 1, 3) := by decide +kernel
theorem dX14_firstFault_310 : decode cX14_firstFault 310 = .ok (.goto (-71), 3) := by decide +kernel
theorem dX14_firstFault_313 : decode cX14_firstFault 313 = .ok (.iconst (-1), 1) := by decide +kernel
theorem dX14_firstFault_314 : decode cX14_firstFault 314 = .ok (.ireturn, 1) := by decide +kernel
theorem dX14_firstInts_0 : decode cX14_firstInts 0 = .ok (.iload_n 1, 1) := by decide +kernel
theorem dX14_firstInts_1 : decode cX14_firstInts 1 = .ok (.newarray .int, 2) := by decide +kernel
theorem dX14_firstInts_3 : decode cX14_firstInts 3 = .ok (.astore_n 2, 1) := by decide +kernel
theorem dX14_firstInts_4 : decode cX14_firstInts 4 = .ok (.iconst 0, 1) := by decide +kernel
theorem dX14_firstInts_5 : decode cX14_firstInts 5 = .ok (.istore_n 3, 1) := by decide +kernel
theorem dX14_firstInts_6 : decode cX14_firstInts 6 = .ok (.iload_n 3, 1) := by decide +kernel
theorem dX14_firstInts_7 : decode cX14_firstInts 7 = .ok (.iload_n 1, 1) := by decide +kernel
theorem dX14_firstInts_8 : decode cX14_firstInts 8 = .ok (.if_icmp .ge 15, 3) := by decide +kernel
theorem dX14_firstInts_11 : decode cX14_firstInts 11 = .ok (.aload_n 2, 1) := by decide +kernel
theorem dX14_firstInts_12 : decode cX14_firstInts 12 = .ok (.iload_n 3, 1) := by decide +kernel
theorem dX14_firstInts_13 : decode cX14_firstInts 13 = .ok (.aload_n 0, 1) := by decide +kernel
theorem dX14_firstInts_14 : decode cX14_firstInts 14 = .ok (.iload_n 3, 1) := by decide +kernel
theorem dX14_firstInts_15 : decode cX14_firstInts 15 = .ok (.iaload, 1) := by decide +kernel
theorem dX14_firstInts_16 : decode cX14_firstInts 16 = .ok (.iastore, 1) := by decide +kernel
theorem dX14_firstInts_17 : decode cX14_firstInts 17 = .ok (.iinc 3 1, 3) := by decide +kernel
theorem dX14_firstInts_20 : decode cX14_firstInts 20 = .ok (.goto (-14), 3) := by decide +kernel
theorem dX14_firstInts_23 : decode cX14_firstInts 23 = .ok (.aload_n 2, 1) := by decide +kernel
theorem dX14_firstInts_24 : decode cX14_firstInts 24 = .ok (.areturn, 1) := by decide +kernel
theorem dX14_flags_0 : decode cX14_flags 0 = .ok (.aload_n 0, 1) := by decide +kernel
theorem dX14_flags_1 : decode cX14_flags 1 = .ok (.aload_n 0, 1) := by decide +kernel
theorem dX14_flags_2 : decode cX14_flags 2 = .ok (.aload_n 0, 1) := by decide +kernel
theorem dX14_flags_3 : decode cX14_flags 3 = .ok (.getfield 344, 3) := by decide +kernel
theorem dX14_flags_6 : decode cX14_flags 6 = .ok (.invokevirtual 316, 3) := by decide +kernel
theorem dX14_flags_9 : decode cX14_flags 9 = .ok (.bipush 33, 2) := by decide +kernel
theorem dX14_flags_11 : decode cX14_flags 11 = .ok (.if_icmp .ne 7, 3) := by decide +kernel
theorem dX14_flags_14 : decode cX14_flags 14 = .ok (.iconst 1, 1) := by decide +kernel
theorem dX14_flags_15 : decode cX14_flags 15 = .ok (.goto 4, 3) := by decide +kernel
theorem dX14_flags_18 : decode cX14_flags 18 = .ok (.iconst 0, 1) := by decide +kernel
theorem dX14_flags_19 : decode cX14_flags 19 = .ok (.bipush 7, 2) := by decide +kernel
theorem dX14_flags_21 : decode cX14_flags 21 = .ok (.aload_n 0, 1) := by decide +kernel
theorem dX14_flags_22 : decode cX14_flags 22 = .ok (.getfield 344, 3) := by decide +kernel
theorem dX14_flags_25 : decode cX14_flags 25 = .ok (.invokevirtual 325, 3) := by decide +kernel
theorem dX14_flags_28 : decode cX14_flags 28 = .ok (.iconst 0, 1) := by decide +kernel
theorem dX14_flags_29 : decode cX14_flags 29 = .ok (.istore_n 1, 1) := by decide +kernel
theorem dX14_flags_30 : decode cX14_flags 30 = .ok (.iload_n 1, 1) := by decide +kernel
theorem dX14_flags_31 : decode cX14_flags 31 = .ok (.aload_n 0, 1) := by decide +kernel
theorem dX14_flags_32 : decode cX14_flags 32 = .ok (.getfield 349, 3) := by decide +kernel
theorem dX14_flags_35 : decode cX14_flags 35 = .ok (.if_icmp .ge 41, 3) := by decide +kernel
theorem dX14_flags_38 : decode cX14_flags 38 = .ok (.aload_n 0, 1) := by decide +kernel
theorem dX14_flags_39 : decode cX14_flags 39 = .ok (.aload_n 0, 1) := by decide +kernel
theorem dX14_flags_40 : decode cX14_flags 40 = .ok (.aload_n 0, 1) := by decide +kernel
theorem dX14_flags_41 : decode cX14_flags 41 = .ok (.getfield 47, 3) := by decide +kernel
theorem dX14_flags_44 : decode cX14_flags 44 = .ok (.iload_n 1, 1) := by decide +kernel
theorem dX14_flags_45 : decode cX14_flags 45 = .ok (.iaload, 1) := by decide +kernel
theorem dX14_flags_46 : decode cX14_flags 46 = .ok (.invokevirtual 316, 3) := by decide +kernel
theorem dX14_flags_49 : decode cX14_flags 49 = .ok (.bipush 9, 2) := by decide +kernel
theorem dX14_flags_51 : decode cX14_flags 51 = .ok (.if_icmp .ne 7, 3) := by decide +kernel
theorem dX14_flags_54 : decode cX14_flags 54 = .ok (.iconst 1, 1) := by decide +kernel
theorem dX14_flags_55 : decode cX14_flags 55 = .ok (.goto 4, 3) := by decide +kernel
theorem dX14_flags_58 : decode cX14_flags 58 = .ok (.iconst 0, 1) := by decide +kernel
theorem dX14_flags_59 : decode cX14_flags 59 = .ok (.bipush 7, 2) := by decide +kernel
theorem dX14_flags_61 : decode cX14_flags 61 = .ok (.aload_n 0, 1) := by decide +kernel
theorem dX14_flags_62 : decode cX14_flags 62 = .ok (.getfield 47, 3) := by decide +kernel
theorem dX14_flags_65 : decode cX14_flags 65 = .ok (.iload_n 1, 1) := by decide +kernel
theorem dX14_flags_66 : decode cX14_flags 66 = .ok (.iaload, 1) := by decide +kernel
theorem dX14_flags_67 : decode cX14_flags 67 = .ok (.invokevirtual 325, 3) := by decide +kernel
theorem dX14_flags_70 : decode cX14_flags 70 = .ok (.iinc 1 1, 3) := by decide +kernel
theorem dX14_flags_73 : decode cX14_flags 73 = .ok (.goto (-43), 3) := by decide +kernel
theorem dX14_flags_76 : decode cX14_flags 76 = .ok (.return_, 1) := by decide +kernel
theorem dX14_flow_0 : decode cX14_flow 0 = .ok (.aload_n 0, 1) := by decide +kernel
theorem dX14_flow_1 : decode cX14_flow 1 = .ok (.iload_n 1, 1) := by decide +kernel
theorem dX14_flow_2 : decode cX14_flow 2 = .ok (.aload_n 0, 1) := by decide +kernel
theorem dX14_flow_3 : decode cX14_flow 3 = .ok (.iload_n 1, 1) := by decide +kernel
theorem dX14_flow_4 : decode cX14_flow 4 = .ok (.invokevirtual 774, 3) := by decide +kernel
theorem dX14_flow_7 : decode cX14_flow 7 = .ok (.invokevirtual 823, 3) := by decide +kernel
theorem dX14_flow_10 : decode cX14_flow 10 = .ok (.iconst 0, 1) := by decide +kernel
theorem dX14_flow_11 : decode cX14_flow 11 = .ok (.istore_n 3, 1) := by decide +kernel
theorem dX14_flow_12 : decode cX14_flow 12 = .ok (.iload_n 3, 1) := by decide +kernel
theorem dX14_flow_13 : decode cX14_flow 13 = .ok (.aload_n 0, 1) := by decide +kernel
theorem dX14_flow_14 : decode cX14_flow 14 = .ok (.getfield 679, 3) := by decide +kernel
theorem dX14_flow_17 : decode cX14_flow 17 = .ok (.if_icmp .ge 29, 3) := by decide +kernel
theorem dX14_flow_20 : decode cX14_flow 20 = .ok (.aload_n 0, 1) := by decide +kernel
theorem dX14_flow_21 : decode cX14_flow 21 = .ok (.iload_n 1, 1) := by decide +kernel
theorem dX14_flow_22 : decode cX14_flow 22 = .ok (.iload_n 3, 1) := by decide +kernel
theorem dX14_flow_23 : decode cX14_flow 23 = .ok (.invokevirtual 744, 3) := by decide +kernel
theorem dX14_flow_26 : decode cX14_flow 26 = .ok (.ifCond .eq 14, 3) := by decide +kernel
theorem dX14_flow_29 : decode cX14_flow 29 = .ok (.aload_n 0, 1) := by decide +kernel
theorem dX14_flow_30 : decode cX14_flow 30 = .ok (.aload_n 0, 1) := by decide +kernel
theorem dX14_flow_31 : decode cX14_flow 31 = .ok (.iload_n 3, 1) := by decide +kernel
theorem dX14_flow_32 : decode cX14_flow 32 = .ok (.iconst 2, 1) := by decide +kernel
theorem dX14_flow_33 : decode cX14_flow 33 = .ok (.invokevirtual 682, 3) := by decide +kernel
theorem dX14_flow_36 : decode cX14_flow 36 = .ok (.iconst 1, 1) := by decide +kernel
theorem dX14_flow_37 : decode cX14_flow 37 = .ok (.invokevirtual 826, 3) := by decide +kernel
theorem dX14_flow_40 : decode cX14_flow 40 = .ok (.iinc 3 1, 3) := by decide +kernel
theorem dX14_flow_43 : decode cX14_flow 43 = .ok (.goto (-31), 3) := by decide +kernel
theorem dX14_flow_46 : decode cX14_flow 46 = .ok (.aload_n 0, 1) := by decide +kernel
theorem dX14_flow_47 : decode cX14_flow 47 = .ok (.iload_n 1, 1) := by decide +kernel
theorem dX14_flow_48 : decode cX14_flow 48 = .ok (.aload_n 2, 1) := by decide +kernel
theorem dX14_flow_49 : decode cX14_flow 49 = .ok (.invokevirtual 830, 3) := by decide +kernel
theorem dX14_flow_52 : decode cX14_flow 52 = .ok (.aload_n 0, 1) := by decide +kernel
theorem dX14_flow_53 : decode cX14_flow 53 = .ok (.iload_n 1, 1) := by decide +kernel
theorem dX14_flow_54 : decode cX14_flow 54 = .ok (.invokevirtual 685, 3) := by decide +kernel
theorem dX14_flow_57 : decode cX14_flow 57 = .ok (.invokestatic 756, 3) := by decide +kernel
theorem dX14_flow_60 : decode cX14_flow 60 = .ok (.ifCond .eq 11, 3) := by decide +kernel
theorem dX14_flow_63 : decode cX14_flow 63 = .ok (.aload_n 0, 1) := by decide +kernel
theorem dX14_flow_64 : decode cX14_flow 64 = .ok (.iload_n 1, 1) := by decide +kernel
theorem dX14_flow_65 : decode cX14_flow 65 = .ok (.iconst 1, 1) := by decide +kernel
theorem dX14_flow_66 : decode cX14_flow 66 = .ok (.iadd, 1) := by decide +kernel
theorem dX14_flow_67 : decode cX14_flow 67 = .ok (.iconst 0, 1) := by decide +kernel
theorem dX14_flow_68 : decode cX14_flow 68 = .ok (.invokevirtual 826, 3) := by decide +kernel
theorem dX14_flow_71 : decode cX14_flow 71 = .ok (.iconst 0, 1) := by decide +kernel
theorem dX14_flow_72 : decode cX14_flow 72 = .ok (.istore_n 3, 1) := by decide +kernel
theorem dX14_flow_73 : decode cX14_flow 73 = .ok (.iload_n 3, 1) := by decide +kernel
theorem dX14_flow_74 : decode cX14_flow 74 = .ok (.aload_n 0, 1) := by decide +kernel
theorem dX14_flow_75 : decode cX14_flow 75 = .ok (.iload_n 1, 1) := by decide +kernel
theorem dX14_flow_76 : decode cX14_flow 76 = .ok (.invokevirtual 762, 3) := by decide +kernel
theorem dX14_flow_79 : decode cX14_flow 79 = .ok (.if_icmp .ge 20, 3) := by decide +kernel
theorem dX14_flow_82 : decode cX14_flow 82 = .ok (.aload_n 0, 1) := by decide +kernel
theorem dX14_flow_83 : decode cX14_flow 83 = .ok (.aload_n 0, 1) := by decide +kernel
theorem dX14_flow_84 : decode cX14_flow 84 = .ok (.iload_n 1, 1) := by decide +kernel
theorem dX14_flow_85 : decode cX14_flow 85 = .ok (.iload_n 3, 1) := by decide +kernel
theorem dX14_flow_86 : decode cX14_flow 86 = .ok (.invokevirtual 765, 3) := by decide +kernel
theorem dX14_flow_89 : decode cX14_flow 89 = .ok (.iconst 0, 1) := by decide +kernel
theorem dX14_flow_90 : decode cX14_flow 90 = .ok (.invokevirtual 826, 3) := by decide +kernel
theorem dX14_flow_93 : decode cX14_flow 93 = .ok (.iinc 3 1, 3) := by decide +kernel
theorem dX14_flow_96 : decode cX14_flow 96 = .ok (.goto (-23), 3) := by decide +kernel
theorem dX14_flow_99 : decode cX14_flow 99 = .ok (.return_, 1) := by decide +kernel
theorem dX14_folded_0 : decode cX14_folded 0 = .ok (.aload_n 0, 1) := by decide +kernel
theorem dX14_folded_1 : decode cX14_folded 1 = .ok (.iload_n 2, 1) := by decide +kernel
theorem dX14_folded_2 : decode cX14_folded 2 = .ok (.invokevirtual 1161, 3) := by decide +kernel
theorem dX14_folded_5 : decode cX14_folded 5 = .ok (.istore 4, 2) := by decide +kernel
theorem dX14_folded_7 : decode cX14_folded 7 = .ok (.iload 4, 2) := by decide +kernel
theorem dX14_folded_9 : decode cX14_folded 9 = .ok (.aload_n 0, 1) := by decide +kernel
theorem dX14_folded_10 : decode cX14_folded 10 = .ok (.getfield 1130, 3) := by decide +kernel
theorem dX14_folded_13 : decode cX14_folded 13 = .ok (.if_icmp .ge 32, 3) := by decide +kernel
theorem dX14_folded_16 : decode cX14_folded 16 = .ok (.iload 4, 2) := by decide +kernel
theorem dX14_folded_18 : decode cX14_folded 18 = .ok (.iload_n 3, 1) := by decide +kernel
theorem dX14_folded_19 : decode cX14_folded 19 = .ok (.if_icmp .eq 26, 3) := by decide +kernel
theorem dX14_folded_22 : decode cX14_folded 22 = .ok (.aload_n 0, 1) := by decide +kernel
theorem dX14_folded_23 : decode cX14_folded 23 = .ok (.getfield 267, 3) := by decide +kernel
theorem dX14_folded_26 : decode cX14_folded 26 = .ok (.iload 4, 2) := by decide +kernel
theorem dX14_folded_28 : decode cX14_folded 28 = .ok (.baload, 1) := by decide +kernel
theorem dX14_folded_29 : decode cX14_folded 29 = .ok (.ifCond .ne 16, 3) := by decide +kernel
theorem dX14_folded_32 : decode cX14_folded 32 = .ok (.aload_n 0, 1) := by decide +kernel
theorem dX14_folded_33 : decode cX14_folded 33 = .ok (.getfield 240, 3) := by decide +kernel
theorem dX14_folded_36 : decode cX14_folded 36 = .ok (.iload 4, 2) := by decide +kernel
theorem dX14_folded_38 : decode cX14_folded 38 = .ok (.iaload, 1) := by decide +kernel
theorem dX14_folded_39 : decode cX14_folded 39 = .ok (.invokestatic 1211, 3) := by decide +kernel
theorem dX14_folded_42 : decode cX14_folded 42 = .ok (.ifCond .ne 5, 3) := by decide +kernel
theorem dX14_folded_45 : decode cX14_folded 45 = .ok (.iconst 0, 1) := by decide +kernel
theorem dX14_folded_46 : decode cX14_folded 46 = .ok (.ireturn, 1) := by decide +kernel
theorem dX14_folded_47 : decode cX14_folded 47 = .ok (.aload_n 0, 1) := by decide +kernel
theorem dX14_folded_48 : decode cX14_folded 48 = .ok (.getfield 240, 3) := by decide +kernel
theorem dX14_folded_51 : decode cX14_folded 51 = .ok (.iload 4, 2) := by decide +kernel
theorem dX14_folded_53 : decode cX14_folded 53 = .ok (.iaload, 1) := by decide +kernel
theorem dX14_folded_54 : decode cX14_folded 54 = .ok (.istore 5, 2) := by decide +kernel
theorem dX14_folded_56 : decode cX14_folded 56 = .ok (.aload_n 0, 1) := by decide +kernel
theorem dX14_folded_57 : decode cX14_folded 57 = .ok (.getfield 240, 3) := by decide +kernel
theorem dX14_folded_60 : decode cX14_folded 60 = .ok (.iload_n 1, 1) := by decide +kernel
theorem dX14_folded_61 : decode cX14_folded 61 = .ok (.iaload, 1) := by decide +kernel
theorem dX14_folded_62 : decode cX14_folded 62 = .ok (.iload 5, 2) := by decide +kernel
theorem dX14_folded_64 : decode cX14_folded 64 = .ok (.invokestatic 1214, 3) := by decide +kernel
theorem dX14_folded_67 : decode cX14_folded 67 = .ok (.if_icmp .ne 17, 3) := by decide +kernel
theorem dX14_folded_70 : decode cX14_folded 70 = .ok (.aload_n 0, 1) := by decide +kernel
theorem dX14_folded_71 : decode cX14_folded 71 = .ok (.getfield 240, 3) := by decide +kernel
theorem dX14_folded_74 : decode cX14_folded 74 = .ok (.iload_n 2, 1) := by decide +kernel
theorem dX14_folded_75 : decode cX14_folded 75 = .ok (.iaload, 1) := by decide +kernel
theorem dX14_folded_76 : decode cX14_folded 76 = .ok (.iload 5, 2) := by decide +kernel
theorem dX14_folded_78 : decode cX14_folded 78 = .ok (.invokestatic 1217, 3) := by decide +kernel
theorem dX14_folded_81 : decode cX14_folded 81 = .ok (.if_icmp .eq 5, 3) := by decide +kernel
theorem dX14_folded_84 : decode cX14_folded 84 = .ok (.iconst 0, 1) := by decide +kernel
theorem dX14_folded_85 : decode cX14_folded 85 = .ok (.ireturn, 1) := by decide +kernel
theorem dX14_folded_86 : decode cX14_folded 86 = .ok (.aload_n 0, 1) := by decide +kernel
theorem dX14_folded_87 : decode cX14_folded 87 = .ok (.iload_n 1, 1) := by decide +kernel
theorem dX14_folded_88 : decode cX14_folded 88 = .ok (.invokevirtual 1220, 3) := by decide +kernel
theorem dX14_folded_91 : decode cX14_folded 91 = .ok (.lstore 6, 2) := by decide +kernel
theorem dX14_folded_93 : decode cX14_folded 93 = .ok (.aload_n 0, 1) := by decide +kernel
theorem dX14_folded_94 : decode cX14_folded 94 = .ok (.iload_n 2, 1) := by decide +kernel
theorem dX14_folded_95 : decode cX14_folded 95 = .ok (.invokevirtual 1220, 3) := by decide +kernel
theorem dX14_folded_98 : decode cX14_folded 98 = .ok (.lstore 8, 2) := by decide +kernel
theorem dX14_folded_100 : decode cX14_folded 100 = .ok (.iload 5, 2) := by decide +kernel
theorem dX14_folded_102 : decode cX14_folded 102 = .ok (.bipush 108, 2) := by decide +kernel
theorem dX14_folded_104 : decode cX14_folded 104 = .ok (.if_icmp .lt 19, 3) := by decide +kernel
theorem dX14_folded_107 : decode cX14_folded 107 = .ok (.iload 5, 2) := by decide +kernel
theorem dX14_folded_109 : decode cX14_folded 109 = .ok (.bipush 113, 2) := by decide +kernel
theorem dX14_folded_111 : decode cX14_folded 111 = .ok (.if_icmp .gt 12, 3) := by decide +kernel
theorem dX14_folded_114 : decode cX14_folded 114 = .ok (.lload 8, 2) := by decide +kernel
theorem dX14_folded_116 : decode cX14_folded 116 = .ok (.lconst 0, 1) := by decide +kernel
theorem dX14_folded_117 : decode cX14_folded 117 = .ok (.lcmp, 1) := by decide +kernel
theorem dX14_folded_118 : decode cX14_folded 118 = .ok (.ifCond .ne 5, 3) := by decide +kernel
theorem dX14_folded_121 : decode cX14_folded 121 = .ok (.iconst 0, 1) := by decide +kernel
theorem dX14_folded_122 : decode cX14_folded 122 = .ok (.ireturn, 1) := by decide +kernel
theorem dX14_folded_123 : decode cX14_folded 123 = .ok (.iload 5, 2) := by decide +kernel
theorem dX14_folded_125 : decode cX14_folded 125 = .ok (.sipush 148, 3) := by decide +kernel
theorem dX14_folded_128 : decode cX14_folded 128 = .ok (.if_icmp .ne 40, 3) := by decide +kernel
theorem dX14_folded_131 : decode cX14_folded 131 = .ok (.aload_n 0, 1) := by decide +kernel
theorem dX14_folded_132 : decode cX14_folded 132 = .ok (.iload_n 1, 1) := by decide +kernel
theorem dX14_folded_133 : decode cX14_folded 133 = .ok (.bipush 18, 2) := by decide +kernel
theorem dX14_folded_135 : decode cX14_folded 135 = .ok (.lload 6, 2) := by decide +kernel
theorem dX14_folded_137 : decode cX14_folded 137 = .ok (.lload 8, 2) := by decide +kernel
theorem dX14_folded_139 : decode cX14_folded 139 = .ok (.lcmp, 1) := by decide +kernel
theorem dX14_folded_140 : decode cX14_folded 140 = .ok (.ifCond .ge 9, 3) := by decide +kernel
theorem dX14_folded_143 : decode cX14_folded 143 = .ok (.ldc2_w 1069, 3) := by decide +kernel
theorem dX14_folded_146 : decode cX14_folded 146 = .ok (.goto 16, 3) := by decide +kernel
theorem dX14_folded_149 : decode cX14_folded 149 = .ok (.lload 6, 2) := by decide +kernel
theorem dX14_folded_151 : decode cX14_folded 151 = .ok (.lload 8, 2) := by decide +kernel
theorem dX14_folded_153 : decode cX14_folded 153 = .ok (.lcmp, 1) := by decide +kernel
theorem dX14_folded_154 : decode cX14_folded 154 = .ok (.ifCond .le 7, 3) := by decide +kernel
theorem dX14_folded_157 : decode cX14_folded 157 = .ok (.lconst 1, 1) := by decide +kernel
theorem dX14_folded_158 : decode cX14_folded 158 = .ok (.goto 4, 3) := by decide +kernel
theorem dX14_folded_161 : decode cX14_folded 161 = .ok (.lconst 0, 1) := by decide +kernel
theorem dX14_folded_162 : decode cX14_folded 162 = .ok (.invokevirtual 1223, 3) := by decide +kernel
theorem dX14_folded_165 : decode cX14_folded 165 = .ok (.goto 52, 3) := by decide +kernel
theorem dX14_folded_168 : decode cX14_folded 168 = .ok (.aload_n 0, 1) := by decide +kernel
theorem dX14_folded_169 : decode cX14_folded 169 = .ok (.getfield 240, 3) := by decide +kernel
theorem dX14_folded_172 : decode cX14_folded 172 = .ok (.iload_n 1, 1) := by decide +kernel
theorem dX14_folded_173 : decode cX14_folded 173 = .ok (.iaload, 1) := by decide +kernel
theorem dX14_folded_174 : decode cX14_folded 174 = .ok (.bipush 18, 2) := by decide +kernel
theorem dX14_folded_176 : decode cX14_folded 176 = .ok (.if_icmp .ne 25, 3) := by decide +kernel
theorem dX14_folded_179 : decode cX14_folded 179 = .ok (.aload_n 0, 1) := by decide +kernel
theorem dX14_folded_180 : decode cX14_folded 180 = .ok (.iload_n 1, 1) := by decide +kernel
theorem dX14_folded_181 : decode cX14_folded 181 = .ok (.bipush 18, 2) := by decide +kernel
theorem dX14_folded_183 : decode cX14_folded 183 = .ok (.iload 5, 2) := by decide +kernel
theorem dX14_folded_185 : decode cX14_folded 185 = .ok (.lload 6, 2) := by decide +kernel
theorem dX14_folded_187 : decode cX14_folded 187 = .ok (.l2i, 1) := by decide +kernel
theorem dX14_folded_188 : decode cX14_folded 188 = .ok (.lload 8, 2) := by decide +kernel
theorem dX14_folded_190 : decode cX14_folded 190 = .ok (.l2i, 1) := by decide +kernel
theorem dX14_folded_191 : decode cX14_folded 191 = .ok (.invokestatic 1066, 3) := by decide +kernel
theorem dX14_folded_194 : decode cX14_folded 194 = .ok (.i2l, 1) := by decide +kernel
theorem dX14_folded_195 : decode cX14_folded 195 = .ok (.invokevirtual 1223, 3) := by decide +kernel
theorem dX14_folded_198 : decode cX14_folded 198 = .ok (.goto 19, 3) := by decide +kernel
theorem dX14_folded_201 : decode cX14_folded 201 = .ok (.aload_n 0, 1) := by decide +kernel
theorem dX14_folded_202 : decode cX14_folded 202 = .ok (.iload_n 1, 1) := by decide +kernel
theorem dX14_folded_203 : decode cX14_folded 203 = .ok (.bipush 20, 2) := by decide +kernel
theorem dX14_folded_205 : decode cX14_folded 205 = .ok (.iload 5, 2) := by decide +kernel
theorem dX14_folded_207 : decode cX14_folded 207 = .ok (.lload 6, 2) := by decide +kernel
theorem dX14_folded_209 : decode cX14_folded 209 = .ok (.lload 8, 2) := by decide +kernel
theorem dX14_folded_211 : decode cX14_folded 211 = .ok (.invokestatic 1062, 3) := by decide +kernel
theorem dX14_folded_214 : decode cX14_folded 214 = .ok (.invokevirtual 1223, 3) := by decide +kernel
theorem dX14_folded_217 : decode cX14_folded 217 = .ok (.aload_n 0, 1) := by decide +kernel
theorem dX14_folded_218 : decode cX14_folded 218 = .ok (.getfield 249, 3) := by decide +kernel
theorem dX14_folded_221 : decode cX14_folded 221 = .ok (.iload_n 2, 1) := by decide +kernel
theorem dX14_folded_222 : decode cX14_folded 222 = .ok (.iconst 1, 1) := by decide +kernel
theorem dX14_folded_223 : decode cX14_folded 223 = .ok (.bastore, 1) := by decide +kernel
theorem dX14_folded_224 : decode cX14_folded 224 = .ok (.aload_n 0, 1) := by decide +kernel
theorem dX14_folded_225 : decode cX14_folded 225 = .ok (.getfield 249, 3) := by decide +kernel
theorem dX14_folded_228 : decode cX14_folded 228 = .ok (.iload 4, 2) := by decide +kernel
theorem dX14_folded_230 : decode cX14_folded 230 = .ok (.iconst 1, 1) := by decide +kernel
theorem dX14_folded_231 : decode cX14_folded 231 = .ok (.bastore, 1) := by decide +kernel
theorem dX14_folded_232 : decode cX14_folded 232 = .ok (.iconst 1, 1) := by decide +kernel
theorem dX14_folded_233 : decode cX14_folded 233 = .ok (.ireturn, 1) := by decide +kernel
theorem dX14_four_0 : decode cX14_four 0 = .ok (.aload_n 0, 1) := by decide +kernel
theorem dX14_four_1 : decode cX14_four 1 = .ok (.iload_n 1, 1) := by decide +kernel
theorem dX14_four_2 : decode cX14_four 2 = .ok (.invokevirtual 316, 3) := by decide +kernel
theorem dX14_four_5 : decode cX14_four 5 = .ok (.bipush 16, 2) := by decide +kernel
theorem dX14_four_7 : decode cX14_four 7 = .ok (.ishl, 1) := by decide +kernel
theorem dX14_four_8 : decode cX14_four 8 = .ok (.aload_n 0, 1) := by decide +kernel
theorem dX14_four_9 : decode cX14_four 9 = .ok (.iload_n 1, 1) := by decide +kernel
theorem dX14_four_10 : decode cX14_four 10 = .ok (.iconst 2, 1) := by decide +kernel
theorem dX14_four_11 : decode cX14_four 11 = .ok (.iadd, 1) := by decide +kernel
theorem dX14_four_12 : decode cX14_four 12 = .ok (.invokevirtual 316, 3) := by decide +kernel
theorem dX14_four_15 : decode cX14_four 15 = .ok (.ior, 1) := by decide +kernel
theorem dX14_four_16 : decode cX14_four 16 = .ok (.ireturn, 1) := by decide +kernel
theorem dX14_giveLetters_0 : decode cX14_giveLetters 0 = .ok (.iconst 0, 1) := by decide +kernel
theorem dX14_giveLetters_1 : decode cX14_giveLetters 1 = .ok (.istore_n 3, 1) := by decide +kernel
theorem dX14_giveLetters_2 : decode cX14_giveLetters 2 = .ok (.iload_n 3, 1) := by decide +kernel
theorem dX14_giveLetters_3 : decode cX14_giveLetters 3 = .ok (.aload_n 1, 1) := by decide +kernel
theorem dX14_giveLetters_4 : decode cX14_giveLetters 4 = .ok (.invokevirtual 404, 3) := by decide +kernel
theorem dX14_giveLetters_7 : decode cX14_giveLetters 7 = .ok (.if_icmp .ge 75, 3) := by decide +kernel
theorem dX14_giveLetters_10 : decode cX14_giveLetters 10 = .ok (.aload_n 1, 1) := by decide +kernel
theorem dX14_giveLetters_11 : decode cX14_giveLetters 11 = .ok (.iload_n 3, 1) := by decide +kernel
theorem dX14_giveLetters_12 : decode cX14_giveLetters 12 = .ok (.invokevirtual 408, 3) := by decide +kernel
theorem dX14_giveLetters_15 : decode cX14_giveLetters 15 = .ok (.istore 4, 2) := by decide +kernel
theorem dX14_giveLetters_17 : decode cX14_giveLetters 17 = .ok (.iload 4, 2) := by decide +kernel
theorem dX14_giveLetters_19 : decode cX14_giveLetters 19 = .ok (.bipush 74, 2) := by decide +kernel
theorem dX14_giveLetters_21 : decode cX14_giveLetters 21 = .ok (.if_icmp .ne 16, 3) := by decide +kernel
theorem dX14_giveLetters_24 : decode cX14_giveLetters 24 = .ok (.aload_n 0, 1) := by decide +kernel
theorem dX14_giveLetters_25 : decode cX14_giveLetters 25 = .ok (.iconst 2, 1) := by decide +kernel
theorem dX14_giveLetters_26 : decode cX14_giveLetters 26 = .ok (.invokevirtual 793, 3) := by decide +kernel
theorem dX14_giveLetters_29 : decode cX14_giveLetters 29 = .ok (.aload_n 0, 1) := by decide +kernel
theorem dX14_giveLetters_30 : decode cX14_giveLetters 30 = .ok (.iconst 3, 1) := by decide +kernel
theorem dX14_giveLetters_31 : decode cX14_giveLetters 31 = .ok (.invokevirtual 793, 3) := by decide +kernel
theorem dX14_giveLetters_34 : decode cX14_giveLetters 34 = .ok (.goto 42, 3) := by decide +kernel
theorem dX14_giveLetters_37 : decode cX14_giveLetters 37 = .ok (.aload_n 0, 1) := by decide +kernel
theorem dX14_giveLetters_38 : decode cX14_giveLetters 38 = .ok (.iload 4, 2) := by decide +kernel
theorem dX14_giveLetters_40 : decode cX14_giveLetters 40 = .ok (.bipush 73, 2) := by decide +kernel
theorem dX14_giveLetters_42 : decode cX14_giveLetters 42 = .ok (.if_icmp .ne 7, 3) := by decide +kernel
theorem dX14_giveLetters_45 : decode cX14_giveLetters 45 = .ok (.iconst 1, 1) := by decide +kernel
theorem dX14_giveLetters_46 : decode cX14_giveLetters 46 = .ok (.goto 27, 3) := by decide +kernel
theorem dX14_giveLetters_49 : decode cX14_giveLetters 49 = .ok (.iload 4, 2) := by decide +kernel
theorem dX14_giveLetters_51 : decode cX14_giveLetters 51 = .ok (.bipush 65, 2) := by decide +kernel
theorem dX14_giveLetters_53 : decode cX14_giveLetters 53 = .ok (.if_icmp .ne 7, 3) := by decide +kernel
theorem dX14_giveLetters_56 : decode cX14_giveLetters 56 = .ok (.iconst 4, 1) := by decide +kernel
theorem dX14_giveLetters_57 : decode cX14_giveLetters 57 = .ok (.goto 16, 3) := by decide +kernel
theorem dX14_giveLetters_60 : decode cX14_giveLetters 60 = .ok (.iload 4, 2) := by decide +kernel
theorem dX14_giveLetters_62 : decode cX14_giveLetters 62 = .ok (.bipush 78, 2) := by decide +kernel
theorem dX14_giveLetters_64 : decode cX14_giveLetters 64 = .ok (.if_icmp .ne 8, 3) := by decide +kernel
theorem dX14_giveLetters_67 : decode cX14_giveLetters 67 = .ok (.bipush 6, 2) := by decide +kernel
theorem dX14_giveLetters_69 : decode cX14_giveLetters 69 = .ok (.goto 4, 3) := by decide +kernel
theorem dX14_giveLetters_72 : decode cX14_giveLetters 72 = .ok (.iload_n 2, 1) := by decide +kernel
theorem dX14_giveLetters_73 : decode cX14_giveLetters 73 = .ok (.invokevirtual 793, 3) := by decide +kernel
theorem dX14_giveLetters_76 : decode cX14_giveLetters 76 = .ok (.iinc 3 1, 3) := by decide +kernel
theorem dX14_giveLetters_79 : decode cX14_giveLetters 79 = .ok (.goto (-77), 3) := by decide +kernel
theorem dX14_giveLetters_82 : decode cX14_giveLetters 82 = .ok (.return_, 1) := by decide +kernel
theorem dX14_givesOf_0 : decode cX14_givesOf 0 = .ok (.aload_n 0, 1) := by decide +kernel
theorem dX14_givesOf_1 : decode cX14_givesOf 1 = .ok (.iload_n 1, 1) := by decide +kernel
theorem dX14_givesOf_2 : decode cX14_givesOf 2 = .ok (.invokevirtual 685, 3) := by decide +kernel
theorem dX14_givesOf_5 : decode cX14_givesOf 5 = .ok (.istore_n 2, 1) := by decide +kernel
theorem dX14_givesOf_6 : decode cX14_givesOf 6 = .ok (.iload_n 2, 1) := by decide +kernel
theorem dX14_givesOf_7 : decode cX14_givesOf 7 = .ok (.bipush 96, 2) := by decide +kernel
theorem dX14_givesOf_9 : decode cX14_givesOf 9 = .ok (.if_icmp .lt 9, 3) := by decide +kernel
theorem dX14_givesOf_12 : decode cX14_givesOf 12 = .ok (.iload_n 2, 1) := by decide +kernel
theorem dX14_givesOf_13 : decode cX14_givesOf 13 = .ok (.bipush 117, 2) := by decide +kernel
theorem dX14_givesOf_15 : decode cX14_givesOf 15 = .ok (.if_icmp .le 16, 3) := by decide +kernel
theorem dX14_givesOf_18 : decode cX14_givesOf 18 = .ok (.iload_n 2, 1) := by decide +kernel
theorem dX14_givesOf_19 : decode cX14_givesOf 19 = .ok (.bipush 120, 2) := by decide +kernel
theorem dX14_givesOf_21 : decode cX14_givesOf 21 = .ok (.if_icmp .lt 26, 3) := by decide +kernel
theorem dX14_givesOf_24 : decode cX14_givesOf 24 = .ok (.iload_n 2, 1) := by decide +kernel
theorem dX14_givesOf_25 : decode cX14_givesOf 25 = .ok (.sipush 131, 3) := by decide +kernel
theorem dX14_givesOf_28 : decode cX14_givesOf 28 = .ok (.if_icmp .gt 19, 3) := by decide +kernel
theorem dX14_givesOf_31 : decode cX14_givesOf 31 = .ok (.iload_n 2, 1) := by decide +kernel
theorem dX14_givesOf_32 : decode cX14_givesOf 32 = .ok (.iconst 2, 1) := by decide +kernel
theorem dX14_givesOf_33 : decode cX14_givesOf 33 = .ok (.irem, 1) := by decide +kernel
theorem dX14_givesOf_34 : decode cX14_givesOf 34 = .ok (.ifCond .ne 9, 3) := by decide +kernel
theorem dX14_givesOf_37 : decode cX14_givesOf 37 = .ok (.ldc_w 706, 3) := by decide +kernel
theorem dX14_givesOf_40 : decode cX14_givesOf 40 = .ok (.goto 6, 3) := by decide +kernel
theorem dX14_givesOf_43 : decode cX14_givesOf 43 = .ok (.ldc_w 711, 3) := by decide +kernel
theorem dX14_givesOf_46 : decode cX14_givesOf 46 = .ok (.areturn, 1) := by decide +kernel
theorem dX14_givesOf_47 : decode cX14_givesOf 47 = .ok (.iload_n 2, 1) := by decide +kernel
theorem dX14_givesOf_48 : decode cX14_givesOf 48 = .ok (.lookupswitch 196 #[(1, 148), (18, 152), (20, 156), (21, 152), (22, 156), (25, 160), (46, 152), (133, 156), (136, 152), (145, 152), (146, 152), (147, 152), (148, 152), (178, 168), (184, 182), (188, 164), (190, 152)], 148) := by decide +kernel
theorem dX14_givesOf_196 : decode cX14_givesOf 196 = .ok (.ldc_w 723, 3) := by decide +kernel
theorem dX14_givesOf_199 : decode cX14_givesOf 199 = .ok (.areturn, 1) := by decide +kernel
theorem dX14_givesOf_200 : decode cX14_givesOf 200 = .ok (.ldc_w 706, 3) := by decide +kernel
theorem dX14_givesOf_203 : decode cX14_givesOf 203 = .ok (.areturn, 1) := by decide +kernel
theorem dX14_givesOf_204 : decode cX14_givesOf 204 = .ok (.ldc_w 711, 3) := by decide +kernel
theorem dX14_givesOf_207 : decode cX14_givesOf 207 = .ok (.areturn, 1) := by decide +kernel
theorem dX14_givesOf_208 : decode cX14_givesOf 208 = .ok (.ldc_w 713, 3) := by decide +kernel
theorem dX14_givesOf_211 : decode cX14_givesOf 211 = .ok (.areturn, 1) := by decide +kernel
theorem dX14_givesOf_212 : decode cX14_givesOf 212 = .ok (.ldc_w 717, 3) := by decide +kernel
theorem dX14_givesOf_215 : decode cX14_givesOf 215 = .ok (.areturn, 1) := by decide +kernel
theorem dX14_givesOf_216 : decode cX14_givesOf 216 = .ok (.aload_n 0, 1) := by decide +kernel
theorem dX14_givesOf_217 : decode cX14_givesOf 217 = .ok (.getfield 665, 3) := by decide +kernel
theorem dX14_givesOf_220 : decode cX14_givesOf 220 = .ok (.getfield 606, 3) := by decide +kernel
theorem dX14_givesOf_223 : decode cX14_givesOf 223 = .ok (.aload_n 0, 1) := by decide +kernel
theorem dX14_givesOf_224 : decode cX14_givesOf 224 = .ok (.iload_n 1, 1) := by decide +kernel
theorem dX14_givesOf_225 : decode cX14_givesOf 225 = .ok (.invokevirtual 697, 3) := by decide +kernel
theorem dX14_givesOf_228 : decode cX14_givesOf 228 = .ok (.aaload, 1) := by decide +kernel
theorem dX14_givesOf_229 : decode cX14_givesOf 229 = .ok (.areturn, 1) := by decide +kernel
theorem dX14_givesOf_230 : decode cX14_givesOf 230 = .ok (.aload_n 0, 1) := by decide +kernel
theorem dX14_givesOf_231 : decode cX14_givesOf 231 = .ok (.getfield 665, 3) := by decide +kernel
theorem dX14_givesOf_234 : decode cX14_givesOf 234 = .ok (.getfield 622, 3) := by decide +kernel
theorem dX14_givesOf_237 : decode cX14_givesOf 237 = .ok (.aload_n 0, 1) := by decide +kernel
theorem dX14_givesOf_238 : decode cX14_givesOf 238 = .ok (.iload_n 1, 1) := by decide +kernel
theorem dX14_givesOf_239 : decode cX14_givesOf 239 = .ok (.invokevirtual 697, 3) := by decide +kernel
theorem dX14_givesOf_242 : decode cX14_givesOf 242 = .ok (.aaload, 1) := by decide +kernel
theorem dX14_givesOf_243 : decode cX14_givesOf 243 = .ok (.areturn, 1) := by decide +kernel
theorem dX14_givesOf_244 : decode cX14_givesOf 244 = .ok (.ldc_w 721, 3) := by decide +kernel
theorem dX14_givesOf_247 : decode cX14_givesOf 247 = .ok (.areturn, 1) := by decide +kernel
theorem dX14_goBoth_0 : decode cX14_goBoth 0 = .ok (.aload_n 0, 1) := by decide +kernel
theorem dX14_goBoth_1 : decode cX14_goBoth 1 = .ok (.getfield 249, 3) := by decide +kernel
theorem dX14_goBoth_4 : decode cX14_goBoth 4 = .ok (.iload_n 1, 1) := by decide +kernel
theorem dX14_goBoth_5 : decode cX14_goBoth 5 = .ok (.iconst 1, 1) := by decide +kernel
theorem dX14_goBoth_6 : decode cX14_goBoth 6 = .ok (.bastore, 1) := by decide +kernel
theorem dX14_goBoth_7 : decode cX14_goBoth 7 = .ok (.aload_n 0, 1) := by decide +kernel
theorem dX14_goBoth_8 : decode cX14_goBoth 8 = .ok (.getfield 249, 3) := by decide +kernel
theorem dX14_goBoth_11 : decode cX14_goBoth 11 = .ok (.iload_n 2, 1) := by decide +kernel
theorem dX14_goBoth_12 : decode cX14_goBoth 12 = .ok (.iconst 1, 1) := by decide +kernel
theorem dX14_goBoth_13 : decode cX14_goBoth 13 = .ok (.bastore, 1) := by decide +kernel
theorem dX14_goBoth_14 : decode cX14_goBoth 14 = .ok (.iconst 1, 1) := by decide +kernel
theorem dX14_goBoth_15 : decode cX14_goBoth 15 = .ok (.ireturn, 1) := by decide +kernel
theorem dX14_goTo_0 : decode cX14_goTo 0 = .ok (.aload_n 0, 1) := by decide +kernel
theorem dX14_goTo_1 : decode cX14_goTo 1 = .ok (.getfield 164, 3) := by decide +kernel
theorem dX14_goTo_4 : decode cX14_goTo 4 = .ok (.aload_n 0, 1) := by decide +kernel
theorem dX14_goTo_5 : decode cX14_goTo 5 = .ok (.getfield 974, 3) := by decide +kernel
theorem dX14_goTo_8 : decode cX14_goTo 8 = .ok (.iconst 1, 1) := by decide +kernel
theorem dX14_goTo_9 : decode cX14_goTo 9 = .ok (.isub, 1) := by decide +kernel
theorem dX14_goTo_10 : decode cX14_goTo 10 = .ok (.iload_n 1, 1) := by decide +kernel
theorem dX14_goTo_11 : decode cX14_goTo 11 = .ok (.iastore, 1) := by decide +kernel
theorem dX14_goTo_12 : decode cX14_goTo 12 = .ok (.return_, 1) := by decide +kernel
theorem dX14_goesOn_0 : decode cX14_goesOn 0 = .ok (.iload_n 0, 1) := by decide +kernel
theorem dX14_goesOn_1 : decode cX14_goesOn 1 = .ok (.sipush 167, 3) := by decide +kernel
theorem dX14_goesOn_4 : decode cX14_goesOn 4 = .ok (.if_icmp .eq 56, 3) := by decide +kernel
theorem dX14_goesOn_7 : decode cX14_goesOn 7 = .ok (.iload_n 0, 1) := by decide +kernel
theorem dX14_goesOn_8 : decode cX14_goesOn 8 = .ok (.sipush 170, 3) := by decide +kernel
theorem dX14_goesOn_11 : decode cX14_goesOn 11 = .ok (.if_icmp .eq 49, 3) := by decide +kernel
theorem dX14_goesOn_14 : decode cX14_goesOn 14 = .ok (.iload_n 0, 1) := by decide +kernel
theorem dX14_goesOn_15 : decode cX14_goesOn 15 = .ok (.sipush 171, 3) := by decide +kernel
theorem dX14_goesOn_18 : decode cX14_goesOn 18 = .ok (.if_icmp .eq 42, 3) := by decide +kernel
theorem dX14_goesOn_21 : decode cX14_goesOn 21 = .ok (.iload_n 0, 1) := by decide +kernel
theorem dX14_goesOn_22 : decode cX14_goesOn 22 = .ok (.sipush 172, 3) := by decide +kernel
theorem dX14_goesOn_25 : decode cX14_goesOn 25 = .ok (.if_icmp .eq 35, 3) := by decide +kernel
theorem dX14_goesOn_28 : decode cX14_goesOn 28 = .ok (.iload_n 0, 1) := by decide +kernel
theorem dX14_goesOn_29 : decode cX14_goesOn 29 = .ok (.sipush 173, 3) := by decide +kernel
theorem dX14_goesOn_32 : decode cX14_goesOn 32 = .ok (.if_icmp .eq 28, 3) := by decide +kernel
theorem dX14_goesOn_35 : decode cX14_goesOn 35 = .ok (.iload_n 0, 1) := by decide +kernel
theorem dX14_goesOn_36 : decode cX14_goesOn 36 = .ok (.sipush 176, 3) := by decide +kernel
theorem dX14_goesOn_39 : decode cX14_goesOn 39 = .ok (.if_icmp .eq 21, 3) := by decide +kernel
theorem dX14_goesOn_42 : decode cX14_goesOn 42 = .ok (.iload_n 0, 1) := by decide +kernel
theorem dX14_goesOn_43 : decode cX14_goesOn 43 = .ok (.sipush 177, 3) := by decide +kernel
theorem dX14_goesOn_46 : decode cX14_goesOn 46 = .ok (.if_icmp .eq 14, 3) := by decide +kernel
theorem dX14_goesOn_49 : decode cX14_goesOn 49 = .ok (.iload_n 0, 1) := by decide +kernel
theorem dX14_goesOn_50 : decode cX14_goesOn 50 = .ok (.sipush 191, 3) := by decide +kernel
theorem dX14_goesOn_53 : decode cX14_goesOn 53 = .ok (.if_icmp .eq 7, 3) := by decide +kernel
theorem dX14_goesOn_56 : decode cX14_goesOn 56 = .ok (.iconst 1, 1) := by decide +kernel
theorem dX14_goesOn_57 : decode cX14_goesOn 57 = .ok (.goto 4, 3) := by decide +kernel
theorem dX14_goesOn_60 : decode cX14_goesOn 60 = .ok (.iconst 0, 1) := by decide +kernel
theorem dX14_goesOn_61 : decode cX14_goesOn 61 = .ok (.ireturn, 1) := by decide +kernel
theorem dX14_got_0 : decode cX14_got 0 = .ok (.aload_n 0, 1) := by decide +kernel
theorem dX14_got_1 : decode cX14_got 1 = .ok (.getfield 974, 3) := by decide +kernel
theorem dX14_got_4 : decode cX14_got 4 = .ok (.iconst 1, 1) := by decide +kernel
theorem dX14_got_5 : decode cX14_got 5 = .ok (.isub, 1) := by decide +kernel
theorem dX14_got_6 : decode cX14_got 6 = .ok (.istore_n 2, 1) := by decide +kernel
theorem dX14_got_7 : decode cX14_got 7 = .ok (.aload_n 0, 1) := by decide +kernel
theorem dX14_got_8 : decode cX14_got 8 = .ok (.getfield 167, 3) := by decide +kernel
theorem dX14_got_11 : decode cX14_got 11 = .ok (.iload_n 2, 1) := by decide +kernel
theorem dX14_got_12 : decode cX14_got 12 = .ok (.dup2, 1) := by decide +kernel
theorem dX14_got_13 : decode cX14_got 13 = .ok (.iaload, 1) := by decide +kernel
theorem dX14_got_14 : decode cX14_got 14 = .ok (.iload_n 1, 1) := by decide +kernel
theorem dX14_got_15 : decode cX14_got 15 = .ok (.isub, 1) := by decide +kernel
theorem dX14_got_16 : decode cX14_got 16 = .ok (.iastore, 1) := by decide +kernel
theorem dX14_got_17 : decode cX14_got 17 = .ok (.aload_n 0, 1) := by decide +kernel
theorem dX14_got_18 : decode cX14_got 18 = .ok (.getfield 173, 3) := by decide +kernel
theorem dX14_got_21 : decode cX14_got 21 = .ok (.bipush 24, 2) := by decide +kernel
theorem dX14_got_23 : decode cX14_got 23 = .ok (.iload_n 2, 1) := by decide +kernel
theorem dX14_got_24 : decode cX14_got 24 = .ok (.imul, 1) := by decide +kernel
theorem dX14_got_25 : decode cX14_got 25 = .ok (.aload_n 0, 1) := by decide +kernel
theorem dX14_got_26 : decode cX14_got 26 = .ok (.getfield 167, 3) := by decide +kernel
theorem dX14_got_29 : decode cX14_got 29 = .ok (.iload_n 2, 1) := by decide +kernel
theorem dX14_got_30 : decode cX14_got 30 = .ok (.iaload, 1) := by decide +kernel
theorem dX14_got_31 : decode cX14_got 31 = .ok (.iadd, 1) := by decide +kernel
theorem dX14_got_32 : decode cX14_got 32 = .ok (.laload, 1) := by decide +kernel
theorem dX14_got_33 : decode cX14_got 33 = .ok (.lreturn, 1) := by decide +kernel
theorem dX14_gotInt_0 : decode cX14_gotInt 0 = .ok (.aload_n 0, 1) := by decide +kernel
theorem dX14_gotInt_1 : decode cX14_gotInt 1 = .ok (.iconst 1, 1) := by decide +kernel
theorem dX14_gotInt_2 : decode cX14_gotInt 2 = .ok (.invokevirtual 1000, 3) := by decide +kernel
theorem dX14_gotInt_5 : decode cX14_gotInt 5 = .ok (.l2i, 1) := by decide +kernel
theorem dX14_gotInt_6 : decode cX14_gotInt 6 = .ok (.ireturn, 1) := by decide +kernel
theorem dX14_graph_0 : decode cX14_graph 0 = .ok (.aload_n 0, 1) := by decide +kernel
theorem dX14_graph_1 : decode cX14_graph 1 = .ok (.getfield 191, 3) := by decide +kernel
theorem dX14_graph_4 : decode cX14_graph 4 = .ok (.iload_n 1, 1) := by decide +kernel
theorem dX14_graph_5 : decode cX14_graph 5 = .ok (.if_icmp .ne 12, 3) := by decide +kernel
theorem dX14_graph_8 : decode cX14_graph 8 = .ok (.aload_n 0, 1) := by decide +kernel
theorem dX14_graph_9 : decode cX14_graph 9 = .ok (.getfield 1115, 3) := by decide +kernel
theorem dX14_graph_12 : decode cX14_graph 12 = .ok (.iload_n 2, 1) := by decide +kernel
theorem dX14_graph_13 : decode cX14_graph 13 = .ok (.if_icmp .ne 4, 3) := by decide +kernel
theorem dX14_graph_16 : decode cX14_graph 16 = .ok (.return_, 1) := by decide +kernel
theorem dX14_graph_17 : decode cX14_graph 17 = .ok (.aload_n 0, 1) := by decide +kernel
theorem dX14_graph_18 : decode cX14_graph 18 = .ok (.aload_n 0, 1) := by decide +kernel
theorem dX14_graph_19 : decode cX14_graph 19 = .ok (.getfield 11, 3) := by decide +kernel
theorem dX14_graph_22 : decode cX14_graph 22 = .ok (.iload_n 1, 1) := by decide +kernel
theorem dX14_graph_23 : decode cX14_graph 23 = .ok (.aaload, 1) := by decide +kernel
theorem dX14_graph_24 : decode cX14_graph 24 = .ok (.iload_n 2, 1) := by decide +kernel
theorem dX14_graph_25 : decode cX14_graph 25 = .ok (.invokevirtual 1118, 3) := by decide +kernel
theorem dX14_graph_28 : decode cX14_graph 28 = .ok (.aload_n 0, 1) := by decide +kernel
theorem dX14_graph_29 : decode cX14_graph 29 = .ok (.invokevirtual 1121, 3) := by decide +kernel
theorem dX14_graph_32 : decode cX14_graph 32 = .ok (.aload_n 0, 1) := by decide +kernel
theorem dX14_graph_33 : decode cX14_graph 33 = .ok (.invokevirtual 1124, 3) := by decide +kernel
theorem dX14_graph_36 : decode cX14_graph 36 = .ok (.aload_n 0, 1) := by decide +kernel
theorem dX14_graph_37 : decode cX14_graph 37 = .ok (.iload_n 1, 1) := by decide +kernel
theorem dX14_graph_38 : decode cX14_graph 38 = .ok (.putfield 191, 3) := by decide +kernel
theorem dX14_graph_41 : decode cX14_graph 41 = .ok (.aload_n 0, 1) := by decide +kernel
theorem dX14_graph_42 : decode cX14_graph 42 = .ok (.iload_n 2, 1) := by decide +kernel
theorem dX14_graph_43 : decode cX14_graph 43 = .ok (.putfield 1115, 3) := by decide +kernel
theorem dX14_graph_46 : decode cX14_graph 46 = .ok (.return_, 1) := by decide +kernel
theorem dX14_grown_0 : decode cX14_grown 0 = .ok (.aload_n 0, 1) := by decide +kernel
theorem dX14_grown_1 : decode cX14_grown 1 = .ok (.iload_n 2, 1) := by decide +kernel
theorem dX14_grown_2 : decode cX14_grown 2 = .ok (.aload_n 0, 1) := by decide +kernel
theorem dX14_grown_3 : decode cX14_grown 3 = .ok (.getfield 469, 3) := by decide +kernel
theorem dX14_grown_6 : decode cX14_grown 6 = .ok (.if_icmp .ge 7, 3) := by decide +kernel
theorem dX14_grown_9 : decode cX14_grown 9 = .ok (.iconst 1, 1) := by decide +kernel
theorem dX14_grown_10 : decode cX14_grown 10 = .ok (.goto 4, 3) := by decide +kernel
theorem dX14_grown_13 : decode cX14_grown 13 = .ok (.iconst 0, 1) := by decide +kernel
theorem dX14_grown_14 : decode cX14_grown 14 = .ok (.iload_n 1, 1) := by decide +kernel
theorem dX14_grown_15 : decode cX14_grown 15 = .ok (.invokevirtual 465, 3) := by decide +kernel
theorem dX14_grown_18 : decode cX14_grown 18 = .ok (.aload_n 0, 1) := by decide +kernel
theorem dX14_grown_19 : decode cX14_grown 19 = .ok (.sipush 132, 3) := by decide +kernel
theorem dX14_grown_22 : decode cX14_grown 22 = .ok (.iload_n 2, 1) := by decide +kernel
theorem dX14_grown_23 : decode cX14_grown 23 = .ok (.iload_n 3, 1) := by decide +kernel
theorem dX14_grown_24 : decode cX14_grown 24 = .ok (.invokevirtual 472, 3) := by decide +kernel
theorem dX14_grown_27 : decode cX14_grown 27 = .ok (.return_, 1) := by decide +kernel
theorem dX14_hasCatch_0 : decode cX14_hasCatch 0 = .ok (.iconst 0, 1) := by decide +kernel
theorem dX14_hasCatch_1 : decode cX14_hasCatch 1 = .ok (.istore_n 2, 1) := by decide +kernel
theorem dX14_hasCatch_2 : decode cX14_hasCatch 2 = .ok (.iload_n 2, 1) := by decide +kernel
theorem dX14_hasCatch_3 : decode cX14_hasCatch 3 = .ok (.aload_n 0, 1) := by decide +kernel
theorem dX14_hasCatch_4 : decode cX14_hasCatch 4 = .ok (.getfield 679, 3) := by decide +kernel
theorem dX14_hasCatch_7 : decode cX14_hasCatch 7 = .ok (.if_icmp .ge 20, 3) := by decide +kernel
theorem dX14_hasCatch_10 : decode cX14_hasCatch 10 = .ok (.aload_n 0, 1) := by decide +kernel
theorem dX14_hasCatch_11 : decode cX14_hasCatch 11 = .ok (.iload_n 1, 1) := by decide +kernel
theorem dX14_hasCatch_12 : decode cX14_hasCatch 12 = .ok (.iload_n 2, 1) := by decide +kernel
theorem dX14_hasCatch_13 : decode cX14_hasCatch 13 = .ok (.invokevirtual 744, 3) := by decide +kernel
theorem dX14_hasCatch_16 : decode cX14_hasCatch 16 = .ok (.ifCond .eq 5, 3) := by decide +kernel
theorem dX14_hasCatch_19 : decode cX14_hasCatch 19 = .ok (.iconst 1, 1) := by decide +kernel
theorem dX14_hasCatch_20 : decode cX14_hasCatch 20 = .ok (.ireturn, 1) := by decide +kernel
theorem dX14_hasCatch_21 : decode cX14_hasCatch 21 = .ok (.iinc 2 1, 3) := by decide +kernel
theorem dX14_hasCatch_24 : decode cX14_hasCatch 24 = .ok (.goto (-22), 3) := by decide +kernel
theorem dX14_hasCatch_27 : decode cX14_hasCatch 27 = .ok (.iconst 0, 1) := by decide +kernel
theorem dX14_hasCatch_28 : decode cX14_hasCatch 28 = .ok (.ireturn, 1) := by decide +kernel
theorem dX14_headByte_0 : decode cX14_headByte 0 = .ok (.iload_n 0, 1) := by decide +kernel
theorem dX14_headByte_1 : decode cX14_headByte 1 = .ok (.ifCond .ne 9, 3) := by decide +kernel
theorem dX14_headByte_4 : decode cX14_headByte 4 = .ok (.sipush 202, 3) := by decide +kernel
theorem dX14_headByte_7 : decode cX14_headByte 7 = .ok (.goto 48, 3) := by decide +kernel
theorem dX14_headByte_10 : decode cX14_headByte 10 = .ok (.iload_n 0, 1) := by decide +kernel
theorem dX14_headByte_11 : decode cX14_headByte 11 = .ok (.iconst 1, 1) := by decide +kernel
theorem dX14_headByte_12 : decode cX14_headByte 12 = .ok (.if_icmp .ne 9, 3) := by decide +kernel
theorem dX14_headByte_15 : decode cX14_headByte 15 = .ok (.sipush 254, 3) := by decide +kernel
theorem dX14_headByte_18 : decode cX14_headByte 18 = .ok (.goto 37, 3) := by decide +kernel
theorem dX14_headByte_21 : decode cX14_headByte 21 = .ok (.iload_n 0, 1) := by decide +kernel
theorem dX14_headByte_22 : decode cX14_headByte 22 = .ok (.iconst 2, 1) := by decide +kernel
theorem dX14_headByte_23 : decode cX14_headByte 23 = .ok (.if_icmp .ne 9, 3) := by decide +kernel
theorem dX14_headByte_26 : decode cX14_headByte 26 = .ok (.sipush 186, 3) := by decide +kernel
theorem dX14_headByte_29 : decode cX14_headByte 29 = .ok (.goto 26, 3) := by decide +kernel
theorem dX14_headByte_32 : decode cX14_headByte 32 = .ok (.iload_n 0, 1) := by decide +kernel
theorem dX14_headByte_33 : decode cX14_headByte 33 = .ok (.iconst 3, 1) := by decide +kernel
theorem dX14_headByte_34 : decode cX14_headByte 34 = .ok (.if_icmp .ne 9, 3) := by decide +kernel
theorem dX14_headByte_37 : decode cX14_headByte 37 = .ok (.sipush 190, 3) := by decide +kernel
theorem dX14_headByte_40 : decode cX14_headByte 40 = .ok (.goto 15, 3) := by decide +kernel
theorem dX14_headByte_43 : decode cX14_headByte 43 = .ok (.iload_n 0, 1) := by decide +kernel
theorem dX14_headByte_44 : decode cX14_headByte 44 = .ok (.bipush 7, 2) := by decide +kernel
theorem dX14_headByte_46 : decode cX14_headByte 46 = .ok (.if_icmp .ne 8, 3) := by decide +kernel
theorem dX14_headByte_49 : decode cX14_headByte 49 = .ok (.bipush 49, 2) := by decide +kernel
theorem dX14_headByte_51 : decode cX14_headByte 51 = .ok (.goto 4, 3) := by decide +kernel
theorem dX14_headByte_54 : decode cX14_headByte 54 = .ok (.iconst 0, 1) := by decide +kernel
theorem dX14_headByte_55 : decode cX14_headByte 55 = .ok (.ireturn, 1) := by decide +kernel
theorem dX14_height_0 : decode cX14_height 0 = .ok (.aload_n 0, 1) := by decide +kernel
theorem dX14_height_1 : decode cX14_height 1 = .ok (.iload_n 1, 1) := by decide +kernel
theorem dX14_height_2 : decode cX14_height 2 = .ok (.iload_n 2, 1) := by decide +kernel
theorem dX14_height_3 : decode cX14_height 3 = .ok (.iload_n 3, 1) := by decide +kernel
theorem dX14_height_4 : decode cX14_height 4 = .ok (.invokevirtual 863, 3) := by decide +kernel
theorem dX14_height_7 : decode cX14_height 7 = .ok (.istore 4, 2) := by decide +kernel
theorem dX14_height_9 : decode cX14_height 9 = .ok (.iload 4, 2) := by decide +kernel
theorem dX14_height_11 : decode cX14_height 11 = .ok (.ifCond .ge 7, 3) := by decide +kernel
theorem dX14_height_14 : decode cX14_height 14 = .ok (.iconst (-1), 1) := by decide +kernel
theorem dX14_height_15 : decode cX14_height 15 = .ok (.goto 15, 3) := by decide +kernel
theorem dX14_height_18 : decode cX14_height 18 = .ok (.aload_n 0, 1) := by decide +kernel
theorem dX14_height_19 : decode cX14_height 19 = .ok (.getfield 11, 3) := by decide +kernel
theorem dX14_height_22 : decode cX14_height 22 = .ok (.iload_n 1, 1) := by decide +kernel
theorem dX14_height_23 : decode cX14_height 23 = .ok (.aaload, 1) := by decide +kernel
theorem dX14_height_24 : decode cX14_height 24 = .ok (.getfield 857, 3) := by decide +kernel
theorem dX14_height_27 : decode cX14_height 27 = .ok (.iload 4, 2) := by decide +kernel
theorem dX14_height_29 : decode cX14_height 29 = .ok (.iaload, 1) := by decide +kernel
theorem dX14_height_30 : decode cX14_height 30 = .ok (.ireturn, 1) := by decide +kernel
theorem dX14_heightAt_0 : decode cX14_heightAt 0 = .ok (.aload_n 0, 1) := by decide +kernel
theorem dX14_heightAt_1 : decode cX14_heightAt 1 = .ok (.getfield 88, 3) := by decide +kernel
theorem dX14_heightAt_4 : decode cX14_heightAt 4 = .ok (.iload_n 1, 1) := by decide +kernel
theorem dX14_heightAt_5 : decode cX14_heightAt 5 = .ok (.iaload, 1) := by decide +kernel
theorem dX14_heightAt_6 : decode cX14_heightAt 6 = .ok (.ifCond .eq 21, 3) := by decide +kernel
theorem dX14_heightAt_9 : decode cX14_heightAt 9 = .ok (.aload_n 0, 1) := by decide +kernel
theorem dX14_heightAt_10 : decode cX14_heightAt 10 = .ok (.getfield 88, 3) := by decide +kernel
theorem dX14_heightAt_13 : decode cX14_heightAt 13 = .ok (.iload_n 1, 1) := by decide +kernel
theorem dX14_heightAt_14 : decode cX14_heightAt 14 = .ok (.iaload, 1) := by decide +kernel
theorem dX14_heightAt_15 : decode cX14_heightAt 15 = .ok (.aload_n 0, 1) := by decide +kernel
theorem dX14_heightAt_16 : decode cX14_heightAt 16 = .ok (.getfield 88, 3) := by decide +kernel
theorem dX14_heightAt_19 : decode cX14_heightAt 19 = .ok (.iload_n 1, 1) := by decide +kernel
theorem dX14_heightAt_20 : decode cX14_heightAt 20 = .ok (.iaload, 1) := by decide +kernel
theorem dX14_heightAt_21 : decode cX14_heightAt 21 = .ok (.iconst 1, 1) := by decide +kernel
theorem dX14_heightAt_22 : decode cX14_heightAt 22 = .ok (.isub, 1) := by decide +kernel
theorem dX14_heightAt_23 : decode cX14_heightAt 23 = .ok (.iand, 1) := by decide +kernel
theorem dX14_heightAt_24 : decode cX14_heightAt 24 = .ok (.ifCond .eq 5, 3) := by decide +kernel
theorem dX14_heightAt_27 : decode cX14_heightAt 27 = .ok (.iconst (-1), 1) := by decide +kernel
theorem dX14_heightAt_28 : decode cX14_heightAt 28 = .ok (.ireturn, 1) := by decide +kernel
theorem dX14_heightAt_29 : decode cX14_heightAt 29 = .ok (.iconst 0, 1) := by decide +kernel
theorem dX14_heightAt_30 : decode cX14_heightAt 30 = .ok (.istore_n 2, 1) := by decide +kernel
theorem dX14_heightAt_31 : decode cX14_heightAt 31 = .ok (.aload_n 0, 1) := by decide +kernel
theorem dX14_heightAt_32 : decode cX14_heightAt 32 = .ok (.getfield 88, 3) := by decide +kernel
theorem dX14_heightAt_35 : decode cX14_heightAt 35 = .ok (.iload_n 1, 1) := by decide +kernel
theorem dX14_heightAt_36 : decode cX14_heightAt 36 = .ok (.iaload, 1) := by decide +kernel
theorem dX14_heightAt_37 : decode cX14_heightAt 37 = .ok (.iload_n 2, 1) := by decide +kernel
theorem dX14_heightAt_38 : decode cX14_heightAt 38 = .ok (.ishr, 1) := by decide +kernel
theorem dX14_heightAt_39 : decode cX14_heightAt 39 = .ok (.iconst 1, 1) := by decide +kernel
theorem dX14_heightAt_40 : decode cX14_heightAt 40 = .ok (.iand, 1) := by decide +kernel
theorem dX14_heightAt_41 : decode cX14_heightAt 41 = .ok (.ifCond .ne 9, 3) := by decide +kernel
theorem dX14_heightAt_44 : decode cX14_heightAt 44 = .ok (.iinc 2 1, 3) := by decide +kernel
theorem dX14_heightAt_47 : decode cX14_heightAt 47 = .ok (.goto (-16), 3) := by decide +kernel
theorem dX14_heightAt_50 : decode cX14_heightAt 50 = .ok (.iload_n 2, 1) := by decide +kernel
theorem dX14_heightAt_51 : decode cX14_heightAt 51 = .ok (.ireturn, 1) := by decide +kernel
theorem dX14_heightBehind_0 : decode cX14_heightBehind 0 = .ok (.aload_n 0, 1) := by decide +kernel
theorem dX14_heightBehind_1 : decode cX14_heightBehind 1 = .ok (.iload_n 1, 1) := by decide +kernel
theorem dX14_heightBehind_2 : decode cX14_heightBehind 2 = .ok (.invokevirtual 685, 3) := by decide +kernel
theorem dX14_heightBehind_5 : decode cX14_heightBehind 5 = .ok (.istore_n 3, 1) := by decide +kernel
theorem dX14_heightBehind_6 : decode cX14_heightBehind 6 = .ok (.iload_n 3, 1) := by decide +kernel
theorem dX14_heightBehind_7 : decode cX14_heightBehind 7 = .ok (.invokestatic 725, 3) := by decide +kernel
theorem dX14_heightBehind_10 : decode cX14_heightBehind 10 = .ok (.ifCond .le 10, 3) := by decide +kernel
theorem dX14_heightBehind_13 : decode cX14_heightBehind 13 = .ok (.iload_n 3, 1) := by decide +kernel
theorem dX14_heightBehind_14 : decode cX14_heightBehind 14 = .ok (.invokestatic 725, 3) := by decide +kernel
theorem dX14_heightBehind_17 : decode cX14_heightBehind 17 = .ok (.goto 11, 3) := by decide +kernel
theorem dX14_heightBehind_20 : decode cX14_heightBehind 20 = .ok (.aload_n 0, 1) := by decide +kernel
theorem dX14_heightBehind_21 : decode cX14_heightBehind 21 = .ok (.iload_n 1, 1) := by decide +kernel
theorem dX14_heightBehind_22 : decode cX14_heightBehind 22 = .ok (.invokevirtual 728, 3) := by decide +kernel
theorem dX14_heightBehind_25 : decode cX14_heightBehind 25 = .ok (.invokestatic 731, 3) := by decide +kernel
theorem dX14_heightBehind_28 : decode cX14_heightBehind 28 = .ok (.istore 4, 2) := by decide +kernel
theorem dX14_heightBehind_30 : decode cX14_heightBehind 30 = .ok (.iload 4, 2) := by decide +kernel
theorem dX14_heightBehind_32 : decode cX14_heightBehind 32 = .ok (.iload_n 2, 1) := by decide +kernel
theorem dX14_heightBehind_33 : decode cX14_heightBehind 33 = .ok (.if_icmp .le 5, 3) := by decide +kernel
theorem dX14_heightBehind_36 : decode cX14_heightBehind 36 = .ok (.iconst (-1), 1) := by decide +kernel
theorem dX14_heightBehind_37 : decode cX14_heightBehind 37 = .ok (.ireturn, 1) := by decide +kernel
theorem dX14_heightBehind_38 : decode cX14_heightBehind 38 = .ok (.iload_n 2, 1) := by decide +kernel
theorem dX14_heightBehind_39 : decode cX14_heightBehind 39 = .ok (.iload 4, 2) := by decide +kernel
theorem dX14_heightBehind_41 : decode cX14_heightBehind 41 = .ok (.isub, 1) := by decide +kernel
theorem dX14_heightBehind_42 : decode cX14_heightBehind 42 = .ok (.iload_n 3, 1) := by decide +kernel
theorem dX14_heightBehind_43 : decode cX14_heightBehind 43 = .ok (.invokestatic 725, 3) := by decide +kernel
theorem dX14_heightBehind_46 : decode cX14_heightBehind 46 = .ok (.ifCond .le 10, 3) := by decide +kernel
theorem dX14_heightBehind_49 : decode cX14_heightBehind 49 = .ok (.iload_n 3, 1) := by decide +kernel
theorem dX14_heightBehind_50 : decode cX14_heightBehind 50 = .ok (.invokestatic 734, 3) := by decide +kernel
theorem dX14_heightBehind_53 : decode cX14_heightBehind 53 = .ok (.goto 11, 3) := by decide +kernel
theorem dX14_heightBehind_56 : decode cX14_heightBehind 56 = .ok (.aload_n 0, 1) := by decide +kernel
theorem dX14_heightBehind_57 : decode cX14_heightBehind 57 = .ok (.iload_n 1, 1) := by decide +kernel
theorem dX14_heightBehind_58 : decode cX14_heightBehind 58 = .ok (.invokevirtual 737, 3) := by decide +kernel
theorem dX14_heightBehind_61 : decode cX14_heightBehind 61 = .ok (.invokestatic 731, 3) := by decide +kernel
theorem dX14_heightBehind_64 : decode cX14_heightBehind 64 = .ok (.iadd, 1) := by decide +kernel
theorem dX14_heightBehind_65 : decode cX14_heightBehind 65 = .ok (.ireturn, 1) := by decide +kernel
theorem dX14_here_0 : decode cX14_here 0 = .ok (.iload_n 1, 1) := by decide +kernel
theorem dX14_here_1 : decode cX14_here 1 = .ok (.istore_n 2, 1) := by decide +kernel
theorem dX14_here_2 : decode cX14_here 2 = .ok (.iload_n 2, 1) := by decide +kernel
theorem dX14_here_3 : decode cX14_here 3 = .ok (.aload_n 0, 1) := by decide +kernel
theorem dX14_here_4 : decode cX14_here 4 = .ok (.getfield 1130, 3) := by decide +kernel
theorem dX14_here_7 : decode cX14_here 7 = .ok (.if_icmp .ge 18, 3) := by decide +kernel
theorem dX14_here_10 : decode cX14_here 10 = .ok (.aload_n 0, 1) := by decide +kernel
theorem dX14_here_11 : decode cX14_here 11 = .ok (.getfield 249, 3) := by decide +kernel
theorem dX14_here_14 : decode cX14_here 14 = .ok (.iload_n 2, 1) := by decide +kernel
theorem dX14_here_15 : decode cX14_here 15 = .ok (.baload, 1) := by decide +kernel
theorem dX14_here_16 : decode cX14_here 16 = .ok (.ifCond .eq 9, 3) := by decide +kernel
theorem dX14_here_19 : decode cX14_here 19 = .ok (.iinc 2 1, 3) := by decide +kernel
theorem dX14_here_22 : decode cX14_here 22 = .ok (.goto (-20), 3) := by decide +kernel
theorem dX14_here_25 : decode cX14_here 25 = .ok (.iload_n 2, 1) := by decide +kernel
theorem dX14_here_26 : decode cX14_here 26 = .ok (.ireturn, 1) := by decide +kernel
theorem dX14_improve_0 : decode cX14_improve 0 = .ok (.aload_n 0, 1) := by decide +kernel
theorem dX14_improve_1 : decode cX14_improve 1 = .ok (.iload_n 1, 1) := by decide +kernel
theorem dX14_improve_2 : decode cX14_improve 2 = .ok (.invokevirtual 860, 3) := by decide +kernel
theorem dX14_improve_5 : decode cX14_improve 5 = .ok (.ifCond .eq 14, 3) := by decide +kernel
theorem dX14_improve_8 : decode cX14_improve 8 = .ok (.iload_n 2, 1) := by decide +kernel
theorem dX14_improve_9 : decode cX14_improve 9 = .ok (.ifCond .lt 10, 3) := by decide +kernel
theorem dX14_improve_12 : decode cX14_improve 12 = .ok (.iload_n 2, 1) := by decide +kernel
theorem dX14_improve_13 : decode cX14_improve 13 = .ok (.sipush 2047, 3) := by decide +kernel
theorem dX14_improve_16 : decode cX14_improve 16 = .ok (.if_icmp .le 5, 3) := by decide +kernel
theorem dX14_improve_19 : decode cX14_improve 19 = .ok (.iconst (-1), 1) := by decide +kernel
theorem dX14_improve_20 : decode cX14_improve 20 = .ok (.ireturn, 1) := by decide +kernel
theorem dX14_improve_21 : decode cX14_improve 21 = .ok (.aload_n 0, 1) := by decide +kernel
theorem dX14_improve_22 : decode cX14_improve 22 = .ok (.getfield 647, 3) := by decide +kernel
theorem dX14_improve_25 : decode cX14_improve 25 = .ok (.bipush 12, 2) := by decide +kernel
theorem dX14_improve_27 : decode cX14_improve 27 = .ok (.if_icmp .eq 12, 3) := by decide +kernel
theorem dX14_improve_30 : decode cX14_improve 30 = .ok (.aload_n 0, 1) := by decide +kernel
theorem dX14_improve_31 : decode cX14_improve 31 = .ok (.getfield 1264, 3) := by decide +kernel
theorem dX14_improve_34 : decode cX14_improve 34 = .ok (.bipush 16, 2) := by decide +kernel
theorem dX14_improve_36 : decode cX14_improve 36 = .ok (.if_icmp .ne 6, 3) := by decide +kernel
theorem dX14_improve_39 : decode cX14_improve 39 = .ok (.bipush (-2), 2) := by decide +kernel
theorem dX14_improve_41 : decode cX14_improve 41 = .ok (.ireturn, 1) := by decide +kernel
theorem dX14_improve_42 : decode cX14_improve 42 = .ok (.aload_n 0, 1) := by decide +kernel
theorem dX14_improve_43 : decode cX14_improve 43 = .ok (.dup, 1) := by decide +kernel
theorem dX14_improve_44 : decode cX14_improve 44 = .ok (.getfield 1264, 3) := by decide +kernel
theorem dX14_improve_47 : decode cX14_improve 47 = .ok (.iconst 1, 1) := by decide +kernel
theorem dX14_improve_48 : decode cX14_improve 48 = .ok (.iadd, 1) := by decide +kernel
theorem dX14_improve_49 : decode cX14_improve 49 = .ok (.putfield 1264, 3) := by decide +kernel
theorem dX14_improve_52 : decode cX14_improve 52 = .ok (.iconst 0, 1) := by decide +kernel
theorem dX14_improve_53 : decode cX14_improve 53 = .ok (.istore_n 3, 1) := by decide +kernel
theorem dX14_improve_54 : decode cX14_improve 54 = .ok (.iload_n 3, 1) := by decide +kernel
theorem dX14_improve_55 : decode cX14_improve 55 = .ok (.bipush 11, 2) := by decide +kernel
theorem dX14_improve_57 : decode cX14_improve 57 = .ok (.if_icmp .gt 16, 3) := by decide +kernel
theorem dX14_improve_60 : decode cX14_improve 60 = .ok (.aload_n 0, 1) := by decide +kernel
theorem dX14_improve_61 : decode cX14_improve 61 = .ok (.getfield 237, 3) := by decide +kernel
theorem dX14_improve_64 : decode cX14_improve 64 = .ok (.iload_n 3, 1) := by decide +kernel
theorem dX14_improve_65 : decode cX14_improve 65 = .ok (.iconst 0, 1) := by decide +kernel
theorem dX14_improve_66 : decode cX14_improve 66 = .ok (.iastore, 1) := by decide +kernel
theorem dX14_improve_67 : decode cX14_improve 67 = .ok (.iinc 3 1, 3) := by decide +kernel
theorem dX14_improve_70 : decode cX14_improve 70 = .ok (.goto (-16), 3) := by decide +kernel
theorem dX14_improve_73 : decode cX14_improve 73 = .ok (.aload_n 0, 1) := by decide +kernel
theorem dX14_improve_74 : decode cX14_improve 74 = .ok (.getfield 11, 3) := by decide +kernel
theorem dX14_improve_77 : decode cX14_improve 77 = .ok (.iload_n 1, 1) := by decide +kernel
theorem dX14_improve_78 : decode cX14_improve 78 = .ok (.aaload, 1) := by decide +kernel
theorem dX14_improve_79 : decode cX14_improve 79 = .ok (.astore_n 3, 1) := by decide +kernel
theorem dX14_improve_80 : decode cX14_improve 80 = .ok (.aload_n 0, 1) := by decide +kernel
theorem dX14_improve_81 : decode cX14_improve 81 = .ok (.aload_n 3, 1) := by decide +kernel
theorem dX14_improve_82 : decode cX14_improve 82 = .ok (.invokevirtual 1266, 3) := by decide +kernel
theorem dX14_improve_85 : decode cX14_improve 85 = .ok (.iconst 0, 1) := by decide +kernel
theorem dX14_improve_86 : decode cX14_improve 86 = .ok (.istore 4, 2) := by decide +kernel
theorem dX14_improve_88 : decode cX14_improve 88 = .ok (.iload 4, 2) := by decide +kernel
theorem dX14_improve_90 : decode cX14_improve 90 = .ok (.aload_n 3, 1) := by decide +kernel
theorem dX14_improve_91 : decode cX14_improve 91 = .ok (.getfield 597, 3) := by decide +kernel
theorem dX14_improve_94 : decode cX14_improve 94 = .ok (.if_icmp .ge 32, 3) := by decide +kernel
theorem dX14_improve_97 : decode cX14_improve 97 = .ok (.aload_n 0, 1) := by decide +kernel
theorem dX14_improve_98 : decode cX14_improve 98 = .ok (.aload_n 3, 1) := by decide +kernel
theorem dX14_improve_99 : decode cX14_improve 99 = .ok (.iload 4, 2) := by decide +kernel
theorem dX14_improve_101 : decode cX14_improve 101 = .ok (.invokevirtual 1269, 3) := by decide +kernel
theorem dX14_improve_104 : decode cX14_improve 104 = .ok (.aload_n 0, 1) := by decide +kernel
theorem dX14_improve_105 : decode cX14_improve 105 = .ok (.iload_n 2, 1) := by decide +kernel
theorem dX14_improve_106 : decode cX14_improve 106 = .ok (.invokevirtual 1272, 3) := by decide +kernel
theorem dX14_improve_109 : decode cX14_improve 109 = .ok (.aload_n 0, 1) := by decide +kernel
theorem dX14_improve_110 : decode cX14_improve 110 = .ok (.invokevirtual 1148, 3) := by decide +kernel
theorem dX14_improve_113 : decode cX14_improve 113 = .ok (.aload_n 0, 1) := by decide +kernel
theorem dX14_improve_114 : decode cX14_improve 114 = .ok (.iload 4, 2) := by decide +kernel
theorem dX14_improve_116 : decode cX14_improve 116 = .ok (.iconst (-1), 1) := by decide +kernel
theorem dX14_improve_117 : decode cX14_improve 117 = .ok (.invokevirtual 1275, 3) := by decide +kernel
theorem dX14_improve_120 : decode cX14_improve 120 = .ok (.iinc 4 1, 3) := by decide +kernel
theorem dX14_improve_123 : decode cX14_improve 123 = .ok (.goto (-35), 3) := by decide +kernel
theorem dX14_improve_126 : decode cX14_improve 126 = .ok (.aload_n 0, 1) := by decide +kernel
theorem dX14_improve_127 : decode cX14_improve 127 = .ok (.invokevirtual 1278, 3) := by decide +kernel
theorem dX14_improve_130 : decode cX14_improve 130 = .ok (.ireturn, 1) := by decide +kernel
theorem dX14_instruction_0 : decode cX14_instruction 0 = .ok (.aload_n 0, 1) := by decide +kernel
theorem dX14_instruction_1 : decode cX14_instruction 1 = .ok (.iload_n 1, 1) := by decide +kernel
theorem dX14_instruction_2 : decode cX14_instruction 2 = .ok (.invokevirtual 430, 3) := by decide +kernel
theorem dX14_instruction_5 : decode cX14_instruction 5 = .ok (.istore_n 2, 1) := by decide +kernel
theorem dX14_instruction_6 : decode cX14_instruction 6 = .ok (.iload_n 2, 1) := by decide +kernel
theorem dX14_instruction_7 : decode cX14_instruction 7 = .ok (.iconst 2, 1) := by decide +kernel
theorem dX14_instruction_8 : decode cX14_instruction 8 = .ok (.if_icmp .lt 22, 3) := by decide +kernel
theorem dX14_instruction_11 : decode cX14_instruction 11 = .ok (.iload_n 2, 1) := by decide +kernel
theorem dX14_instruction_12 : decode cX14_instruction 12 = .ok (.bipush 8, 2) := by decide +kernel
theorem dX14_instruction_14 : decode cX14_instruction 14 = .ok (.if_icmp .gt 16, 3) := by decide +kernel
theorem dX14_instruction_17 : decode cX14_instruction 17 = .ok (.aload_n 0, 1) := by decide +kernel
theorem dX14_instruction_18 : decode cX14_instruction 18 = .ok (.bipush 18, 2) := by decide +kernel
theorem dX14_instruction_20 : decode cX14_instruction 20 = .ok (.iload_n 2, 1) := by decide +kernel
theorem dX14_instruction_21 : decode cX14_instruction 21 = .ok (.iconst 3, 1) := by decide +kernel
theorem dX14_instruction_22 : decode cX14_instruction 22 = .ok (.isub, 1) := by decide +kernel
theorem dX14_instruction_23 : decode cX14_instruction 23 = .ok (.iconst 0, 1) := by decide +kernel
theorem dX14_instruction_24 : decode cX14_instruction 24 = .ok (.invokevirtual 472, 3) := by decide +kernel
theorem dX14_instruction_27 : decode cX14_instruction 27 = .ok (.goto 556, 3) := by decide +kernel
theorem dX14_instruction_30 : decode cX14_instruction 30 = .ok (.iload_n 2, 1) := by decide +kernel
theorem dX14_instruction_31 : decode cX14_instruction 31 = .ok (.bipush 9, 2) := by decide +kernel
theorem dX14_instruction_33 : decode cX14_instruction 33 = .ok (.if_icmp .eq 9, 3) := by decide +kernel
theorem dX14_instruction_36 : decode cX14_instruction 36 = .ok (.iload_n 2, 1) := by decide +kernel
theorem dX14_instruction_37 : decode cX14_instruction 37 = .ok (.bipush 10, 2) := by decide +kernel
theorem dX14_instruction_39 : decode cX14_instruction 39 = .ok (.if_icmp .ne 17, 3) := by decide +kernel
theorem dX14_instruction_42 : decode cX14_instruction 42 = .ok (.aload_n 0, 1) := by decide +kernel
theorem dX14_instruction_43 : decode cX14_instruction 43 = .ok (.bipush 20, 2) := by decide +kernel
theorem dX14_instruction_45 : decode cX14_instruction 45 = .ok (.iconst 0, 1) := by decide +kernel
theorem dX14_instruction_46 : decode cX14_instruction 46 = .ok (.iload_n 2, 1) := by decide +kernel
theorem dX14_instruction_47 : decode cX14_instruction 47 = .ok (.bipush 9, 2) := by decide +kernel
theorem dX14_instruction_49 : decode cX14_instruction 49 = .ok (.isub, 1) := by decide +kernel
theorem dX14_instruction_50 : decode cX14_instruction 50 = .ok (.invokevirtual 472, 3) := by decide +kernel
theorem dX14_instruction_53 : decode cX14_instruction 53 = .ok (.goto 530, 3) := by decide +kernel
theorem dX14_instruction_56 : decode cX14_instruction 56 = .ok (.iload_n 2, 1) := by decide +kernel
theorem dX14_instruction_57 : decode cX14_instruction 57 = .ok (.bipush 16, 2) := by decide +kernel
theorem dX14_instruction_59 : decode cX14_instruction 59 = .ok (.if_icmp .ne 26, 3) := by decide +kernel
theorem dX14_instruction_62 : decode cX14_instruction 62 = .ok (.aload_n 0, 1) := by decide +kernel
theorem dX14_instruction_63 : decode cX14_instruction 63 = .ok (.bipush 18, 2) := by decide +kernel
theorem dX14_instruction_65 : decode cX14_instruction 65 = .ok (.aload_n 0, 1) := by decide +kernel
theorem dX14_instruction_66 : decode cX14_instruction 66 = .ok (.getfield 309, 3) := by decide +kernel
theorem dX14_instruction_69 : decode cX14_instruction 69 = .ok (.aload_n 0, 1) := by decide +kernel
theorem dX14_instruction_70 : decode cX14_instruction 70 = .ok (.getfield 427, 3) := by decide +kernel
theorem dX14_instruction_73 : decode cX14_instruction 73 = .ok (.iload_n 1, 1) := by decide +kernel
theorem dX14_instruction_74 : decode cX14_instruction 74 = .ok (.iadd, 1) := by decide +kernel
theorem dX14_instruction_75 : decode cX14_instruction 75 = .ok (.iconst 1, 1) := by decide +kernel
theorem dX14_instruction_76 : decode cX14_instruction 76 = .ok (.iadd, 1) := by decide +kernel
theorem dX14_instruction_77 : decode cX14_instruction 77 = .ok (.baload, 1) := by decide +kernel
theorem dX14_instruction_78 : decode cX14_instruction 78 = .ok (.iconst 0, 1) := by decide +kernel
theorem dX14_instruction_79 : decode cX14_instruction 79 = .ok (.invokevirtual 472, 3) := by decide +kernel
theorem dX14_instruction_82 : decode cX14_instruction 82 = .ok (.goto 501, 3) := by decide +kernel
theorem dX14_instruction_85 : decode cX14_instruction 85 = .ok (.iload_n 2, 1) := by decide +kernel
theorem dX14_instruction_86 : decode cX14_instruction 86 = .ok (.bipush 17, 2) := by decide +kernel
theorem dX14_instruction_88 : decode cX14_instruction 88 = .ok (.if_icmp .ne 20, 3) := by decide +kernel
theorem dX14_instruction_91 : decode cX14_instruction 91 = .ok (.aload_n 0, 1) := by decide +kernel
theorem dX14_instruction_92 : decode cX14_instruction 92 = .ok (.bipush 18, 2) := by decide +kernel
theorem dX14_instruction_94 : decode cX14_instruction 94 = .ok (.aload_n 0, 1) := by decide +kernel
theorem dX14_instruction_95 : decode cX14_instruction 95 = .ok (.iload_n 1, 1) := by decide +kernel
theorem dX14_instruction_96 : decode cX14_instruction 96 = .ok (.iconst 1, 1) := by decide +kernel
theorem dX14_instruction_97 : decode cX14_instruction 97 = .ok (.iadd, 1) := by decide +kernel
theorem dX14_instruction_98 : decode cX14_instruction 98 = .ok (.invokevirtual 476, 3) := by decide +kernel
theorem dX14_instruction_101 : decode cX14_instruction 101 = .ok (.iconst 0, 1) := by decide +kernel
theorem dX14_instruction_102 : decode cX14_instruction 102 = .ok (.invokevirtual 472, 3) := by decide +kernel
theorem dX14_instruction_105 : decode cX14_instruction 105 = .ok (.goto 478, 3) := by decide +kernel
theorem dX14_instruction_108 : decode cX14_instruction 108 = .ok (.iload_n 2, 1) := by decide +kernel
theorem dX14_instruction_109 : decode cX14_instruction 109 = .ok (.bipush 18, 2) := by decide +kernel
theorem dX14_instruction_111 : decode cX14_instruction 111 = .ok (.if_icmp .eq 9, 3) := by decide +kernel
theorem dX14_instruction_114 : decode cX14_instruction 114 = .ok (.iload_n 2, 1) := by decide +kernel
theorem dX14_instruction_115 : decode cX14_instruction 115 = .ok (.bipush 19, 2) := by decide +kernel
theorem dX14_instruction_117 : decode cX14_instruction 117 = .ok (.if_icmp .ne 39, 3) := by decide +kernel
theorem dX14_instruction_120 : decode cX14_instruction 120 = .ok (.aload_n 0, 1) := by decide +kernel
theorem dX14_instruction_121 : decode cX14_instruction 121 = .ok (.iload_n 1, 1) := by decide +kernel
theorem dX14_instruction_122 : decode cX14_instruction 122 = .ok (.iload_n 2, 1) := by decide +kernel
theorem dX14_instruction_123 : decode cX14_instruction 123 = .ok (.bipush 18, 2) := by decide +kernel
theorem dX14_instruction_125 : decode cX14_instruction 125 = .ok (.if_icmp .ne 13, 3) := by decide +kernel
theorem dX14_instruction_128 : decode cX14_instruction 128 = .ok (.aload_n 0, 1) := by decide +kernel
theorem dX14_instruction_129 : decode cX14_instruction 129 = .ok (.iload_n 1, 1) := by decide +kernel
theorem dX14_instruction_130 : decode cX14_instruction 130 = .ok (.iconst 1, 1) := by decide +kernel
theorem dX14_instruction_131 : decode cX14_instruction 131 = .ok (.iadd, 1) := by decide +kernel
theorem dX14_instruction_132 : decode cX14_instruction 132 = .ok (.invokevirtual 430, 3) := by decide +kernel

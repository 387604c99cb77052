theorem dX12_count_73 : decode cX12_count 73 = .ok (.getfield 120, 3) := by decide +kernel
theorem dX12_count_76 : decode cX12_count 76 = .ok (.istore 4, 2) := by decide +kernel
theorem dX12_count_78 : decode cX12_count 78 = .ok (.iconst 0, 1) := by decide +kernel
theorem dX12_count_79 : decode cX12_count 79 = .ok (.istore 5, 2) := by decide +kernel
theorem dX12_count_81 : decode cX12_count 81 = .ok (.iload 5, 2) := by decide +kernel
theorem dX12_count_83 : decode cX12_count 83 = .ok (.aload_n 2, 1) := by decide +kernel
theorem dX12_count_84 : decode cX12_count 84 = .ok (.getfield 123, 3) := by decide +kernel
theorem dX12_count_87 : decode cX12_count 87 = .ok (.if_icmp .ge 67, 3) := by decide +kernel
theorem dX12_count_90 : decode cX12_count 90 = .ok (.aload_n 2, 1) := by decide +kernel
theorem dX12_count_91 : decode cX12_count 91 = .ok (.iload 5, 2) := by decide +kernel
theorem dX12_count_93 : decode cX12_count 93 = .ok (.invokevirtual 144, 3) := by decide +kernel
theorem dX12_count_96 : decode cX12_count 96 = .ok (.astore 6, 2) := by decide +kernel
theorem dX12_count_98 : decode cX12_count 98 = .ok (.aload_n 0, 1) := by decide +kernel
theorem dX12_count_99 : decode cX12_count 99 = .ok (.getfield 59, 3) := by decide +kernel
theorem dX12_count_102 : decode cX12_count 102 = .ok (.aload 6, 2) := by decide +kernel
theorem dX12_count_104 : decode cX12_count 104 = .ok (.invokevirtual 215, 3) := by decide +kernel
theorem dX12_count_107 : decode cX12_count 107 = .ok (.aload_n 0, 1) := by decide +kernel
theorem dX12_count_108 : decode cX12_count 108 = .ok (.getfield 66, 3) := by decide +kernel
theorem dX12_count_111 : decode cX12_count 111 = .ok (.aload 6, 2) := by decide +kernel
theorem dX12_count_113 : decode cX12_count 113 = .ok (.aload_n 0, 1) := by decide +kernel
theorem dX12_count_114 : decode cX12_count 114 = .ok (.getfield 59, 3) := by decide +kernel
theorem dX12_count_117 : decode cX12_count 117 = .ok (.iload 4, 2) := by decide +kernel
theorem dX12_count_119 : decode cX12_count 119 = .ok (.invokevirtual 251, 3) := by decide +kernel
theorem dX12_count_122 : decode cX12_count 122 = .ok (.iload 4, 2) := by decide +kernel
theorem dX12_count_124 : decode cX12_count 124 = .ok (.aload_n 0, 1) := by decide +kernel
theorem dX12_count_125 : decode cX12_count 125 = .ok (.getfield 59, 3) := by decide +kernel
theorem dX12_count_128 : decode cX12_count 128 = .ok (.invokevirtual 255, 3) := by decide +kernel
theorem dX12_count_131 : decode cX12_count 131 = .ok (.iadd, 1) := by decide +kernel
theorem dX12_count_132 : decode cX12_count 132 = .ok (.istore 4, 2) := by decide +kernel
theorem dX12_count_134 : decode cX12_count 134 = .ok (.aload_n 0, 1) := by decide +kernel
theorem dX12_count_135 : decode cX12_count 135 = .ok (.getfield 45, 3) := by decide +kernel
theorem dX12_count_138 : decode cX12_count 138 = .ok (.aload_n 0, 1) := by decide +kernel
theorem dX12_count_139 : decode cX12_count 139 = .ok (.getfield 66, 3) := by decide +kernel
theorem dX12_count_142 : decode cX12_count 142 = .ok (.getfield 236, 3) := by decide +kernel
theorem dX12_count_145 : decode cX12_count 145 = .ok (.invokevirtual 167, 3) := by decide +kernel
theorem dX12_count_148 : decode cX12_count 148 = .ok (.iinc 5 1, 3) := by decide +kernel
theorem dX12_count_151 : decode cX12_count 151 = .ok (.goto (-70), 3) := by decide +kernel
theorem dX12_count_154 : decode cX12_count 154 = .ok (.aload_n 0, 1) := by decide +kernel
theorem dX12_count_155 : decode cX12_count 155 = .ok (.getfield 45, 3) := by decide +kernel
theorem dX12_count_158 : decode cX12_count 158 = .ok (.invokevirtual 240, 3) := by decide +kernel
theorem dX12_count_161 : decode cX12_count 161 = .ok (.ifCond .ne 6, 3) := by decide +kernel
theorem dX12_count_164 : decode cX12_count 164 = .ok (.bipush (-3), 2) := by decide +kernel
theorem dX12_count_166 : decode cX12_count 166 = .ok (.ireturn, 1) := by decide +kernel
theorem dX12_count_167 : decode cX12_count 167 = .ok (.aload_n 0, 1) := by decide +kernel
theorem dX12_count_168 : decode cX12_count 168 = .ok (.getfield 45, 3) := by decide +kernel
theorem dX12_count_171 : decode cX12_count 171 = .ok (.aload_n 0, 1) := by decide +kernel
theorem dX12_count_172 : decode cX12_count 172 = .ok (.getfield 19, 3) := by decide +kernel
theorem dX12_count_175 : decode cX12_count 175 = .ok (.invokevirtual 171, 3) := by decide +kernel
theorem dX12_count_178 : decode cX12_count 178 = .ok (.aload_n 0, 1) := by decide +kernel
theorem dX12_count_179 : decode cX12_count 179 = .ok (.aload_n 0, 1) := by decide +kernel
theorem dX12_count_180 : decode cX12_count 180 = .ok (.getfield 31, 3) := by decide +kernel
theorem dX12_count_183 : decode cX12_count 183 = .ok (.aload_n 0, 1) := by decide +kernel
theorem dX12_count_184 : decode cX12_count 184 = .ok (.getfield 19, 3) := by decide +kernel
theorem dX12_count_187 : decode cX12_count 187 = .ok (.invokevirtual 97, 3) := by decide +kernel
theorem dX12_count_190 : decode cX12_count 190 = .ok (.bipush (-3), 2) := by decide +kernel
theorem dX12_count_192 : decode cX12_count 192 = .ok (.invokevirtual 112, 3) := by decide +kernel
theorem dX12_count_195 : decode cX12_count 195 = .ok (.ireturn, 1) := by decide +kernel
theorem dX12_countersOf_0 : decode cX12_countersOf 0 = .ok (.iconst 0, 1) := by decide +kernel
theorem dX12_countersOf_1 : decode cX12_countersOf 1 = .ok (.istore_n 2, 1) := by decide +kernel
theorem dX12_countersOf_2 : decode cX12_countersOf 2 = .ok (.iconst 0, 1) := by decide +kernel
theorem dX12_countersOf_3 : decode cX12_countersOf 3 = .ok (.istore_n 3, 1) := by decide +kernel
theorem dX12_countersOf_4 : decode cX12_countersOf 4 = .ok (.iload_n 3, 1) := by decide +kernel
theorem dX12_countersOf_5 : decode cX12_countersOf 5 = .ok (.aload_n 1, 1) := by decide +kernel
theorem dX12_countersOf_6 : decode cX12_countersOf 6 = .ok (.getfield 123, 3) := by decide +kernel
theorem dX12_countersOf_9 : decode cX12_countersOf 9 = .ok (.if_icmp .ge 31, 3) := by decide +kernel
theorem dX12_countersOf_12 : decode cX12_countersOf 12 = .ok (.aload_n 0, 1) := by decide +kernel
theorem dX12_countersOf_13 : decode cX12_countersOf 13 = .ok (.getfield 59, 3) := by decide +kernel
theorem dX12_countersOf_16 : decode cX12_countersOf 16 = .ok (.aload_n 1, 1) := by decide +kernel
theorem dX12_countersOf_17 : decode cX12_countersOf 17 = .ok (.iload_n 3, 1) := by decide +kernel
theorem dX12_countersOf_18 : decode cX12_countersOf 18 = .ok (.invokevirtual 144, 3) := by decide +kernel
theorem dX12_countersOf_21 : decode cX12_countersOf 21 = .ok (.invokevirtual 215, 3) := by decide +kernel
theorem dX12_countersOf_24 : decode cX12_countersOf 24 = .ok (.iload_n 2, 1) := by decide +kernel
theorem dX12_countersOf_25 : decode cX12_countersOf 25 = .ok (.aload_n 0, 1) := by decide +kernel
theorem dX12_countersOf_26 : decode cX12_countersOf 26 = .ok (.getfield 59, 3) := by decide +kernel
theorem dX12_countersOf_29 : decode cX12_countersOf 29 = .ok (.invokevirtual 255, 3) := by decide +kernel
theorem dX12_countersOf_32 : decode cX12_countersOf 32 = .ok (.iadd, 1) := by decide +kernel
theorem dX12_countersOf_33 : decode cX12_countersOf 33 = .ok (.istore_n 2, 1) := by decide +kernel
theorem dX12_countersOf_34 : decode cX12_countersOf 34 = .ok (.iinc 3 1, 3) := by decide +kernel
theorem dX12_countersOf_37 : decode cX12_countersOf 37 = .ok (.goto (-33), 3) := by decide +kernel
theorem dX12_countersOf_40 : decode cX12_countersOf 40 = .ok (.iload_n 2, 1) := by decide +kernel
theorem dX12_countersOf_41 : decode cX12_countersOf 41 = .ok (.ireturn, 1) := by decide +kernel
theorem dX12_edge_0 : decode cX12_edge 0 = .ok (.aload_n 0, 1) := by decide +kernel
theorem dX12_edge_1 : decode cX12_edge 1 = .ok (.iload_n 1, 1) := by decide +kernel
theorem dX12_edge_2 : decode cX12_edge 2 = .ok (.iload_n 2, 1) := by decide +kernel
theorem dX12_edge_3 : decode cX12_edge 3 = .ok (.invokevirtual 132, 3) := by decide +kernel
theorem dX12_edge_6 : decode cX12_edge 6 = .ok (.astore 5, 2) := by decide +kernel
theorem dX12_edge_8 : decode cX12_edge 8 = .ok (.aload 5, 2) := by decide +kernel
theorem dX12_edge_10 : decode cX12_edge 10 = .ok (.ifnonnull 5, 3) := by decide +kernel
theorem dX12_edge_13 : decode cX12_edge 13 = .ok (.iconst 0, 1) := by decide +kernel
theorem dX12_edge_14 : decode cX12_edge 14 = .ok (.ireturn, 1) := by decide +kernel
theorem dX12_edge_15 : decode cX12_edge 15 = .ok (.aload_n 0, 1) := by decide +kernel
theorem dX12_edge_16 : decode cX12_edge 16 = .ok (.getfield 59, 3) := by decide +kernel
theorem dX12_edge_19 : decode cX12_edge 19 = .ok (.aload 5, 2) := by decide +kernel
theorem dX12_edge_21 : decode cX12_edge 21 = .ok (.invokevirtual 215, 3) := by decide +kernel
theorem dX12_edge_24 : decode cX12_edge 24 = .ok (.aload_n 0, 1) := by decide +kernel
theorem dX12_edge_25 : decode cX12_edge 25 = .ok (.getfield 59, 3) := by decide +kernel
theorem dX12_edge_28 : decode cX12_edge 28 = .ok (.iload_n 3, 1) := by decide +kernel
theorem dX12_edge_29 : decode cX12_edge 29 = .ok (.iload 4, 2) := by decide +kernel
theorem dX12_edge_31 : decode cX12_edge 31 = .ok (.invokevirtual 222, 3) := by decide +kernel
theorem dX12_edge_34 : decode cX12_edge 34 = .ok (.ireturn, 1) := by decide +kernel
theorem dX12_element_0 : decode cX12_element 0 = .ok (.aload_n 0, 1) := by decide +kernel
theorem dX12_element_1 : decode cX12_element 1 = .ok (.getfield 52, 3) := by decide +kernel
theorem dX12_element_4 : decode cX12_element 4 = .ok (.iload_n 1, 1) := by decide +kernel
theorem dX12_element_5 : decode cX12_element 5 = .ok (.iload_n 2, 1) := by decide +kernel
theorem dX12_element_6 : decode cX12_element 6 = .ok (.invokevirtual 209, 3) := by decide +kernel
theorem dX12_element_9 : decode cX12_element 9 = .ok (.ireturn, 1) := by decide +kernel
theorem dX12_end_0 : decode cX12_end 0 = .ok (.iload_n 1, 1) := by decide +kernel
theorem dX12_end_1 : decode cX12_end 1 = .ok (.ifCond .lt 14, 3) := by decide +kernel
theorem dX12_end_4 : decode cX12_end 4 = .ok (.iload_n 1, 1) := by decide +kernel
theorem dX12_end_5 : decode cX12_end 5 = .ok (.aload_n 0, 1) := by decide +kernel
theorem dX12_end_6 : decode cX12_end 6 = .ok (.getfield 10, 3) := by decide +kernel
theorem dX12_end_9 : decode cX12_end 9 = .ok (.getfield 83, 3) := by decide +kernel
theorem dX12_end_12 : decode cX12_end 12 = .ok (.if_icmp .le 5, 3) := by decide +kernel
theorem dX12_end_15 : decode cX12_end 15 = .ok (.iconst 0, 1) := by decide +kernel
theorem dX12_end_16 : decode cX12_end 16 = .ok (.ireturn, 1) := by decide +kernel
theorem dX12_end_17 : decode cX12_end 17 = .ok (.aload_n 0, 1) := by decide +kernel
theorem dX12_end_18 : decode cX12_end 18 = .ok (.getfield 10, 3) := by decide +kernel
theorem dX12_end_21 : decode cX12_end 21 = .ok (.iload_n 1, 1) := by decide +kernel
theorem dX12_end_22 : decode cX12_end 22 = .ok (.putfield 83, 3) := by decide +kernel
theorem dX12_end_25 : decode cX12_end 25 = .ok (.iconst 1, 1) := by decide +kernel
theorem dX12_end_26 : decode cX12_end 26 = .ok (.ireturn, 1) := by decide +kernel
theorem dX12_error_0 : decode cX12_error 0 = .ok (.aload_n 0, 1) := by decide +kernel
theorem dX12_error_1 : decode cX12_error 1 = .ok (.getfield 52, 3) := by decide +kernel
theorem dX12_error_4 : decode cX12_error 4 = .ok (.getfield 199, 3) := by decide +kernel
theorem dX12_error_7 : decode cX12_error 7 = .ok (.ireturn, 1) := by decide +kernel
theorem dX12_feed_0 : decode cX12_feed 0 = .ok (.aload_n 0, 1) := by decide +kernel
theorem dX12_feed_1 : decode cX12_feed 1 = .ok (.getfield 10, 3) := by decide +kernel
theorem dX12_feed_4 : decode cX12_feed 4 = .ok (.getfield 83, 3) := by decide +kernel
theorem dX12_feed_7 : decode cX12_feed 7 = .ok (.bipush 20, 2) := by decide +kernel
theorem dX12_feed_9 : decode cX12_feed 9 = .ok (.iadd, 1) := by decide +kernel
theorem dX12_feed_10 : decode cX12_feed 10 = .ok (.sipush 16000, 3) := by decide +kernel
theorem dX12_feed_13 : decode cX12_feed 13 = .ok (.if_icmp .gt 15, 3) := by decide +kernel
theorem dX12_feed_16 : decode cX12_feed 16 = .ok (.aload_n 0, 1) := by decide +kernel
theorem dX12_feed_17 : decode cX12_feed 17 = .ok (.getfield 86, 3) := by decide +kernel
theorem dX12_feed_20 : decode cX12_feed 20 = .ok (.bipush 20, 2) := by decide +kernel
theorem dX12_feed_22 : decode cX12_feed 22 = .ok (.iadd, 1) := by decide +kernel
theorem dX12_feed_23 : decode cX12_feed 23 = .ok (.ldc 89, 2) := by decide +kernel
theorem dX12_feed_25 : decode cX12_feed 25 = .ok (.if_icmp .le 5, 3) := by decide +kernel
theorem dX12_feed_28 : decode cX12_feed 28 = .ok (.iconst (-1), 1) := by decide +kernel
theorem dX12_feed_29 : decode cX12_feed 29 = .ok (.ireturn, 1) := by decide +kernel
theorem dX12_feed_30 : decode cX12_feed 30 = .ok (.aload_n 0, 1) := by decide +kernel
theorem dX12_feed_31 : decode cX12_feed 31 = .ok (.getfield 10, 3) := by decide +kernel
theorem dX12_feed_34 : decode cX12_feed 34 = .ok (.iload_n 1, 1) := by decide +kernel
theorem dX12_feed_35 : decode cX12_feed 35 = .ok (.invokevirtual 90, 3) := by decide +kernel
theorem dX12_feed_38 : decode cX12_feed 38 = .ok (.aload_n 0, 1) := by decide +kernel
theorem dX12_feed_39 : decode cX12_feed 39 = .ok (.getfield 10, 3) := by decide +kernel
theorem dX12_feed_42 : decode cX12_feed 42 = .ok (.iload_n 2, 1) := by decide +kernel
theorem dX12_feed_43 : decode cX12_feed 43 = .ok (.invokevirtual 90, 3) := by decide +kernel
theorem dX12_feed_46 : decode cX12_feed 46 = .ok (.aload_n 0, 1) := by decide +kernel
theorem dX12_feed_47 : decode cX12_feed 47 = .ok (.getfield 10, 3) := by decide +kernel

theorem dX14_argument_31 : decode cX14_argument 31 = .ok (.aload_n 0, 1) := by decide +kernel
theorem dX14_argument_32 : decode cX14_argument 32 = .ok (.getfield 970, 3) := by decide +kernel
theorem dX14_argument_35 : decode cX14_argument 35 = .ok (.ireturn, 1) := by decide +kernel
theorem dX14_arrayLength_0 : decode cX14_arrayLength 0 = .ok (.iload_n 1, 1) := by decide +kernel
theorem dX14_arrayLength_1 : decode cX14_arrayLength 1 = .ok (.iconst 1, 1) := by decide +kernel
theorem dX14_arrayLength_2 : decode cX14_arrayLength 2 = .ok (.if_icmp .lt 20, 3) := by decide +kernel
theorem dX14_arrayLength_5 : decode cX14_arrayLength 5 = .ok (.iload_n 1, 1) := by decide +kernel
theorem dX14_arrayLength_6 : decode cX14_arrayLength 6 = .ok (.aload_n 0, 1) := by decide +kernel
theorem dX14_arrayLength_7 : decode cX14_arrayLength 7 = .ok (.getfield 964, 3) := by decide +kernel
theorem dX14_arrayLength_10 : decode cX14_arrayLength 10 = .ok (.if_icmp .gt 12, 3) := by decide +kernel
theorem dX14_arrayLength_22 : decode cX14_arrayLength 22 = .ok (.iconst (-1), 1) := by decide +kernel
theorem dX14_arrayLength_23 : decode cX14_arrayLength 23 = .ok (.ireturn, 1) := by decide +kernel
theorem dX14_at_0 : decode cX14_at 0 = .ok (.aload_n 0, 1) := by decide +kernel
theorem dX14_at_1 : decode cX14_at 1 = .ok (.getfield 108, 3) := by decide +kernel
theorem dX14_at_4 : decode cX14_at 4 = .ok (.ireturn, 1) := by decide +kernel
theorem dX14_block_0 : decode cX14_block 0 = .ok (.aload_n 0, 1) := by decide +kernel
theorem dX14_block_1 : decode cX14_block 1 = .ok (.iload_n 1, 1) := by decide +kernel
theorem dX14_block_2 : decode cX14_block 2 = .ok (.iload_n 2, 1) := by decide +kernel
theorem dX14_block_3 : decode cX14_block 3 = .ok (.invokevirtual 662, 3) := by decide +kernel
theorem dX14_block_6 : decode cX14_block 6 = .ok (.ifCond .ne 5, 3) := by decide +kernel
theorem dX14_block_9 : decode cX14_block 9 = .ok (.iconst (-1), 1) := by decide +kernel
theorem dX14_block_10 : decode cX14_block 10 = .ok (.ireturn, 1) := by decide +kernel
theorem dX14_blocks_0 : decode cX14_blocks 0 = .ok (.aload_n 0, 1) := by decide +kernel
theorem dX14_blocks_1 : decode cX14_blocks 1 = .ok (.iload_n 1, 1) := by decide +kernel
theorem dX14_blocks_2 : decode cX14_blocks 2 = .ok (.iload_n 2, 1) := by decide +kernel
theorem dX14_blocks_3 : decode cX14_blocks 3 = .ok (.invokevirtual 662, 3) := by decide +kernel
theorem dX14_blocks_6 : decode cX14_blocks 6 = .ok (.ifCond .ne 5, 3) := by decide +kernel
theorem dX14_blocks_9 : decode cX14_blocks 9 = .ok (.iconst (-1), 1) := by decide +kernel
theorem dX14_blocks_10 : decode cX14_blocks 10 = .ok (.ireturn, 1) := by decide +kernel
theorem dX14_broken_0 : decode cX14_broken 0 = .ok (.aload_n 0, 1) := by decide +kernel
theorem dX14_broken_1 : decode cX14_broken 1 = .ok (.iload_n 1, 1) := by decide +kernel
theorem dX14_broken_2 : decode cX14_broken 2 = .ok (.putfield 296, 3) := by decide +kernel
theorem dX14_broken_5 : decode cX14_broken 5 = .ok (.aload_n 0, 1) := by decide +kernel
theorem dX14_broken_6 : decode cX14_broken 6 = .ok (.iload_n 2, 1) := by decide +kernel
theorem dX14_broken_7 : decode cX14_broken 7 = .ok (.putfield 299, 3) := by decide +kernel
theorem dX14_broken_10 : decode cX14_broken 10 = .ok (.aload_n 0, 1) := by decide +kernel
theorem dX14_broken_11 : decode cX14_broken 11 = .ok (.getfield 22, 3) := by decide +kernel
theorem dX14_broken_14 : decode cX14_broken 14 = .ok (.areturn, 1) := by decide +kernel
theorem dX14_byteAt_0 : decode cX14_byteAt 0 = .ok (.iload_n 1, 1) := by decide +kernel
theorem dX14_byteAt_1 : decode cX14_byteAt 1 = .ok (.ifCond .lt 24, 3) := by decide +kernel
theorem dX14_byteAt_4 : decode cX14_byteAt 4 = .ok (.iload_n 1, 1) := by decide +kernel
theorem dX14_byteAt_5 : decode cX14_byteAt 5 = .ok (.aload_n 0, 1) := by decide +kernel
theorem dX14_byteAt_6 : decode cX14_byteAt 6 = .ok (.getfield 958, 3) := by decide +kernel
theorem dX14_byteAt_9 : decode cX14_byteAt 9 = .ok (.if_icmp .ge 16, 3) := by decide +kernel
theorem dX14_byteAt_25 : decode cX14_byteAt 25 = .ok (.iconst (-1), 1) := by decide +kernel
theorem dX14_byteAt_26 : decode cX14_byteAt 26 = .ok (.ireturn, 1) := by decide +kernel
theorem dX14_count_0 : decode cX14_count 0 = .ok (.aload_n 0, 1) := by decide +kernel
theorem dX14_count_1 : decode cX14_count 1 = .ok (.iload_n 1, 1) := by decide +kernel
theorem dX14_count_2 : decode cX14_count 2 = .ok (.invokevirtual 860, 3) := by decide +kernel
theorem dX14_count_5 : decode cX14_count 5 = .ok (.ifCond .ne 5, 3) := by decide +kernel
theorem dX14_count_8 : decode cX14_count 8 = .ok (.iconst (-1), 1) := by decide +kernel
theorem dX14_count_9 : decode cX14_count 9 = .ok (.ireturn, 1) := by decide +kernel
theorem dX14_edge_0 : decode cX14_edge 0 = .ok (.aload_n 0, 1) := by decide +kernel
theorem dX14_edge_1 : decode cX14_edge 1 = .ok (.iload_n 1, 1) := by decide +kernel
theorem dX14_edge_2 : decode cX14_edge 2 = .ok (.iload_n 2, 1) := by decide +kernel
theorem dX14_edge_3 : decode cX14_edge 3 = .ok (.invokevirtual 662, 3) := by decide +kernel
theorem dX14_edge_6 : decode cX14_edge 6 = .ok (.ifCond .ne 5, 3) := by decide +kernel
theorem dX14_edge_9 : decode cX14_edge 9 = .ok (.iconst 0, 1) := by decide +kernel
theorem dX14_edge_10 : decode cX14_edge 10 = .ok (.ireturn, 1) := by decide +kernel
theorem dX14_element_0 : decode cX14_element 0 = .ok (.iload_n 1, 1) := by decide +kernel
theorem dX14_element_1 : decode cX14_element 1 = .ok (.iconst 1, 1) := by decide +kernel
theorem dX14_element_2 : decode cX14_element 2 = .ok (.if_icmp .lt 41, 3) := by decide +kernel
theorem dX14_element_5 : decode cX14_element 5 = .ok (.iload_n 1, 1) := by decide +kernel
theorem dX14_element_6 : decode cX14_element 6 = .ok (.aload_n 0, 1) := by decide +kernel
theorem dX14_element_7 : decode cX14_element 7 = .ok (.getfield 964, 3) := by decide +kernel
theorem dX14_element_10 : decode cX14_element 10 = .ok (.if_icmp .gt 33, 3) := by decide +kernel
theorem dX14_element_43 : decode cX14_element 43 = .ok (.iconst 0, 1) := by decide +kernel
theorem dX14_element_44 : decode cX14_element 44 = .ok (.ireturn, 1) := by decide +kernel
theorem dX14_end_0 : decode cX14_end 0 = .ok (.iload_n 1, 1) := by decide +kernel
theorem dX14_end_1 : decode cX14_end 1 = .ok (.ifCond .lt 11, 3) := by decide +kernel
theorem dX14_end_4 : decode cX14_end 4 = .ok (.iload_n 1, 1) := by decide +kernel
theorem dX14_end_5 : decode cX14_end 5 = .ok (.aload_n 0, 1) := by decide +kernel
theorem dX14_end_6 : decode cX14_end 6 = .ok (.getfield 285, 3) := by decide +kernel
theorem dX14_end_9 : decode cX14_end 9 = .ok (.if_icmp .le 5, 3) := by decide +kernel
theorem dX14_end_12 : decode cX14_end 12 = .ok (.iconst 0, 1) := by decide +kernel
theorem dX14_end_13 : decode cX14_end 13 = .ok (.ireturn, 1) := by decide +kernel
theorem dX14_end_14 : decode cX14_end 14 = .ok (.aload_n 0, 1) := by decide +kernel
theorem dX14_end_15 : decode cX14_end 15 = .ok (.iload_n 1, 1) := by decide +kernel
theorem dX14_end_16 : decode cX14_end 16 = .ok (.putfield 285, 3) := by decide +kernel
theorem dX14_end_19 : decode cX14_end 19 = .ok (.iconst 1, 1) := by decide +kernel
theorem dX14_end_20 : decode cX14_end 20 = .ok (.ireturn, 1) := by decide +kernel
theorem dX14_error_0 : decode cX14_error 0 = .ok (.aload_n 0, 1) := by decide +kernel
theorem dX14_error_1 : decode cX14_error 1 = .ok (.getfield 182, 3) := by decide +kernel
theorem dX14_error_4 : decode cX14_error 4 = .ok (.ireturn, 1) := by decide +kernel
theorem dX14_feed_0 : decode cX14_feed 0 = .ok (.aload_n 0, 1) := by decide +kernel
theorem dX14_feed_1 : decode cX14_feed 1 = .ok (.getfield 285, 3) := by decide +kernel
theorem dX14_feed_4 : decode cX14_feed 4 = .ok (.bipush 20, 2) := by decide +kernel
theorem dX14_feed_6 : decode cX14_feed 6 = .ok (.iadd, 1) := by decide +kernel
theorem dX14_feed_7 : decode cX14_feed 7 = .ok (.sipush 16000, 3) := by decide +kernel
theorem dX14_feed_10 : decode cX14_feed 10 = .ok (.if_icmp .gt 16, 3) := by decide +kernel
theorem dX14_feed_13 : decode cX14_feed 13 = .ok (.aload_n 0, 1) := by decide +kernel
theorem dX14_feed_14 : decode cX14_feed 14 = .ok (.getfield 288, 3) := by decide +kernel
theorem dX14_feed_17 : decode cX14_feed 17 = .ok (.bipush 20, 2) := by decide +kernel
theorem dX14_feed_19 : decode cX14_feed 19 = .ok (.iadd, 1) := by decide +kernel
theorem dX14_feed_20 : decode cX14_feed 20 = .ok (.ldc_w 291, 3) := by decide +kernel
theorem dX14_feed_23 : decode cX14_feed 23 = .ok (.if_icmp .le 5, 3) := by decide +kernel
theorem dX14_feed_28 : decode cX14_feed 28 = .ok (.aload_n 0, 1) := by decide +kernel
theorem dX14_feed_29 : decode cX14_feed 29 = .ok (.iload_n 1, 1) := by decide +kernel
theorem dX14_feed_30 : decode cX14_feed 30 = .ok (.invokevirtual 292, 3) := by decide +kernel
theorem dX14_feed_33 : decode cX14_feed 33 = .ok (.aload_n 0, 1) := by decide +kernel
theorem dX14_feed_34 : decode cX14_feed 34 = .ok (.iload_n 2, 1) := by decide +kernel
theorem dX14_feed_35 : decode cX14_feed 35 = .ok (.invokevirtual 292, 3) := by decide +kernel
theorem dX14_feed_38 : decode cX14_feed 38 = .ok (.aload_n 0, 1) := by decide +kernel
theorem dX14_feed_39 : decode cX14_feed 39 = .ok (.iload_n 3, 1) := by decide +kernel
theorem dX14_feed_40 : decode cX14_feed 40 = .ok (.invokevirtual 292, 3) := by decide +kernel
theorem dX14_feed_43 : decode cX14_feed 43 = .ok (.aload_n 0, 1) := by decide +kernel
theorem dX14_feed_44 : decode cX14_feed 44 = .ok (.iload 4, 2) := by decide +kernel
theorem dX14_feed_46 : decode cX14_feed 46 = .ok (.invokevirtual 292, 3) := by decide +kernel
theorem dX14_feed_49 : decode cX14_feed 49 = .ok (.aload_n 0, 1) := by decide +kernel
theorem dX14_feed_50 : decode cX14_feed 50 = .ok (.iload 5, 2) := by decide +kernel
theorem dX14_feed_52 : decode cX14_feed 52 = .ok (.invokevirtual 292, 3) := by decide +kernel
theorem dX14_feed_55 : decode cX14_feed 55 = .ok (.aload_n 0, 1) := by decide +kernel
theorem dX14_feed_56 : decode cX14_feed 56 = .ok (.dup, 1) := by decide +kernel
theorem dX14_feed_57 : decode cX14_feed 57 = .ok (.getfield 288, 3) := by decide +kernel
theorem dX14_feed_60 : decode cX14_feed 60 = .ok (.bipush 20, 2) := by decide +kernel
theorem dX14_feed_62 : decode cX14_feed 62 = .ok (.iadd, 1) := by decide +kernel
theorem dX14_feed_63 : decode cX14_feed 63 = .ok (.putfield 288, 3) := by decide +kernel
theorem dX14_feed_66 : decode cX14_feed 66 = .ok (.aload_n 0, 1) := by decide +kernel
theorem dX14_feed_67 : decode cX14_feed 67 = .ok (.getfield 285, 3) := by decide +kernel
theorem dX14_feed_70 : decode cX14_feed 70 = .ok (.ireturn, 1) := by decide +kernel
theorem dX14_field_0 : decode cX14_field 0 = .ok (.aload_n 0, 1) := by decide +kernel
theorem dX14_field_1 : decode cX14_field 1 = .ok (.getfield 961, 3) := by decide +kernel
theorem dX14_field_4 : decode cX14_field 4 = .ok (.ifnull 27, 3) := by decide +kernel
theorem dX14_field_31 : decode cX14_field 31 = .ok (.lconst 0, 1) := by decide +kernel
theorem dX14_field_32 : decode cX14_field 32 = .ok (.lreturn, 1) := by decide +kernel
theorem dX14_file_0 : decode cX14_file 0 = .ok (.aload_n 0, 1) := by decide +kernel
theorem dX14_file_1 : decode cX14_file 1 = .ok (.getfield 647, 3) := by decide +kernel
theorem dX14_file_4 : decode cX14_file 4 = .ok (.bipush 12, 2) := by decide +kernel
theorem dX14_file_6 : decode cX14_file 6 = .ok (.if_icmp .ne 6, 3) := by decide +kernel
theorem dX14_file_12 : decode cX14_file 12 = .ok (.aload_n 0, 1) := by decide +kernel
theorem dX14_file_13 : decode cX14_file 13 = .ok (.getfield 285, 3) := by decide +kernel
theorem dX14_file_16 : decode cX14_file 16 = .ok (.istore_n 1, 1) := by decide +kernel
theorem dX14_file_17 : decode cX14_file 17 = .ok (.aload_n 0, 1) := by decide +kernel
theorem dX14_file_18 : decode cX14_file 18 = .ok (.iconst 0, 1) := by decide +kernel
theorem dX14_file_19 : decode cX14_file 19 = .ok (.putfield 285, 3) := by decide +kernel
theorem dX14_file_22 : decode cX14_file 22 = .ok (.aload_n 0, 1) := by decide +kernel
theorem dX14_file_23 : decode cX14_file 23 = .ok (.iconst 0, 1) := by decide +kernel
theorem dX14_file_24 : decode cX14_file 24 = .ok (.putfield 306, 3) := by decide +kernel
theorem dX14_file_27 : decode cX14_file 27 = .ok (.aload_n 0, 1) := by decide +kernel
theorem dX14_file_28 : decode cX14_file 28 = .ok (.iconst (-1), 1) := by decide +kernel
theorem dX14_file_29 : decode cX14_file 29 = .ok (.putfield 26, 3) := by decide +kernel
theorem dX14_file_32 : decode cX14_file 32 = .ok (.aload_n 0, 1) := by decide +kernel
theorem dX14_file_33 : decode cX14_file 33 = .ok (.aload_n 0, 1) := by decide +kernel
theorem dX14_file_34 : decode cX14_file 34 = .ok (.aload_n 0, 1) := by decide +kernel
theorem dX14_file_35 : decode cX14_file 35 = .ok (.getfield 15, 3) := by decide +kernel
theorem dX14_file_38 : decode cX14_file 38 = .ok (.iload_n 1, 1) := by decide +kernel
theorem dX14_file_39 : decode cX14_file 39 = .ok (.invokevirtual 650, 3) := by decide +kernel
theorem dX14_file_46 : decode cX14_file 46 = .ok (.astore_n 2, 1) := by decide +kernel
theorem dX14_file_47 : decode cX14_file 47 = .ok (.aload_n 0, 1) := by decide +kernel
theorem dX14_file_48 : decode cX14_file 48 = .ok (.aload_n 0, 1) := by decide +kernel

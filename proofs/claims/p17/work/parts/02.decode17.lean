theorem dX12_edge_6 : decode cX12_edge 6 = .ok (.astore 5, 2) := by decide +kernel
theorem dX12_edge_8 : decode cX12_edge 8 = .ok (.aload 5, 2) := by decide +kernel
theorem dX12_edge_10 : decode cX12_edge 10 = .ok (.ifnonnull 5, 3) := by decide +kernel
theorem dX12_edge_13 : decode cX12_edge 13 = .ok (.iconst 0, 1) := by decide +kernel
theorem dX12_edge_14 : decode cX12_edge 14 = .ok (.ireturn, 1) := by decide +kernel
theorem dX12_edge_15 : decode cX12_edge 15 = .ok (.aload_n 0, 1) := by decide +kernel
theorem dX12_edge_16 : decode cX12_edge 16 = .ok (.getfield 59, 3) := by decide +kernel
theorem dX12_edge_19 : decode cX12_edge 19 = .ok (.aload 5, 2) := by decide +kernel
theorem dX12_edge_21 : decode cX12_edge 21 = .ok (.invokevirtual 215, 3) := by decide +kernel
theorem dX12_edge_24 : decode cX12_edge 24 = .ok (.aload_n 0, 1) := by decide +kernel
theorem dX12_edge_25 : decode cX12_edge 25 = .ok (.getfield 59, 3) := by decide +kernel
theorem dX12_edge_28 : decode cX12_edge 28 = .ok (.iload_n 3, 1) := by decide +kernel
theorem dX12_edge_29 : decode cX12_edge 29 = .ok (.iload 4, 2) := by decide +kernel
theorem dX12_edge_31 : decode cX12_edge 31 = .ok (.invokevirtual 222, 3) := by decide +kernel
theorem dX12_edge_34 : decode cX12_edge 34 = .ok (.ireturn, 1) := by decide +kernel
theorem dX12_element_0 : decode cX12_element 0 = .ok (.aload_n 0, 1) := by decide +kernel
theorem dX12_element_1 : decode cX12_element 1 = .ok (.getfield 52, 3) := by decide +kernel
theorem dX12_element_4 : decode cX12_element 4 = .ok (.iload_n 1, 1) := by decide +kernel
theorem dX12_element_5 : decode cX12_element 5 = .ok (.iload_n 2, 1) := by decide +kernel
theorem dX12_element_6 : decode cX12_element 6 = .ok (.invokevirtual 209, 3) := by decide +kernel
theorem dX12_element_9 : decode cX12_element 9 = .ok (.ireturn, 1) := by decide +kernel
theorem dX12_end_0 : decode cX12_end 0 = .ok (.iload_n 1, 1) := by decide +kernel
theorem dX12_end_1 : decode cX12_end 1 = .ok (.ifCond .lt 14, 3) := by decide +kernel
theorem dX12_end_4 : decode cX12_end 4 = .ok (.iload_n 1, 1) := by decide +kernel
theorem dX12_end_5 : decode cX12_end 5 = .ok (.aload_n 0, 1) := by decide +kernel
theorem dX12_end_6 : decode cX12_end 6 = .ok (.getfield 10, 3) := by decide +kernel
theorem dX12_end_9 : decode cX12_end 9 = .ok (.getfield 83, 3) := by decide +kernel
theorem dX12_end_12 : decode cX12_end 12 = .ok (.if_icmp .le 5, 3) := by decide +kernel
theorem dX12_end_15 : decode cX12_end 15 = .ok (.iconst 0, 1) := by decide +kernel
theorem dX12_end_16 : decode cX12_end 16 = .ok (.ireturn, 1) := by decide +kernel
theorem dX12_end_17 : decode cX12_end 17 = .ok (.aload_n 0, 1) := by decide +kernel
theorem dX12_end_18 : decode cX12_end 18 = .ok (.getfield 10, 3) := by decide +kernel
theorem dX12_end_21 : decode cX12_end 21 = .ok (.iload_n 1, 1) := by decide +kernel
theorem dX12_end_22 : decode cX12_end 22 = .ok (.putfield 83, 3) := by decide +kernel
theorem dX12_end_25 : decode cX12_end 25 = .ok (.iconst 1, 1) := by decide +kernel
theorem dX12_end_26 : decode cX12_end 26 = .ok (.ireturn, 1) := by decide +kernel
theorem dX12_error_0 : decode cX12_error 0 = .ok (.aload_n 0, 1) := by decide +kernel
theorem dX12_error_1 : decode cX12_error 1 = .ok (.getfield 52, 3) := by decide +kernel
theorem dX12_error_4 : decode cX12_error 4 = .ok (.getfield 199, 3) := by decide +kernel
theorem dX12_error_7 : decode cX12_error 7 = .ok (.ireturn, 1) := by decide +kernel
theorem dX12_feed_0 : decode cX12_feed 0 = .ok (.aload_n 0, 1) := by decide +kernel
theorem dX12_feed_1 : decode cX12_feed 1 = .ok (.getfield 10, 3) := by decide +kernel
theorem dX12_feed_4 : decode cX12_feed 4 = .ok (.getfield 83, 3) := by decide +kernel
theorem dX12_feed_7 : decode cX12_feed 7 = .ok (.bipush 20, 2) := by decide +kernel
theorem dX12_feed_9 : decode cX12_feed 9 = .ok (.iadd, 1) := by decide +kernel
theorem dX12_feed_10 : decode cX12_feed 10 = .ok (.sipush 16000, 3) := by decide +kernel
theorem dX12_feed_13 : decode cX12_feed 13 = .ok (.if_icmp .gt 15, 3) := by decide +kernel
theorem dX12_feed_16 : decode cX12_feed 16 = .ok (.aload_n 0, 1) := by decide +kernel
theorem dX12_feed_17 : decode cX12_feed 17 = .ok (.getfield 86, 3) := by decide +kernel
theorem dX12_feed_20 : decode cX12_feed 20 = .ok (.bipush 20, 2) := by decide +kernel
theorem dX12_feed_22 : decode cX12_feed 22 = .ok (.iadd, 1) := by decide +kernel
theorem dX12_feed_23 : decode cX12_feed 23 = .ok (.ldc 89, 2) := by decide +kernel
theorem dX12_feed_25 : decode cX12_feed 25 = .ok (.if_icmp .le 5, 3) := by decide +kernel
theorem dX12_feed_28 : decode cX12_feed 28 = .ok (.iconst (-1), 1) := by decide +kernel
theorem dX12_feed_29 : decode cX12_feed 29 = .ok (.ireturn, 1) := by decide +kernel
theorem dX12_feed_30 : decode cX12_feed 30 = .ok (.aload_n 0, 1) := by decide +kernel
theorem dX12_feed_31 : decode cX12_feed 31 = .ok (.getfield 10, 3) := by decide +kernel
theorem dX12_feed_34 : decode cX12_feed 34 = .ok (.iload_n 1, 1) := by decide +kernel
theorem dX12_feed_35 : decode cX12_feed 35 = .ok (.invokevirtual 90, 3) := by decide +kernel
theorem dX12_feed_38 : decode cX12_feed 38 = .ok (.aload_n 0, 1) := by decide +kernel
theorem dX12_feed_39 : decode cX12_feed 39 = .ok (.getfield 10, 3) := by decide +kernel
theorem dX12_feed_42 : decode cX12_feed 42 = .ok (.iload_n 2, 1) := by decide +kernel
theorem dX12_feed_43 : decode cX12_feed 43 = .ok (.invokevirtual 90, 3) := by decide +kernel
theorem dX12_feed_46 : decode cX12_feed 46 = .ok (.aload_n 0, 1) := by decide +kernel
theorem dX12_feed_47 : decode cX12_feed 47 = .ok (.getfield 10, 3) := by decide +kernel
theorem dX12_feed_50 : decode cX12_feed 50 = .ok (.iload_n 3, 1) := by decide +kernel
theorem dX12_feed_51 : decode cX12_feed 51 = .ok (.invokevirtual 90, 3) := by decide +kernel
theorem dX12_feed_54 : decode cX12_feed 54 = .ok (.aload_n 0, 1) := by decide +kernel
theorem dX12_feed_55 : decode cX12_feed 55 = .ok (.getfield 10, 3) := by decide +kernel
theorem dX12_feed_58 : decode cX12_feed 58 = .ok (.iload 4, 2) := by decide +kernel
theorem dX12_feed_60 : decode cX12_feed 60 = .ok (.invokevirtual 90, 3) := by decide +kernel
theorem dX12_feed_63 : decode cX12_feed 63 = .ok (.aload_n 0, 1) := by decide +kernel
theorem dX12_feed_64 : decode cX12_feed 64 = .ok (.getfield 10, 3) := by decide +kernel
theorem dX12_feed_67 : decode cX12_feed 67 = .ok (.iload 5, 2) := by decide +kernel
theorem dX12_feed_69 : decode cX12_feed 69 = .ok (.invokevirtual 90, 3) := by decide +kernel
theorem dX12_feed_72 : decode cX12_feed 72 = .ok (.aload_n 0, 1) := by decide +kernel
theorem dX12_feed_73 : decode cX12_feed 73 = .ok (.dup, 1) := by decide +kernel
theorem dX12_feed_74 : decode cX12_feed 74 = .ok (.getfield 86, 3) := by decide +kernel
theorem dX12_feed_77 : decode cX12_feed 77 = .ok (.bipush 20, 2) := by decide +kernel
theorem dX12_feed_79 : decode cX12_feed 79 = .ok (.iadd, 1) := by decide +kernel
theorem dX12_feed_80 : decode cX12_feed 80 = .ok (.putfield 86, 3) := by decide +kernel
theorem dX12_feed_83 : decode cX12_feed 83 = .ok (.aload_n 0, 1) := by decide +kernel
theorem dX12_feed_84 : decode cX12_feed 84 = .ok (.getfield 10, 3) := by decide +kernel
theorem dX12_feed_87 : decode cX12_feed 87 = .ok (.getfield 83, 3) := by decide +kernel
theorem dX12_feed_90 : decode cX12_feed 90 = .ok (.ireturn, 1) := by decide +kernel
theorem dX12_field_0 : decode cX12_field 0 = .ok (.aload_n 0, 1) := by decide +kernel
theorem dX12_field_1 : decode cX12_field 1 = .ok (.getfield 52, 3) := by decide +kernel
theorem dX12_field_4 : decode cX12_field 4 = .ok (.iload_n 1, 1) := by decide +kernel
theorem dX12_field_5 : decode cX12_field 5 = .ok (.invokevirtual 205, 3) := by decide +kernel
theorem dX12_field_8 : decode cX12_field 8 = .ok (.lreturn, 1) := by decide +kernel
theorem dX12_file_0 : decode cX12_file 0 = .ok (.aload_n 0, 1) := by decide +kernel
theorem dX12_file_1 : decode cX12_file 1 = .ok (.getfield 94, 3) := by decide +kernel
theorem dX12_file_4 : decode cX12_file 4 = .ok (.bipush 12, 2) := by decide +kernel
theorem dX12_file_6 : decode cX12_file 6 = .ok (.if_icmp .lt 6, 3) := by decide +kernel
theorem dX12_file_9 : decode cX12_file 9 = .ok (.bipush (-2), 2) := by decide +kernel
theorem dX12_file_11 : decode cX12_file 11 = .ok (.ireturn, 1) := by decide +kernel
theorem dX12_file_12 : decode cX12_file 12 = .ok (.aload_n 0, 1) := by decide +kernel
theorem dX12_file_13 : decode cX12_file 13 = .ok (.getfield 31, 3) := by decide +kernel
theorem dX12_file_16 : decode cX12_file 16 = .ok (.aload_n 0, 1) := by decide +kernel
theorem dX12_file_17 : decode cX12_file 17 = .ok (.getfield 10, 3) := by decide +kernel
theorem dX12_file_20 : decode cX12_file 20 = .ok (.invokevirtual 97, 3) := by decide +kernel
theorem dX12_file_23 : decode cX12_file 23 = .ok (.astore_n 1, 1) := by decide +kernel
theorem dX12_file_24 : decode cX12_file 24 = .ok (.aload_n 0, 1) := by decide +kernel
theorem dX12_file_25 : decode cX12_file 25 = .ok (.getfield 10, 3) := by decide +kernel
theorem dX12_file_28 : decode cX12_file 28 = .ok (.iconst 0, 1) := by decide +kernel
theorem dX12_file_29 : decode cX12_file 29 = .ok (.putfield 83, 3) := by decide +kernel
theorem dX12_file_32 : decode cX12_file 32 = .ok (.aload_n 0, 1) := by decide +kernel
theorem dX12_file_33 : decode cX12_file 33 = .ok (.aload_n 0, 1) := by decide +kernel
theorem dX12_file_34 : decode cX12_file 34 = .ok (.getfield 31, 3) := by decide +kernel
theorem dX12_file_37 : decode cX12_file 37 = .ok (.getfield 101, 3) := by decide +kernel
theorem dX12_file_40 : decode cX12_file 40 = .ok (.getfield 105, 3) := by decide +kernel
theorem dX12_file_43 : decode cX12_file 43 = .ok (.putfield 110, 3) := by decide +kernel
theorem dX12_file_46 : decode cX12_file 46 = .ok (.aload_n 0, 1) := by decide +kernel
theorem dX12_file_47 : decode cX12_file 47 = .ok (.aload_n 0, 1) := by decide +kernel
theorem dX12_file_48 : decode cX12_file 48 = .ok (.getfield 31, 3) := by decide +kernel
theorem dX12_file_51 : decode cX12_file 51 = .ok (.getfield 101, 3) := by decide +kernel
theorem dX12_file_54 : decode cX12_file 54 = .ok (.getfield 111, 3) := by decide +kernel
theorem dX12_file_57 : decode cX12_file 57 = .ok (.putfield 70, 3) := by decide +kernel
theorem dX12_file_60 : decode cX12_file 60 = .ok (.aload_n 0, 1) := by decide +kernel
theorem dX12_file_61 : decode cX12_file 61 = .ok (.aload_n 1, 1) := by decide +kernel
theorem dX12_file_62 : decode cX12_file 62 = .ok (.iconst (-1), 1) := by decide +kernel
theorem dX12_file_63 : decode cX12_file 63 = .ok (.invokevirtual 112, 3) := by decide +kernel
theorem dX12_file_66 : decode cX12_file 66 = .ok (.ireturn, 1) := by decide +kernel
theorem dX12_height_0 : decode cX12_height 0 = .ok (.aload_n 0, 1) := by decide +kernel
theorem dX12_height_1 : decode cX12_height 1 = .ok (.iload_n 1, 1) := by decide +kernel
theorem dX12_height_2 : decode cX12_height 2 = .ok (.invokevirtual 152, 3) := by decide +kernel
theorem dX12_height_5 : decode cX12_height 5 = .ok (.ifnonnull 7, 3) := by decide +kernel
theorem dX12_height_8 : decode cX12_height 8 = .ok (.aconst_null, 1) := by decide +kernel
theorem dX12_height_9 : decode cX12_height 9 = .ok (.goto 9, 3) := by decide +kernel
theorem dX12_height_12 : decode cX12_height 12 = .ok (.aload_n 0, 1) := by decide +kernel
theorem dX12_height_13 : decode cX12_height 13 = .ok (.iload_n 1, 1) := by decide +kernel
theorem dX12_height_14 : decode cX12_height 14 = .ok (.iload_n 2, 1) := by decide +kernel
theorem dX12_height_15 : decode cX12_height 15 = .ok (.invokevirtual 132, 3) := by decide +kernel
theorem dX12_height_18 : decode cX12_height 18 = .ok (.astore 4, 2) := by decide +kernel
theorem dX12_height_20 : decode cX12_height 20 = .ok (.aload 4, 2) := by decide +kernel
theorem dX12_height_22 : decode cX12_height 22 = .ok (.ifnonnull 7, 3) := by decide +kernel
theorem dX12_height_25 : decode cX12_height 25 = .ok (.iconst (-1), 1) := by decide +kernel
theorem dX12_height_26 : decode cX12_height 26 = .ok (.goto 9, 3) := by decide +kernel
theorem dX12_height_29 : decode cX12_height 29 = .ok (.aload 4, 2) := by decide +kernel
theorem dX12_height_31 : decode cX12_height 31 = .ok (.iload_n 3, 1) := by decide +kernel
theorem dX12_height_32 : decode cX12_height 32 = .ok (.invokevirtual 155, 3) := by decide +kernel
theorem dX12_height_35 : decode cX12_height 35 = .ok (.ireturn, 1) := by decide +kernel
theorem dX12_improve_0 : decode cX12_improve 0 = .ok (.aload_n 0, 1) := by decide +kernel
theorem dX12_improve_1 : decode cX12_improve 1 = .ok (.getfield 66, 3) := by decide +kernel
theorem dX12_improve_4 : decode cX12_improve 4 = .ok (.invokevirtual 226, 3) := by decide +kernel
theorem dX12_improve_7 : decode cX12_improve 7 = .ok (.aload_n 0, 1) := by decide +kernel
theorem dX12_improve_8 : decode cX12_improve 8 = .ok (.iload_n 1, 1) := by decide +kernel
theorem dX12_improve_9 : decode cX12_improve 9 = .ok (.invokevirtual 152, 3) := by decide +kernel
theorem dX12_improve_12 : decode cX12_improve 12 = .ok (.astore_n 3, 1) := by decide +kernel
theorem dX12_improve_13 : decode cX12_improve 13 = .ok (.aload_n 3, 1) := by decide +kernel

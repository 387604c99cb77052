theorem dX12_feed_50 : decode cX12_feed 50 = .ok (.iload_n 3, 1) := by decide +kernel
theorem dX12_feed_51 : decode cX12_feed 51 = .ok (.invokevirtual 90, 3) := by decide +kernel
theorem dX12_feed_54 : decode cX12_feed 54 = .ok (.aload_n 0, 1) := by decide +kernel
theorem dX12_feed_55 : decode cX12_feed 55 = .ok (.getfield 10, 3) := by decide +kernel
theorem dX12_feed_58 : decode cX12_feed 58 = .ok (.iload 4, 2) := by decide +kernel
theorem dX12_feed_60 : decode cX12_feed 60 = .ok (.invokevirtual 90, 3) := by decide +kernel
theorem dX12_feed_63 : decode cX12_feed 63 = .ok (.aload_n 0, 1) := by decide +kernel
theorem dX12_feed_64 : decode cX12_feed 64 = .ok (.getfield 10, 3) := by decide +kernel
theorem dX12_feed_67 : decode cX12_feed 67 = .ok (.iload 5, 2) := by decide +kernel
theorem dX12_feed_69 : decode cX12_feed 69 = .ok (.invokevirtual 90, 3) := by decide +kernel
theorem dX12_feed_72 : decode cX12_feed 72 = .ok (.aload_n 0, 1) := by decide +kernel
theorem dX12_feed_73 : decode cX12_feed 73 = .ok (.dup, 1) := by decide +kernel
theorem dX12_feed_74 : decode cX12_feed 74 = .ok (.getfield 86, 3) := by decide +kernel
theorem dX12_feed_77 : decode cX12_feed 77 = .ok (.bipush 20, 2) := by decide +kernel
theorem dX12_feed_79 : decode cX12_feed 79 = .ok (.iadd, 1) := by decide +kernel
theorem dX12_feed_80 : decode cX12_feed 80 = .ok (.putfield 86, 3) := by decide +kernel
theorem dX12_feed_83 : decode cX12_feed 83 = .ok (.aload_n 0, 1) := by decide +kernel
theorem dX12_feed_84 : decode cX12_feed 84 = .ok (.getfield 10, 3) := by decide +kernel
theorem dX12_feed_87 : decode cX12_feed 87 = .ok (.getfield 83, 3) := by decide +kernel
theorem dX12_feed_90 : decode cX12_feed 90 = .ok (.ireturn, 1) := by decide +kernel
theorem dX12_field_0 : decode cX12_field 0 = .ok (.aload_n 0, 1) := by decide +kernel
theorem dX12_field_1 : decode cX12_field 1 = .ok (.getfield 52, 3) := by decide +kernel
theorem dX12_field_4 : decode cX12_field 4 = .ok (.iload_n 1, 1) := by decide +kernel
theorem dX12_field_5 : decode cX12_field 5 = .ok (.invokevirtual 205, 3) := by decide +kernel
theorem dX12_field_8 : decode cX12_field 8 = .ok (.lreturn, 1) := by decide +kernel
theorem dX12_file_0 : decode cX12_file 0 = .ok (.aload_n 0, 1) := by decide +kernel
theorem dX12_file_1 : decode cX12_file 1 = .ok (.getfield 94, 3) := by decide +kernel
theorem dX12_file_4 : decode cX12_file 4 = .ok (.bipush 12, 2) := by decide +kernel
theorem dX12_file_6 : decode cX12_file 6 = .ok (.if_icmp .lt 6, 3) := by decide +kernel
theorem dX12_file_9 : decode cX12_file 9 = .ok (.bipush (-2), 2) := by decide +kernel
theorem dX12_file_11 : decode cX12_file 11 = .ok (.ireturn, 1) := by decide +kernel
theorem dX12_file_12 : decode cX12_file 12 = .ok (.aload_n 0, 1) := by decide +kernel
theorem dX12_file_13 : decode cX12_file 13 = .ok (.getfield 31, 3) := by decide +kernel
theorem dX12_file_16 : decode cX12_file 16 = .ok (.aload_n 0, 1) := by decide +kernel
theorem dX12_file_17 : decode cX12_file 17 = .ok (.getfield 10, 3) := by decide +kernel
theorem dX12_file_20 : decode cX12_file 20 = .ok (.invokevirtual 97, 3) := by decide +kernel
theorem dX12_file_23 : decode cX12_file 23 = .ok (.astore_n 1, 1) := by decide +kernel
theorem dX12_file_24 : decode cX12_file 24 = .ok (.aload_n 0, 1) := by decide +kernel
theorem dX12_file_25 : decode cX12_file 25 = .ok (.getfield 10, 3) := by decide +kernel
theorem dX12_file_28 : decode cX12_file 28 = .ok (.iconst 0, 1) := by decide +kernel
theorem dX12_file_29 : decode cX12_file 29 = .ok (.putfield 83, 3) := by decide +kernel
theorem dX12_file_32 : decode cX12_file 32 = .ok (.aload_n 0, 1) := by decide +kernel
theorem dX12_file_33 : decode cX12_file 33 = .ok (.aload_n 0, 1) := by decide +kernel
theorem dX12_file_34 : decode cX12_file 34 = .ok (.getfield 31, 3) := by decide +kernel
theorem dX12_file_37 : decode cX12_file 37 = .ok (.getfield 101, 3) := by decide +kernel
theorem dX12_file_40 : decode cX12_file 40 = .ok (.getfield 105, 3) := by decide +kernel
theorem dX12_file_43 : decode cX12_file 43 = .ok (.putfield 110, 3) := by decide +kernel
theorem dX12_file_46 : decode cX12_file 46 = .ok (.aload_n 0, 1) := by decide +kernel
theorem dX12_file_47 : decode cX12_file 47 = .ok (.aload_n 0, 1) := by decide +kernel
theorem dX12_file_48 : decode cX12_file 48 = .ok (.getfield 31, 3) := by decide +kernel
theorem dX12_file_51 : decode cX12_file 51 = .ok (.getfield 101, 3) := by decide +kernel
theorem dX12_file_54 : decode cX12_file 54 = .ok (.getfield 111, 3) := by decide +kernel
theorem dX12_file_57 : decode cX12_file 57 = .ok (.putfield 70, 3) := by decide +kernel
theorem dX12_file_60 : decode cX12_file 60 = .ok (.aload_n 0, 1) := by decide +kernel
theorem dX12_file_61 : decode cX12_file 61 = .ok (.aload_n 1, 1) := by decide +kernel
theorem dX12_file_62 : decode cX12_file 62 = .ok (.iconst (-1), 1) := by decide +kernel
theorem dX12_file_63 : decode cX12_file 63 = .ok (.invokevirtual 112, 3) := by decide +kernel
theorem dX12_file_66 : decode cX12_file 66 = .ok (.ireturn, 1) := by decide +kernel
theorem dX12_height_0 : decode cX12_height 0 = .ok (.aload_n 0, 1) := by decide +kernel
theorem dX12_height_1 : decode cX12_height 1 = .ok (.iload_n 1, 1) := by decide +kernel
theorem dX12_height_2 : decode cX12_height 2 = .ok (.invokevirtual 152, 3) := by decide +kernel
theorem dX12_height_5 : decode cX12_height 5 = .ok (.ifnonnull 7, 3) := by decide +kernel
theorem dX12_height_8 : decode cX12_height 8 = .ok (.aconst_null, 1) := by decide +kernel
theorem dX12_height_9 : decode cX12_height 9 = .ok (.goto 9, 3) := by decide +kernel
theorem dX12_height_12 : decode cX12_height 12 = .ok (.aload_n 0, 1) := by decide +kernel
theorem dX12_height_13 : decode cX12_height 13 = .ok (.iload_n 1, 1) := by decide +kernel
theorem dX12_height_14 : decode cX12_height 14 = .ok (.iload_n 2, 1) := by decide +kernel
theorem dX12_height_15 : decode cX12_height 15 = .ok (.invokevirtual 132, 3) := by decide +kernel
theorem dX12_height_18 : decode cX12_height 18 = .ok (.astore 4, 2) := by decide +kernel
theorem dX12_height_20 : decode cX12_height 20 = .ok (.aload 4, 2) := by decide +kernel
theorem dX12_height_22 : decode cX12_height 22 = .ok (.ifnonnull 7, 3) := by decide +kernel
theorem dX12_height_25 : decode cX12_height 25 = .ok (.iconst (-1), 1) := by decide +kernel
theorem dX12_height_26 : decode cX12_height 26 = .ok (.goto 9, 3) := by decide +kernel
theorem dX12_height_29 : decode cX12_height 29 = .ok (.aload 4, 2) := by decide +kernel
theorem dX12_height_31 : decode cX12_height 31 = .ok (.iload_n 3, 1) := by decide +kernel
theorem dX12_height_32 : decode cX12_height 32 = .ok (.invokevirtual 155, 3) := by decide +kernel
theorem dX12_height_35 : decode cX12_height 35 = .ok (.ireturn, 1) := by decide +kernel
theorem dX12_improve_0 : decode cX12_improve 0 = .ok (.aload_n 0, 1) := by decide +kernel
theorem dX12_improve_1 : decode cX12_improve 1 = .ok (.getfield 66, 3) := by decide +kernel
theorem dX12_improve_4 : decode cX12_improve 4 = .ok (.invokevirtual 226, 3) := by decide +kernel
theorem dX12_improve_7 : decode cX12_improve 7 = .ok (.aload_n 0, 1) := by decide +kernel
theorem dX12_improve_8 : decode cX12_improve 8 = .ok (.iload_n 1, 1) := by decide +kernel
theorem dX12_improve_9 : decode cX12_improve 9 = .ok (.invokevirtual 152, 3) := by decide +kernel
theorem dX12_improve_12 : decode cX12_improve 12 = .ok (.astore_n 3, 1) := by decide +kernel
theorem dX12_improve_13 : decode cX12_improve 13 = .ok (.aload_n 3, 1) := by decide +kernel
theorem dX12_improve_14 : decode cX12_improve 14 = .ok (.ifnull 14, 3) := by decide +kernel
theorem dX12_improve_17 : decode cX12_improve 17 = .ok (.iload_n 2, 1) := by decide +kernel
theorem dX12_improve_18 : decode cX12_improve 18 = .ok (.ifCond .lt 10, 3) := by decide +kernel
theorem dX12_improve_21 : decode cX12_improve 21 = .ok (.iload_n 2, 1) := by decide +kernel
theorem dX12_improve_22 : decode cX12_improve 22 = .ok (.sipush 2047, 3) := by decide +kernel
theorem dX12_improve_25 : decode cX12_improve 25 = .ok (.if_icmp .le 5, 3) := by decide +kernel
theorem dX12_improve_28 : decode cX12_improve 28 = .ok (.iconst (-1), 1) := by decide +kernel
theorem dX12_improve_29 : decode cX12_improve 29 = .ok (.ireturn, 1) := by decide +kernel
theorem dX12_improve_30 : decode cX12_improve 30 = .ok (.aload_n 0, 1) := by decide +kernel
theorem dX12_improve_31 : decode cX12_improve 31 = .ok (.getfield 94, 3) := by decide +kernel
theorem dX12_improve_34 : decode cX12_improve 34 = .ok (.bipush 12, 2) := by decide +kernel
theorem dX12_improve_36 : decode cX12_improve 36 = .ok (.if_icmp .ge 12, 3) := by decide +kernel
theorem dX12_improve_39 : decode cX12_improve 39 = .ok (.aload_n 0, 1) := by decide +kernel
theorem dX12_improve_40 : decode cX12_improve 40 = .ok (.getfield 229, 3) := by decide +kernel
theorem dX12_improve_43 : decode cX12_improve 43 = .ok (.bipush 16, 2) := by decide +kernel
theorem dX12_improve_45 : decode cX12_improve 45 = .ok (.if_icmp .lt 6, 3) := by decide +kernel
theorem dX12_improve_48 : decode cX12_improve 48 = .ok (.bipush (-2), 2) := by decide +kernel
theorem dX12_improve_50 : decode cX12_improve 50 = .ok (.ireturn, 1) := by decide +kernel
theorem dX12_improve_51 : decode cX12_improve 51 = .ok (.aload_n 0, 1) := by decide +kernel
theorem dX12_improve_52 : decode cX12_improve 52 = .ok (.dup, 1) := by decide +kernel
theorem dX12_improve_53 : decode cX12_improve 53 = .ok (.getfield 229, 3) := by decide +kernel
theorem dX12_improve_56 : decode cX12_improve 56 = .ok (.iconst 1, 1) := by decide +kernel
theorem dX12_improve_57 : decode cX12_improve 57 = .ok (.iadd, 1) := by decide +kernel
theorem dX12_improve_58 : decode cX12_improve 58 = .ok (.putfield 229, 3) := by decide +kernel
theorem dX12_improve_61 : decode cX12_improve 61 = .ok (.aload_n 0, 1) := by decide +kernel
theorem dX12_improve_62 : decode cX12_improve 62 = .ok (.getfield 45, 3) := by decide +kernel
theorem dX12_improve_65 : decode cX12_improve 65 = .ok (.aload_n 3, 1) := by decide +kernel
theorem dX12_improve_66 : decode cX12_improve 66 = .ok (.iconst 0, 1) := by decide +kernel
theorem dX12_improve_67 : decode cX12_improve 67 = .ok (.invokevirtual 163, 3) := by decide +kernel
theorem dX12_improve_70 : decode cX12_improve 70 = .ok (.iconst 0, 1) := by decide +kernel
theorem dX12_improve_71 : decode cX12_improve 71 = .ok (.istore 4, 2) := by decide +kernel
theorem dX12_improve_73 : decode cX12_improve 73 = .ok (.iload 4, 2) := by decide +kernel
theorem dX12_improve_75 : decode cX12_improve 75 = .ok (.aload_n 3, 1) := by decide +kernel
theorem dX12_improve_76 : decode cX12_improve 76 = .ok (.getfield 123, 3) := by decide +kernel
theorem dX12_improve_79 : decode cX12_improve 79 = .ok (.if_icmp .ge 37, 3) := by decide +kernel
theorem dX12_improve_82 : decode cX12_improve 82 = .ok (.aload_n 0, 1) := by decide +kernel
theorem dX12_improve_83 : decode cX12_improve 83 = .ok (.getfield 66, 3) := by decide +kernel
theorem dX12_improve_86 : decode cX12_improve 86 = .ok (.aload_n 3, 1) := by decide +kernel
theorem dX12_improve_87 : decode cX12_improve 87 = .ok (.iload 4, 2) := by decide +kernel
theorem dX12_improve_89 : decode cX12_improve 89 = .ok (.invokevirtual 144, 3) := by decide +kernel
theorem dX12_improve_92 : decode cX12_improve 92 = .ok (.iload_n 2, 1) := by decide +kernel
theorem dX12_improve_93 : decode cX12_improve 93 = .ok (.invokevirtual 232, 3) := by decide +kernel
theorem dX12_improve_96 : decode cX12_improve 96 = .ok (.aload_n 0, 1) := by decide +kernel
theorem dX12_improve_97 : decode cX12_improve 97 = .ok (.getfield 45, 3) := by decide +kernel
theorem dX12_improve_100 : decode cX12_improve 100 = .ok (.aload_n 0, 1) := by decide +kernel
theorem dX12_improve_101 : decode cX12_improve 101 = .ok (.getfield 66, 3) := by decide +kernel
theorem dX12_improve_104 : decode cX12_improve 104 = .ok (.getfield 236, 3) := by decide +kernel
theorem dX12_improve_107 : decode cX12_improve 107 = .ok (.invokevirtual 167, 3) := by decide +kernel
theorem dX12_improve_110 : decode cX12_improve 110 = .ok (.iinc 4 1, 3) := by decide +kernel
theorem dX12_improve_113 : decode cX12_improve 113 = .ok (.goto (-40), 3) := by decide +kernel
theorem dX12_improve_116 : decode cX12_improve 116 = .ok (.aload_n 0, 1) := by decide +kernel
theorem dX12_improve_117 : decode cX12_improve 117 = .ok (.getfield 45, 3) := by decide +kernel
theorem dX12_improve_120 : decode cX12_improve 120 = .ok (.invokevirtual 240, 3) := by decide +kernel
theorem dX12_improve_123 : decode cX12_improve 123 = .ok (.ifCond .ne 6, 3) := by decide +kernel
theorem dX12_improve_126 : decode cX12_improve 126 = .ok (.bipush (-3), 2) := by decide +kernel
theorem dX12_improve_128 : decode cX12_improve 128 = .ok (.ireturn, 1) := by decide +kernel
theorem dX12_improve_129 : decode cX12_improve 129 = .ok (.aload_n 0, 1) := by decide +kernel
theorem dX12_improve_130 : decode cX12_improve 130 = .ok (.getfield 45, 3) := by decide +kernel
theorem dX12_improve_133 : decode cX12_improve 133 = .ok (.aload_n 0, 1) := by decide +kernel
theorem dX12_improve_134 : decode cX12_improve 134 = .ok (.getfield 19, 3) := by decide +kernel
theorem dX12_improve_137 : decode cX12_improve 137 = .ok (.invokevirtual 171, 3) := by decide +kernel
theorem dX12_improve_140 : decode cX12_improve 140 = .ok (.aload_n 0, 1) := by decide +kernel
theorem dX12_improve_141 : decode cX12_improve 141 = .ok (.aload_n 0, 1) := by decide +kernel
theorem dX12_improve_142 : decode cX12_improve 142 = .ok (.getfield 31, 3) := by decide +kernel
theorem dX12_improve_145 : decode cX12_improve 145 = .ok (.aload_n 0, 1) := by decide +kernel

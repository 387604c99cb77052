theorem dX5_useStage_168 : decode cX5_useStage 168 = .ok (.aload_n 0, 1) := by decide +kernel
theorem dX5_useStage_169 : decode cX5_useStage 169 = .ok (.invokevirtual 141, 3) := by decide +kernel
theorem dX5_useStage_172 : decode cX5_useStage 172 = .ok (.l2i, 1) := by decide +kernel
theorem dX5_useStage_173 : decode cX5_useStage 173 = .ok (.invokevirtual 258, 3) := by decide +kernel
theorem dX5_useStage_176 : decode cX5_useStage 176 = .ok (.goto 42, 3) := by decide +kernel
theorem dX5_useStage_179 : decode cX5_useStage 179 = .ok (.aload_n 0, 1) := by decide +kernel
theorem dX5_useStage_180 : decode cX5_useStage 180 = .ok (.aload_n 0, 1) := by decide +kernel
theorem dX5_useStage_181 : decode cX5_useStage 181 = .ok (.invokevirtual 141, 3) := by decide +kernel
theorem dX5_useStage_184 : decode cX5_useStage 184 = .ok (.invokevirtual 261, 3) := by decide +kernel
theorem dX5_useStage_187 : decode cX5_useStage 187 = .ok (.goto 31, 3) := by decide +kernel
theorem dX5_useStage_190 : decode cX5_useStage 190 = .ok (.aload_n 0, 1) := by decide +kernel
theorem dX5_useStage_191 : decode cX5_useStage 191 = .ok (.iload_n 1, 1) := by decide +kernel
theorem dX5_useStage_192 : decode cX5_useStage 192 = .ok (.invokevirtual 264, 3) := by decide +kernel
theorem dX5_useStage_195 : decode cX5_useStage 195 = .ok (.goto 23, 3) := by decide +kernel
theorem dX5_useStage_198 : decode cX5_useStage 198 = .ok (.aload_n 0, 1) := by decide +kernel
theorem dX5_useStage_199 : decode cX5_useStage 199 = .ok (.dup, 1) := by decide +kernel
theorem dX5_useStage_200 : decode cX5_useStage 200 = .ok (.getfield 76, 3) := by decide +kernel
theorem dX5_useStage_203 : decode cX5_useStage 203 = .ok (.iconst 1, 1) := by decide +kernel
theorem dX5_useStage_204 : decode cX5_useStage 204 = .ok (.iadd, 1) := by decide +kernel
theorem dX5_useStage_205 : decode cX5_useStage 205 = .ok (.putfield 76, 3) := by decide +kernel
theorem dX5_useStage_208 : decode cX5_useStage 208 = .ok (.aload_n 0, 1) := by decide +kernel
theorem dX5_useStage_209 : decode cX5_useStage 209 = .ok (.dup, 1) := by decide +kernel
theorem dX5_useStage_210 : decode cX5_useStage 210 = .ok (.getfield 123, 3) := by decide +kernel
theorem dX5_useStage_213 : decode cX5_useStage 213 = .ok (.iconst 1, 1) := by decide +kernel
theorem dX5_useStage_214 : decode cX5_useStage 214 = .ok (.iadd, 1) := by decide +kernel
theorem dX5_useStage_215 : decode cX5_useStage 215 = .ok (.putfield 123, 3) := by decide +kernel
theorem dX5_useStage_218 : decode cX5_useStage 218 = .ok (.return_, 1) := by decide +kernel
theorem dX6_binary_0 : decode cX6_binary 0 = .ok (.iload_n 0, 1) := by decide +kernel
theorem dX6_binary_1 : decode cX6_binary 1 = .ok (.sipush 148, 3) := by decide +kernel
theorem dX6_binary_4 : decode cX6_binary 4 = .ok (.if_icmp .ne 10, 3) := by decide +kernel
theorem dX6_binary_7 : decode cX6_binary 7 = .ok (.lload_n 1, 1) := by decide +kernel
theorem dX6_binary_8 : decode cX6_binary 8 = .ok (.lload_n 3, 1) := by decide +kernel
theorem dX6_binary_9 : decode cX6_binary 9 = .ok (.invokestatic 32, 3) := by decide +kernel
theorem dX6_binary_12 : decode cX6_binary 12 = .ok (.i2l, 1) := by decide +kernel
theorem dX6_binary_13 : decode cX6_binary 13 = .ok (.lreturn, 1) := by decide +kernel
theorem dX6_binary_14 : decode cX6_binary 14 = .ok (.iload_n 0, 1) := by decide +kernel
theorem dX6_binary_15 : decode cX6_binary 15 = .ok (.invokestatic 38, 3) := by decide +kernel
theorem dX6_binary_18 : decode cX6_binary 18 = .ok (.lookupswitch 47 #[(17, 26), (33, 36)], 26) := by decide +kernel
theorem dX6_binary_44 : decode cX6_binary 44 = .ok (.iload_n 0, 1) := by decide +kernel
theorem dX6_binary_45 : decode cX6_binary 45 = .ok (.lload_n 1, 1) := by decide +kernel
theorem dX6_binary_46 : decode cX6_binary 46 = .ok (.l2i, 1) := by decide +kernel
theorem dX6_binary_47 : decode cX6_binary 47 = .ok (.lload_n 3, 1) := by decide +kernel
theorem dX6_binary_48 : decode cX6_binary 48 = .ok (.l2i, 1) := by decide +kernel
theorem dX6_binary_49 : decode cX6_binary 49 = .ok (.invokestatic 41, 3) := by decide +kernel
theorem dX6_binary_52 : decode cX6_binary 52 = .ok (.i2l, 1) := by decide +kernel
theorem dX6_binary_53 : decode cX6_binary 53 = .ok (.lreturn, 1) := by decide +kernel
theorem dX6_binary_54 : decode cX6_binary 54 = .ok (.iload_n 0, 1) := by decide +kernel
theorem dX6_binary_55 : decode cX6_binary 55 = .ok (.lload_n 1, 1) := by decide +kernel
theorem dX6_binary_56 : decode cX6_binary 56 = .ok (.lload_n 3, 1) := by decide +kernel
theorem dX6_binary_57 : decode cX6_binary 57 = .ok (.ldc2_w 45, 3) := by decide +kernel
theorem dX6_binary_60 : decode cX6_binary 60 = .ok (.land, 1) := by decide +kernel
theorem dX6_binary_61 : decode cX6_binary 61 = .ok (.invokestatic 47, 3) := by decide +kernel
theorem dX6_binary_64 : decode cX6_binary 64 = .ok (.lreturn, 1) := by decide +kernel
theorem dX6_binary_65 : decode cX6_binary 65 = .ok (.iload_n 0, 1) := by decide +kernel
theorem dX6_binary_66 : decode cX6_binary 66 = .ok (.lload_n 1, 1) := by decide +kernel
theorem dX6_binary_67 : decode cX6_binary 67 = .ok (.lload_n 3, 1) := by decide +kernel
theorem dX6_binary_68 : decode cX6_binary 68 = .ok (.invokestatic 47, 3) := by decide +kernel
theorem dX6_binary_71 : decode cX6_binary 71 = .ok (.lreturn, 1) := by decide +kernel
theorem dX6_errorName_0 : decode cX6_errorName 0 = .ok (.iload_n 0, 1) := by decide +kernel
theorem dX6_errorName_1 : decode cX6_errorName 1 = .ok (.tableswitch 36 0 2 #[27, 30, 33], 27) := by decide +kernel
theorem dX6_errorName_28 : decode cX6_errorName 28 = .ok (.ldc 51, 2) := by decide +kernel
theorem dX6_errorName_30 : decode cX6_errorName 30 = .ok (.areturn, 1) := by decide +kernel
theorem dX6_errorName_31 : decode cX6_errorName 31 = .ok (.ldc 53, 2) := by decide +kernel
theorem dX6_errorName_33 : decode cX6_errorName 33 = .ok (.areturn, 1) := by decide +kernel
theorem dX6_errorName_34 : decode cX6_errorName 34 = .ok (.ldc 55, 2) := by decide +kernel
theorem dX6_errorName_36 : decode cX6_errorName 36 = .ok (.areturn, 1) := by decide +kernel
theorem dX6_errorName_37 : decode cX6_errorName 37 = .ok (.ldc 57, 2) := by decide +kernel
theorem dX6_errorName_39 : decode cX6_errorName 39 = .ok (.areturn, 1) := by decide +kernel
theorem dX6_gives_0 : decode cX6_gives 0 = .ok (.iload_n 0, 1) := by decide +kernel
theorem dX6_gives_1 : decode cX6_gives 1 = .ok (.ifCond .lt 11, 3) := by decide +kernel
theorem dX6_gives_4 : decode cX6_gives 4 = .ok (.iload_n 0, 1) := by decide +kernel
theorem dX6_gives_5 : decode cX6_gives 5 = .ok (.getstatic 25, 3) := by decide +kernel
theorem dX6_gives_8 : decode cX6_gives 8 = .ok (.arraylength, 1) := by decide +kernel
theorem dX6_gives_9 : decode cX6_gives 9 = .ok (.if_icmp .lt 7, 3) := by decide +kernel
theorem dX6_gives_12 : decode cX6_gives 12 = .ok (.iconst 0, 1) := by decide +kernel
theorem dX6_gives_13 : decode cX6_gives 13 = .ok (.goto 8, 3) := by decide +kernel
theorem dX6_gives_16 : decode cX6_gives 16 = .ok (.getstatic 25, 3) := by decide +kernel
theorem dX6_gives_19 : decode cX6_gives 19 = .ok (.iload_n 0, 1) := by decide +kernel
theorem dX6_gives_20 : decode cX6_gives 20 = .ok (.iaload, 1) := by decide +kernel
theorem dX6_gives_21 : decode cX6_gives 21 = .ok (.ireturn, 1) := by decide +kernel
theorem dX6_goesOn_0 : decode cX6_goesOn 0 = .ok (.iload_n 0, 1) := by decide +kernel
theorem dX6_goesOn_1 : decode cX6_goesOn 1 = .ok (.sipush 167, 3) := by decide +kernel
theorem dX6_goesOn_4 : decode cX6_goesOn 4 = .ok (.if_icmp .eq 28, 3) := by decide +kernel
theorem dX6_goesOn_7 : decode cX6_goesOn 7 = .ok (.iload_n 0, 1) := by decide +kernel
theorem dX6_goesOn_8 : decode cX6_goesOn 8 = .ok (.sipush 191, 3) := by decide +kernel
theorem dX6_goesOn_11 : decode cX6_goesOn 11 = .ok (.if_icmp .eq 21, 3) := by decide +kernel
theorem dX6_goesOn_14 : decode cX6_goesOn 14 = .ok (.iload_n 0, 1) := by decide +kernel
theorem dX6_goesOn_15 : decode cX6_goesOn 15 = .ok (.sipush 170, 3) := by decide +kernel
theorem dX6_goesOn_18 : decode cX6_goesOn 18 = .ok (.if_icmp .lt 10, 3) := by decide +kernel
theorem dX6_goesOn_21 : decode cX6_goesOn 21 = .ok (.iload_n 0, 1) := by decide +kernel
theorem dX6_goesOn_22 : decode cX6_goesOn 22 = .ok (.sipush 177, 3) := by decide +kernel
theorem dX6_goesOn_25 : decode cX6_goesOn 25 = .ok (.if_icmp .le 7, 3) := by decide +kernel
theorem dX6_goesOn_28 : decode cX6_goesOn 28 = .ok (.iconst 1, 1) := by decide +kernel
theorem dX6_goesOn_29 : decode cX6_goesOn 29 = .ok (.goto 4, 3) := by decide +kernel
theorem dX6_goesOn_32 : decode cX6_goesOn 32 = .ok (.iconst 0, 1) := by decide +kernel
theorem dX6_goesOn_33 : decode cX6_goesOn 33 = .ok (.ireturn, 1) := by decide +kernel
theorem dX6_isBinary_0 : decode cX6_isBinary 0 = .ok (.iload_n 0, 1) := by decide +kernel
theorem dX6_isBinary_1 : decode cX6_isBinary 1 = .ok (.bipush 96, 2) := by decide +kernel
theorem dX6_isBinary_3 : decode cX6_isBinary 3 = .ok (.if_icmp .lt 15, 3) := by decide +kernel
theorem dX6_isBinary_6 : decode cX6_isBinary 6 = .ok (.iload_n 0, 1) := by decide +kernel
theorem dX6_isBinary_7 : decode cX6_isBinary 7 = .ok (.bipush 113, 2) := by decide +kernel
theorem dX6_isBinary_9 : decode cX6_isBinary 9 = .ok (.if_icmp .gt 9, 3) := by decide +kernel
theorem dX6_isBinary_12 : decode cX6_isBinary 12 = .ok (.iload_n 0, 1) := by decide +kernel
theorem dX6_isBinary_13 : decode cX6_isBinary 13 = .ok (.iconst 2, 1) := by decide +kernel
theorem dX6_isBinary_14 : decode cX6_isBinary 14 = .ok (.iand, 1) := by decide +kernel
theorem dX6_isBinary_15 : decode cX6_isBinary 15 = .ok (.ifCond .eq 23, 3) := by decide +kernel
theorem dX6_isBinary_18 : decode cX6_isBinary 18 = .ok (.iload_n 0, 1) := by decide +kernel
theorem dX6_isBinary_19 : decode cX6_isBinary 19 = .ok (.bipush 120, 2) := by decide +kernel
theorem dX6_isBinary_21 : decode cX6_isBinary 21 = .ok (.if_icmp .lt 10, 3) := by decide +kernel
theorem dX6_isBinary_24 : decode cX6_isBinary 24 = .ok (.iload_n 0, 1) := by decide +kernel
theorem dX6_isBinary_25 : decode cX6_isBinary 25 = .ok (.sipush 131, 3) := by decide +kernel
theorem dX6_isBinary_28 : decode cX6_isBinary 28 = .ok (.if_icmp .le 10, 3) := by decide +kernel
theorem dX6_isBinary_31 : decode cX6_isBinary 31 = .ok (.iload_n 0, 1) := by decide +kernel
theorem dX6_isBinary_32 : decode cX6_isBinary 32 = .ok (.sipush 148, 3) := by decide +kernel
theorem dX6_isBinary_35 : decode cX6_isBinary 35 = .ok (.if_icmp .ne 7, 3) := by decide +kernel
theorem dX6_isBinary_38 : decode cX6_isBinary 38 = .ok (.iconst 1, 1) := by decide +kernel
theorem dX6_isBinary_39 : decode cX6_isBinary 39 = .ok (.goto 4, 3) := by decide +kernel
theorem dX6_isBinary_42 : decode cX6_isBinary 42 = .ok (.iconst 0, 1) := by decide +kernel
theorem dX6_isBinary_43 : decode cX6_isBinary 43 = .ok (.ireturn, 1) := by decide +kernel
theorem dX6_isDivision_0 : decode cX6_isDivision 0 = .ok (.iload_n 0, 1) := by decide +kernel
theorem dX6_isDivision_1 : decode cX6_isDivision 1 = .ok (.bipush 108, 2) := by decide +kernel
theorem dX6_isDivision_3 : decode cX6_isDivision 3 = .ok (.if_icmp .eq 21, 3) := by decide +kernel
theorem dX6_isDivision_6 : decode cX6_isDivision 6 = .ok (.iload_n 0, 1) := by decide +kernel
theorem dX6_isDivision_7 : decode cX6_isDivision 7 = .ok (.bipush 109, 2) := by decide +kernel
theorem dX6_isDivision_9 : decode cX6_isDivision 9 = .ok (.if_icmp .eq 15, 3) := by decide +kernel
theorem dX6_isDivision_12 : decode cX6_isDivision 12 = .ok (.iload_n 0, 1) := by decide +kernel
theorem dX6_isDivision_13 : decode cX6_isDivision 13 = .ok (.bipush 112, 2) := by decide +kernel
theorem dX6_isDivision_15 : decode cX6_isDivision 15 = .ok (.if_icmp .eq 9, 3) := by decide +kernel
theorem dX6_isDivision_18 : decode cX6_isDivision 18 = .ok (.iload_n 0, 1) := by decide +kernel
theorem dX6_isDivision_19 : decode cX6_isDivision 19 = .ok (.bipush 113, 2) := by decide +kernel
theorem dX6_isDivision_21 : decode cX6_isDivision 21 = .ok (.if_icmp .ne 7, 3) := by decide +kernel
theorem dX6_isDivision_24 : decode cX6_isDivision 24 = .ok (.iconst 1, 1) := by decide +kernel
theorem dX6_isDivision_25 : decode cX6_isDivision 25 = .ok (.goto 4, 3) := by decide +kernel
theorem dX6_isDivision_28 : decode cX6_isDivision 28 = .ok (.iconst 0, 1) := by decide +kernel
theorem dX6_isDivision_29 : decode cX6_isDivision 29 = .ok (.ireturn, 1) := by decide +kernel
theorem dX6_isJump_0 : decode cX6_isJump 0 = .ok (.iload_n 0, 1) := by decide +kernel
theorem dX6_isJump_1 : decode cX6_isJump 1 = .ok (.sipush 153, 3) := by decide +kernel
theorem dX6_isJump_4 : decode cX6_isJump 4 = .ok (.if_icmp .lt 10, 3) := by decide +kernel
theorem dX6_isJump_7 : decode cX6_isJump 7 = .ok (.iload_n 0, 1) := by decide +kernel
theorem dX6_isJump_8 : decode cX6_isJump 8 = .ok (.sipush 167, 3) := by decide +kernel
theorem dX6_isJump_11 : decode cX6_isJump 11 = .ok (.if_icmp .le 17, 3) := by decide +kernel
theorem dX6_isJump_14 : decode cX6_isJump 14 = .ok (.iload_n 0, 1) := by decide +kernel
theorem dX6_isJump_15 : decode cX6_isJump 15 = .ok (.sipush 198, 3) := by decide +kernel
theorem dX6_isJump_18 : decode cX6_isJump 18 = .ok (.if_icmp .eq 10, 3) := by decide +kernel
theorem dX6_isJump_21 : decode cX6_isJump 21 = .ok (.iload_n 0, 1) := by decide +kernel
theorem dX6_isJump_22 : decode cX6_isJump 22 = .ok (.sipush 199, 3) := by decide +kernel
theorem dX6_isJump_25 : decode cX6_isJump 25 = .ok (.if_icmp .ne 7, 3) := by decide +kernel
theorem dX6_isJump_28 : decode cX6_isJump 28 = .ok (.iconst 1, 1) := by decide +kernel
theorem dX6_isJump_29 : decode cX6_isJump 29 = .ok (.goto 4, 3) := by decide +kernel
theorem dX6_isJump_32 : decode cX6_isJump 32 = .ok (.iconst 0, 1) := by decide +kernel

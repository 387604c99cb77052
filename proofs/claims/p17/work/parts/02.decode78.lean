theorem dX8_remove_148 : decode cX8_remove 148 = .ok (.getfield 22, 3) := by decide +kernel
theorem dX8_remove_151 : decode cX8_remove 151 = .ok (.iload 4, 2) := by decide +kernel
theorem dX8_remove_153 : decode cX8_remove 153 = .ok (.iaload, 1) := by decide +kernel
theorem dX8_remove_154 : decode cX8_remove 154 = .ok (.iload_n 1, 1) := by decide +kernel
theorem dX8_remove_155 : decode cX8_remove 155 = .ok (.iload_n 2, 1) := by decide +kernel
theorem dX8_remove_156 : decode cX8_remove 156 = .ok (.invokestatic 104, 3) := by decide +kernel
theorem dX8_remove_159 : decode cX8_remove 159 = .ok (.istore 5, 2) := by decide +kernel
theorem dX8_remove_161 : decode cX8_remove 161 = .ok (.aload_n 0, 1) := by decide +kernel
theorem dX8_remove_162 : decode cX8_remove 162 = .ok (.getfield 25, 3) := by decide +kernel
theorem dX8_remove_165 : decode cX8_remove 165 = .ok (.iload 4, 2) := by decide +kernel
theorem dX8_remove_167 : decode cX8_remove 167 = .ok (.iaload, 1) := by decide +kernel
theorem dX8_remove_168 : decode cX8_remove 168 = .ok (.iload_n 1, 1) := by decide +kernel
theorem dX8_remove_169 : decode cX8_remove 169 = .ok (.iload_n 2, 1) := by decide +kernel
theorem dX8_remove_170 : decode cX8_remove 170 = .ok (.invokestatic 104, 3) := by decide +kernel
theorem dX8_remove_173 : decode cX8_remove 173 = .ok (.istore 6, 2) := by decide +kernel
theorem dX8_remove_175 : decode cX8_remove 175 = .ok (.iload 5, 2) := by decide +kernel
theorem dX8_remove_177 : decode cX8_remove 177 = .ok (.iload 6, 2) := by decide +kernel
theorem dX8_remove_179 : decode cX8_remove 179 = .ok (.if_icmp .ge 53, 3) := by decide +kernel
theorem dX8_remove_182 : decode cX8_remove 182 = .ok (.aload_n 0, 1) := by decide +kernel
theorem dX8_remove_183 : decode cX8_remove 183 = .ok (.getfield 22, 3) := by decide +kernel
theorem dX8_remove_186 : decode cX8_remove 186 = .ok (.iload_n 3, 1) := by decide +kernel
theorem dX8_remove_187 : decode cX8_remove 187 = .ok (.iload 5, 2) := by decide +kernel
theorem dX8_remove_189 : decode cX8_remove 189 = .ok (.iastore, 1) := by decide +kernel
theorem dX8_remove_190 : decode cX8_remove 190 = .ok (.aload_n 0, 1) := by decide +kernel
theorem dX8_remove_191 : decode cX8_remove 191 = .ok (.getfield 25, 3) := by decide +kernel
theorem dX8_remove_194 : decode cX8_remove 194 = .ok (.iload_n 3, 1) := by decide +kernel
theorem dX8_remove_195 : decode cX8_remove 195 = .ok (.iload 6, 2) := by decide +kernel
theorem dX8_remove_197 : decode cX8_remove 197 = .ok (.iastore, 1) := by decide +kernel
theorem dX8_remove_198 : decode cX8_remove 198 = .ok (.aload_n 0, 1) := by decide +kernel
theorem dX8_remove_199 : decode cX8_remove 199 = .ok (.getfield 28, 3) := by decide +kernel
theorem dX8_remove_202 : decode cX8_remove 202 = .ok (.iload_n 3, 1) := by decide +kernel
theorem dX8_remove_203 : decode cX8_remove 203 = .ok (.aload_n 0, 1) := by decide +kernel
theorem dX8_remove_204 : decode cX8_remove 204 = .ok (.getfield 28, 3) := by decide +kernel
theorem dX8_remove_207 : decode cX8_remove 207 = .ok (.iload 4, 2) := by decide +kernel
theorem dX8_remove_209 : decode cX8_remove 209 = .ok (.iaload, 1) := by decide +kernel
theorem dX8_remove_210 : decode cX8_remove 210 = .ok (.iload_n 1, 1) := by decide +kernel
theorem dX8_remove_211 : decode cX8_remove 211 = .ok (.iload_n 2, 1) := by decide +kernel
theorem dX8_remove_212 : decode cX8_remove 212 = .ok (.invokestatic 104, 3) := by decide +kernel
theorem dX8_remove_215 : decode cX8_remove 215 = .ok (.iastore, 1) := by decide +kernel
theorem dX8_remove_216 : decode cX8_remove 216 = .ok (.aload_n 0, 1) := by decide +kernel
theorem dX8_remove_217 : decode cX8_remove 217 = .ok (.getfield 31, 3) := by decide +kernel
theorem dX8_remove_220 : decode cX8_remove 220 = .ok (.iload_n 3, 1) := by decide +kernel
theorem dX8_remove_221 : decode cX8_remove 221 = .ok (.aload_n 0, 1) := by decide +kernel
theorem dX8_remove_222 : decode cX8_remove 222 = .ok (.getfield 31, 3) := by decide +kernel
theorem dX8_remove_225 : decode cX8_remove 225 = .ok (.iload 4, 2) := by decide +kernel
theorem dX8_remove_227 : decode cX8_remove 227 = .ok (.iaload, 1) := by decide +kernel
theorem dX8_remove_228 : decode cX8_remove 228 = .ok (.iastore, 1) := by decide +kernel
theorem dX8_remove_229 : decode cX8_remove 229 = .ok (.iinc 3 1, 3) := by decide +kernel
theorem dX8_remove_232 : decode cX8_remove 232 = .ok (.iinc 4 1, 3) := by decide +kernel
theorem dX8_remove_235 : decode cX8_remove 235 = .ok (.goto (-97), 3) := by decide +kernel
theorem dX8_remove_238 : decode cX8_remove 238 = .ok (.aload_n 0, 1) := by decide +kernel
theorem dX8_remove_239 : decode cX8_remove 239 = .ok (.iload_n 3, 1) := by decide +kernel
theorem dX8_remove_240 : decode cX8_remove 240 = .ok (.putfield 49, 3) := by decide +kernel
theorem dX8_remove_243 : decode cX8_remove 243 = .ok (.return_, 1) := by decide +kernel
theorem dX8_set_0 : decode cX8_set 0 = .ok (.iload_n 1, 1) := by decide +kernel
theorem dX8_set_1 : decode cX8_set 1 = .ok (.ifCond .lt 26, 3) := by decide +kernel
theorem dX8_set_4 : decode cX8_set 4 = .ok (.iload_n 1, 1) := by decide +kernel
theorem dX8_set_5 : decode cX8_set 5 = .ok (.aload_n 0, 1) := by decide +kernel
theorem dX8_set_6 : decode cX8_set 6 = .ok (.getfield 9, 3) := by decide +kernel
theorem dX8_set_9 : decode cX8_set 9 = .ok (.arraylength, 1) := by decide +kernel
theorem dX8_set_10 : decode cX8_set 10 = .ok (.if_icmp .ge 17, 3) := by decide +kernel
theorem dX8_set_13 : decode cX8_set 13 = .ok (.aload_n 0, 1) := by decide +kernel
theorem dX8_set_14 : decode cX8_set 14 = .ok (.getfield 9, 3) := by decide +kernel
theorem dX8_set_17 : decode cX8_set 17 = .ok (.iload_n 1, 1) := by decide +kernel
theorem dX8_set_18 : decode cX8_set 18 = .ok (.iload_n 2, 1) := by decide +kernel
theorem dX8_set_19 : decode cX8_set 19 = .ok (.iastore, 1) := by decide +kernel
theorem dX8_set_20 : decode cX8_set 20 = .ok (.aload_n 0, 1) := by decide +kernel
theorem dX8_set_21 : decode cX8_set 21 = .ok (.getfield 15, 3) := by decide +kernel
theorem dX8_set_24 : decode cX8_set 24 = .ok (.iload_n 1, 1) := by decide +kernel
theorem dX8_set_25 : decode cX8_set 25 = .ok (.lload_n 3, 1) := by decide +kernel
theorem dX8_set_26 : decode cX8_set 26 = .ok (.lastore, 1) := by decide +kernel
theorem dX8_set_27 : decode cX8_set 27 = .ok (.return_, 1) := by decide +kernel
theorem dX8_setTarget_0 : decode cX8_setTarget 0 = .ok (.aload_n 0, 1) := by decide +kernel
theorem dX8_setTarget_1 : decode cX8_setTarget 1 = .ok (.iload_n 1, 1) := by decide +kernel
theorem dX8_setTarget_2 : decode cX8_setTarget 2 = .ok (.invokevirtual 52, 3) := by decide +kernel
theorem dX8_setTarget_5 : decode cX8_setTarget 5 = .ok (.invokestatic 56, 3) := by decide +kernel
theorem dX8_setTarget_8 : decode cX8_setTarget 8 = .ok (.ifCond .eq 16, 3) := by decide +kernel
theorem dX8_setTarget_11 : decode cX8_setTarget 11 = .ok (.aload_n 0, 1) := by decide +kernel
theorem dX8_setTarget_12 : decode cX8_setTarget 12 = .ok (.iload_n 1, 1) := by decide +kernel
theorem dX8_setTarget_13 : decode cX8_setTarget 13 = .ok (.aload_n 0, 1) := by decide +kernel
theorem dX8_setTarget_14 : decode cX8_setTarget 14 = .ok (.iload_n 1, 1) := by decide +kernel
theorem dX8_setTarget_15 : decode cX8_setTarget 15 = .ok (.invokevirtual 52, 3) := by decide +kernel
theorem dX8_setTarget_18 : decode cX8_setTarget 18 = .ok (.iload_n 3, 1) := by decide +kernel
theorem dX8_setTarget_19 : decode cX8_setTarget 19 = .ok (.i2l, 1) := by decide +kernel
theorem dX8_setTarget_20 : decode cX8_setTarget 20 = .ok (.invokevirtual 45, 3) := by decide +kernel
theorem dX8_setTarget_23 : decode cX8_setTarget 23 = .ok (.return_, 1) := by decide +kernel
theorem dX8_setTarget_24 : decode cX8_setTarget 24 = .ok (.aload_n 0, 1) := by decide +kernel
theorem dX8_setTarget_25 : decode cX8_setTarget 25 = .ok (.iload_n 1, 1) := by decide +kernel
theorem dX8_setTarget_26 : decode cX8_setTarget 26 = .ok (.invokevirtual 41, 3) := by decide +kernel
theorem dX8_setTarget_29 : decode cX8_setTarget 29 = .ok (.l2i, 1) := by decide +kernel
theorem dX8_setTarget_30 : decode cX8_setTarget 30 = .ok (.iconst 2, 1) := by decide +kernel
theorem dX8_setTarget_31 : decode cX8_setTarget 31 = .ok (.iadd, 1) := by decide +kernel
theorem dX8_setTarget_32 : decode cX8_setTarget 32 = .ok (.iload_n 2, 1) := by decide +kernel
theorem dX8_setTarget_33 : decode cX8_setTarget 33 = .ok (.iadd, 1) := by decide +kernel
theorem dX8_setTarget_34 : decode cX8_setTarget 34 = .ok (.istore 4, 2) := by decide +kernel
theorem dX8_setTarget_36 : decode cX8_setTarget 36 = .ok (.iload 4, 2) := by decide +kernel
theorem dX8_setTarget_38 : decode cX8_setTarget 38 = .ok (.ifCond .lt 20, 3) := by decide +kernel
theorem dX8_setTarget_41 : decode cX8_setTarget 41 = .ok (.iload 4, 2) := by decide +kernel
theorem dX8_setTarget_43 : decode cX8_setTarget 43 = .ok (.aload_n 0, 1) := by decide +kernel
theorem dX8_setTarget_44 : decode cX8_setTarget 44 = .ok (.getfield 38, 3) := by decide +kernel
theorem dX8_setTarget_47 : decode cX8_setTarget 47 = .ok (.if_icmp .ge 11, 3) := by decide +kernel
theorem dX8_setTarget_50 : decode cX8_setTarget 50 = .ok (.aload_n 0, 1) := by decide +kernel
theorem dX8_setTarget_51 : decode cX8_setTarget 51 = .ok (.getfield 19, 3) := by decide +kernel
theorem dX8_setTarget_54 : decode cX8_setTarget 54 = .ok (.iload 4, 2) := by decide +kernel
theorem dX8_setTarget_56 : decode cX8_setTarget 56 = .ok (.iload_n 3, 1) := by decide +kernel
theorem dX8_setTarget_57 : decode cX8_setTarget 57 = .ok (.iastore, 1) := by decide +kernel
theorem dX8_setTarget_58 : decode cX8_setTarget 58 = .ok (.return_, 1) := by decide +kernel
theorem dX8_stepOf_0 : decode cX8_stepOf 0 = .ok (.aload_n 0, 1) := by decide +kernel
theorem dX8_stepOf_1 : decode cX8_stepOf 1 = .ok (.iload_n 1, 1) := by decide +kernel
theorem dX8_stepOf_2 : decode cX8_stepOf 2 = .ok (.invokevirtual 41, 3) := by decide +kernel
theorem dX8_stepOf_5 : decode cX8_stepOf 5 = .ok (.bipush 8, 2) := by decide +kernel
theorem dX8_stepOf_7 : decode cX8_stepOf 7 = .ok (.lshr, 1) := by decide +kernel
theorem dX8_stepOf_8 : decode cX8_stepOf 8 = .ok (.l2i, 1) := by decide +kernel
theorem dX8_stepOf_9 : decode cX8_stepOf 9 = .ok (.ireturn, 1) := by decide +kernel
theorem dX8_tableAt_0 : decode cX8_tableAt 0 = .ok (.iload_n 1, 1) := by decide +kernel
theorem dX8_tableAt_1 : decode cX8_tableAt 1 = .ok (.ifCond .lt 11, 3) := by decide +kernel
theorem dX8_tableAt_4 : decode cX8_tableAt 4 = .ok (.iload_n 1, 1) := by decide +kernel
theorem dX8_tableAt_5 : decode cX8_tableAt 5 = .ok (.aload_n 0, 1) := by decide +kernel
theorem dX8_tableAt_6 : decode cX8_tableAt 6 = .ok (.getfield 38, 3) := by decide +kernel
theorem dX8_tableAt_9 : decode cX8_tableAt 9 = .ok (.if_icmp .lt 7, 3) := by decide +kernel
theorem dX8_tableAt_12 : decode cX8_tableAt 12 = .ok (.iconst 0, 1) := by decide +kernel
theorem dX8_tableAt_13 : decode cX8_tableAt 13 = .ok (.goto 9, 3) := by decide +kernel
theorem dX8_tableAt_16 : decode cX8_tableAt 16 = .ok (.aload_n 0, 1) := by decide +kernel
theorem dX8_tableAt_17 : decode cX8_tableAt 17 = .ok (.getfield 19, 3) := by decide +kernel
theorem dX8_tableAt_20 : decode cX8_tableAt 20 = .ok (.iload_n 1, 1) := by decide +kernel
theorem dX8_tableAt_21 : decode cX8_tableAt 21 = .ok (.iaload, 1) := by decide +kernel
theorem dX8_tableAt_22 : decode cX8_tableAt 22 = .ok (.ireturn, 1) := by decide +kernel
theorem dX8_targetAt_0 : decode cX8_targetAt 0 = .ok (.aload_n 0, 1) := by decide +kernel
theorem dX8_targetAt_1 : decode cX8_targetAt 1 = .ok (.iload_n 1, 1) := by decide +kernel
theorem dX8_targetAt_2 : decode cX8_targetAt 2 = .ok (.invokevirtual 52, 3) := by decide +kernel
theorem dX8_targetAt_5 : decode cX8_targetAt 5 = .ok (.invokestatic 56, 3) := by decide +kernel
theorem dX8_targetAt_8 : decode cX8_targetAt 8 = .ok (.ifCond .eq 12, 3) := by decide +kernel
theorem dX8_targetAt_11 : decode cX8_targetAt 11 = .ok (.aload_n 0, 1) := by decide +kernel
theorem dX8_targetAt_12 : decode cX8_targetAt 12 = .ok (.iload_n 1, 1) := by decide +kernel
theorem dX8_targetAt_13 : decode cX8_targetAt 13 = .ok (.invokevirtual 41, 3) := by decide +kernel
theorem dX8_targetAt_16 : decode cX8_targetAt 16 = .ok (.l2i, 1) := by decide +kernel
theorem dX8_targetAt_17 : decode cX8_targetAt 17 = .ok (.goto 17, 3) := by decide +kernel
theorem dX8_targetAt_20 : decode cX8_targetAt 20 = .ok (.aload_n 0, 1) := by decide +kernel
theorem dX8_targetAt_21 : decode cX8_targetAt 21 = .ok (.aload_n 0, 1) := by decide +kernel
theorem dX8_targetAt_22 : decode cX8_targetAt 22 = .ok (.iload_n 1, 1) := by decide +kernel
theorem dX8_targetAt_23 : decode cX8_targetAt 23 = .ok (.invokevirtual 41, 3) := by decide +kernel
theorem dX8_targetAt_26 : decode cX8_targetAt 26 = .ok (.l2i, 1) := by decide +kernel
theorem dX8_targetAt_27 : decode cX8_targetAt 27 = .ok (.iconst 2, 1) := by decide +kernel
theorem dX8_targetAt_28 : decode cX8_targetAt 28 = .ok (.iadd, 1) := by decide +kernel
theorem dX8_targetAt_29 : decode cX8_targetAt 29 = .ok (.iload_n 2, 1) := by decide +kernel
theorem dX8_targetAt_30 : decode cX8_targetAt 30 = .ok (.iadd, 1) := by decide +kernel
theorem dX8_targetAt_31 : decode cX8_targetAt 31 = .ok (.invokevirtual 65, 3) := by decide +kernel
theorem dX8_targetAt_34 : decode cX8_targetAt 34 = .ok (.ireturn, 1) := by decide +kernel
theorem dX8_targetCount_0 : decode cX8_targetCount 0 = .ok (.aload_n 0, 1) := by decide +kernel
theorem dX8_targetCount_1 : decode cX8_targetCount 1 = .ok (.iload_n 1, 1) := by decide +kernel

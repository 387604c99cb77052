theorem dX8_heightAt_4 : decode cX8_heightAt 4 = .ok (.ifnull 16, 3) := by decide +kernel
theorem dX8_heightAt_7 : decode cX8_heightAt 7 = .ok (.iload_n 1, 1) := by decide +kernel
theorem dX8_heightAt_8 : decode cX8_heightAt 8 = .ok (.ifCond .lt 12, 3) := by decide +kernel
theorem dX8_heightAt_11 : decode cX8_heightAt 11 = .ok (.iload_n 1, 1) := by decide +kernel
theorem dX8_heightAt_12 : decode cX8_heightAt 12 = .ok (.aload_n 0, 1) := by decide +kernel
theorem dX8_heightAt_13 : decode cX8_heightAt 13 = .ok (.getfield 72, 3) := by decide +kernel
theorem dX8_heightAt_16 : decode cX8_heightAt 16 = .ok (.arraylength, 1) := by decide +kernel
theorem dX8_heightAt_17 : decode cX8_heightAt 17 = .ok (.if_icmp .lt 7, 3) := by decide +kernel
theorem dX8_heightAt_20 : decode cX8_heightAt 20 = .ok (.iconst (-1), 1) := by decide +kernel
theorem dX8_heightAt_21 : decode cX8_heightAt 21 = .ok (.goto 9, 3) := by decide +kernel
theorem dX8_heightAt_24 : decode cX8_heightAt 24 = .ok (.aload_n 0, 1) := by decide +kernel
theorem dX8_heightAt_25 : decode cX8_heightAt 25 = .ok (.getfield 72, 3) := by decide +kernel
theorem dX8_heightAt_28 : decode cX8_heightAt 28 = .ok (.iload_n 1, 1) := by decide +kernel
theorem dX8_heightAt_29 : decode cX8_heightAt 29 = .ok (.baload, 1) := by decide +kernel
theorem dX8_heightAt_30 : decode cX8_heightAt 30 = .ok (.ireturn, 1) := by decide +kernel
theorem dX8_init_0 : decode cX8_init 0 = .ok (.aload_n 0, 1) := by decide +kernel
theorem dX8_init_1 : decode cX8_init 1 = .ok (.invokespecial 3, 3) := by decide +kernel
theorem dX8_init_4 : decode cX8_init 4 = .ok (.aload_n 0, 1) := by decide +kernel
theorem dX8_init_5 : decode cX8_init 5 = .ok (.iload_n 1, 1) := by decide +kernel
theorem dX8_init_6 : decode cX8_init 6 = .ok (.newarray .int, 2) := by decide +kernel
theorem dX8_init_8 : decode cX8_init 8 = .ok (.putfield 9, 3) := by decide +kernel
theorem dX8_init_11 : decode cX8_init 11 = .ok (.aload_n 0, 1) := by decide +kernel
theorem dX8_init_12 : decode cX8_init 12 = .ok (.iload_n 1, 1) := by decide +kernel
theorem dX8_init_13 : decode cX8_init 13 = .ok (.newarray .long, 2) := by decide +kernel
theorem dX8_init_15 : decode cX8_init 15 = .ok (.putfield 15, 3) := by decide +kernel
theorem dX8_init_18 : decode cX8_init 18 = .ok (.aload_n 0, 1) := by decide +kernel
theorem dX8_init_19 : decode cX8_init 19 = .ok (.iload_n 2, 1) := by decide +kernel
theorem dX8_init_20 : decode cX8_init 20 = .ok (.newarray .int, 2) := by decide +kernel
theorem dX8_init_22 : decode cX8_init 22 = .ok (.putfield 19, 3) := by decide +kernel
theorem dX8_init_25 : decode cX8_init 25 = .ok (.aload_n 0, 1) := by decide +kernel
theorem dX8_init_26 : decode cX8_init 26 = .ok (.iload_n 3, 1) := by decide +kernel
theorem dX8_init_27 : decode cX8_init 27 = .ok (.newarray .int, 2) := by decide +kernel
theorem dX8_init_29 : decode cX8_init 29 = .ok (.putfield 22, 3) := by decide +kernel
theorem dX8_init_32 : decode cX8_init 32 = .ok (.aload_n 0, 1) := by decide +kernel
theorem dX8_init_33 : decode cX8_init 33 = .ok (.iload_n 3, 1) := by decide +kernel
theorem dX8_init_34 : decode cX8_init 34 = .ok (.newarray .int, 2) := by decide +kernel
theorem dX8_init_36 : decode cX8_init 36 = .ok (.putfield 25, 3) := by decide +kernel
theorem dX8_init_39 : decode cX8_init 39 = .ok (.aload_n 0, 1) := by decide +kernel
theorem dX8_init_40 : decode cX8_init 40 = .ok (.iload_n 3, 1) := by decide +kernel
theorem dX8_init_41 : decode cX8_init 41 = .ok (.newarray .int, 2) := by decide +kernel
theorem dX8_init_43 : decode cX8_init 43 = .ok (.putfield 28, 3) := by decide +kernel
theorem dX8_init_46 : decode cX8_init 46 = .ok (.aload_n 0, 1) := by decide +kernel
theorem dX8_init_47 : decode cX8_init 47 = .ok (.iload_n 3, 1) := by decide +kernel
theorem dX8_init_48 : decode cX8_init 48 = .ok (.newarray .int, 2) := by decide +kernel
theorem dX8_init_50 : decode cX8_init 50 = .ok (.putfield 31, 3) := by decide +kernel
theorem dX8_init_53 : decode cX8_init 53 = .ok (.return_, 1) := by decide +kernel
theorem dX8_isCaught_0 : decode cX8_isCaught 0 = .ok (.iconst 0, 1) := by decide +kernel
theorem dX8_isCaught_1 : decode cX8_isCaught 1 = .ok (.istore_n 2, 1) := by decide +kernel
theorem dX8_isCaught_2 : decode cX8_isCaught 2 = .ok (.iload_n 2, 1) := by decide +kernel
theorem dX8_isCaught_3 : decode cX8_isCaught 3 = .ok (.aload_n 0, 1) := by decide +kernel
theorem dX8_isCaught_4 : decode cX8_isCaught 4 = .ok (.getfield 49, 3) := by decide +kernel
theorem dX8_isCaught_7 : decode cX8_isCaught 7 = .ok (.if_icmp .ge 20, 3) := by decide +kernel
theorem dX8_isCaught_10 : decode cX8_isCaught 10 = .ok (.aload_n 0, 1) := by decide +kernel
theorem dX8_isCaught_11 : decode cX8_isCaught 11 = .ok (.iload_n 2, 1) := by decide +kernel
theorem dX8_isCaught_12 : decode cX8_isCaught 12 = .ok (.iload_n 1, 1) := by decide +kernel
theorem dX8_isCaught_13 : decode cX8_isCaught 13 = .ok (.invokevirtual 68, 3) := by decide +kernel
theorem dX8_isCaught_16 : decode cX8_isCaught 16 = .ok (.ifCond .eq 5, 3) := by decide +kernel
theorem dX8_isCaught_19 : decode cX8_isCaught 19 = .ok (.iconst 1, 1) := by decide +kernel
theorem dX8_isCaught_20 : decode cX8_isCaught 20 = .ok (.ireturn, 1) := by decide +kernel
theorem dX8_isCaught_21 : decode cX8_isCaught 21 = .ok (.iinc 2 1, 3) := by decide +kernel
theorem dX8_isCaught_24 : decode cX8_isCaught 24 = .ok (.goto (-22), 3) := by decide +kernel
theorem dX8_isCaught_27 : decode cX8_isCaught 27 = .ok (.iconst 0, 1) := by decide +kernel
theorem dX8_isCaught_28 : decode cX8_isCaught 28 = .ok (.ireturn, 1) := by decide +kernel
theorem dX8_localAt_0 : decode cX8_localAt 0 = .ok (.aload_n 0, 1) := by decide +kernel
theorem dX8_localAt_1 : decode cX8_localAt 1 = .ok (.getfield 76, 3) := by decide +kernel
theorem dX8_localAt_4 : decode cX8_localAt 4 = .ok (.ifnull 32, 3) := by decide +kernel
theorem dX8_localAt_7 : decode cX8_localAt 7 = .ok (.aload_n 0, 1) := by decide +kernel
theorem dX8_localAt_8 : decode cX8_localAt 8 = .ok (.getfield 79, 3) := by decide +kernel
theorem dX8_localAt_11 : decode cX8_localAt 11 = .ok (.ifnull 25, 3) := by decide +kernel
theorem dX8_localAt_14 : decode cX8_localAt 14 = .ok (.iload_n 1, 1) := by decide +kernel
theorem dX8_localAt_15 : decode cX8_localAt 15 = .ok (.ifCond .lt 21, 3) := by decide +kernel
theorem dX8_localAt_18 : decode cX8_localAt 18 = .ok (.iload_n 1, 1) := by decide +kernel
theorem dX8_localAt_19 : decode cX8_localAt 19 = .ok (.aload_n 0, 1) := by decide +kernel
theorem dX8_localAt_20 : decode cX8_localAt 20 = .ok (.getfield 76, 3) := by decide +kernel
theorem dX8_localAt_23 : decode cX8_localAt 23 = .ok (.arraylength, 1) := by decide +kernel
theorem dX8_localAt_24 : decode cX8_localAt 24 = .ok (.if_icmp .ge 12, 3) := by decide +kernel
theorem dX8_localAt_27 : decode cX8_localAt 27 = .ok (.iload_n 1, 1) := by decide +kernel
theorem dX8_localAt_28 : decode cX8_localAt 28 = .ok (.aload_n 0, 1) := by decide +kernel
theorem dX8_localAt_29 : decode cX8_localAt 29 = .ok (.getfield 79, 3) := by decide +kernel
theorem dX8_localAt_32 : decode cX8_localAt 32 = .ok (.arraylength, 1) := by decide +kernel
theorem dX8_localAt_33 : decode cX8_localAt 33 = .ok (.if_icmp .lt 5, 3) := by decide +kernel
theorem dX8_localAt_36 : decode cX8_localAt 36 = .ok (.iconst 0, 1) := by decide +kernel
theorem dX8_localAt_37 : decode cX8_localAt 37 = .ok (.ireturn, 1) := by decide +kernel
theorem dX8_localAt_38 : decode cX8_localAt 38 = .ok (.iload_n 2, 1) := by decide +kernel
theorem dX8_localAt_39 : decode cX8_localAt 39 = .ok (.bipush 16, 2) := by decide +kernel
theorem dX8_localAt_41 : decode cX8_localAt 41 = .ok (.if_icmp .ge 16, 3) := by decide +kernel
theorem dX8_localAt_44 : decode cX8_localAt 44 = .ok (.aload_n 0, 1) := by decide +kernel
theorem dX8_localAt_45 : decode cX8_localAt 45 = .ok (.getfield 76, 3) := by decide +kernel
theorem dX8_localAt_48 : decode cX8_localAt 48 = .ok (.iload_n 1, 1) := by decide +kernel
theorem dX8_localAt_49 : decode cX8_localAt 49 = .ok (.laload, 1) := by decide +kernel
theorem dX8_localAt_50 : decode cX8_localAt 50 = .ok (.iconst 4, 1) := by decide +kernel
theorem dX8_localAt_51 : decode cX8_localAt 51 = .ok (.iload_n 2, 1) := by decide +kernel
theorem dX8_localAt_52 : decode cX8_localAt 52 = .ok (.imul, 1) := by decide +kernel
theorem dX8_localAt_53 : decode cX8_localAt 53 = .ok (.lushr, 1) := by decide +kernel
theorem dX8_localAt_54 : decode cX8_localAt 54 = .ok (.goto 16, 3) := by decide +kernel
theorem dX8_localAt_57 : decode cX8_localAt 57 = .ok (.aload_n 0, 1) := by decide +kernel
theorem dX8_localAt_58 : decode cX8_localAt 58 = .ok (.getfield 79, 3) := by decide +kernel
theorem dX8_localAt_61 : decode cX8_localAt 61 = .ok (.iload_n 1, 1) := by decide +kernel
theorem dX8_localAt_62 : decode cX8_localAt 62 = .ok (.laload, 1) := by decide +kernel
theorem dX8_localAt_63 : decode cX8_localAt 63 = .ok (.iconst 4, 1) := by decide +kernel
theorem dX8_localAt_64 : decode cX8_localAt 64 = .ok (.iload_n 2, 1) := by decide +kernel
theorem dX8_localAt_65 : decode cX8_localAt 65 = .ok (.bipush 16, 2) := by decide +kernel
theorem dX8_localAt_67 : decode cX8_localAt 67 = .ok (.isub, 1) := by decide +kernel
theorem dX8_localAt_68 : decode cX8_localAt 68 = .ok (.imul, 1) := by decide +kernel
theorem dX8_localAt_69 : decode cX8_localAt 69 = .ok (.lushr, 1) := by decide +kernel
theorem dX8_localAt_70 : decode cX8_localAt 70 = .ok (.l2i, 1) := by decide +kernel
theorem dX8_localAt_71 : decode cX8_localAt 71 = .ok (.bipush 15, 2) := by decide +kernel
theorem dX8_localAt_73 : decode cX8_localAt 73 = .ok (.iand, 1) := by decide +kernel
theorem dX8_localAt_74 : decode cX8_localAt 74 = .ok (.ireturn, 1) := by decide +kernel
theorem dX8_localOf_0 : decode cX8_localOf 0 = .ok (.aload_n 0, 1) := by decide +kernel
theorem dX8_localOf_1 : decode cX8_localOf 1 = .ok (.iload_n 1, 1) := by decide +kernel
theorem dX8_localOf_2 : decode cX8_localOf 2 = .ok (.invokevirtual 41, 3) := by decide +kernel
theorem dX8_localOf_5 : decode cX8_localOf 5 = .ok (.l2i, 1) := by decide +kernel
theorem dX8_localOf_6 : decode cX8_localOf 6 = .ok (.sipush 255, 3) := by decide +kernel
theorem dX8_localOf_9 : decode cX8_localOf 9 = .ok (.iand, 1) := by decide +kernel
theorem dX8_localOf_10 : decode cX8_localOf 10 = .ok (.ireturn, 1) := by decide +kernel
theorem dX8_opAt_0 : decode cX8_opAt 0 = .ok (.iload_n 1, 1) := by decide +kernel
theorem dX8_opAt_1 : decode cX8_opAt 1 = .ok (.ifCond .lt 11, 3) := by decide +kernel
theorem dX8_opAt_4 : decode cX8_opAt 4 = .ok (.iload_n 1, 1) := by decide +kernel
theorem dX8_opAt_5 : decode cX8_opAt 5 = .ok (.aload_n 0, 1) := by decide +kernel
theorem dX8_opAt_6 : decode cX8_opAt 6 = .ok (.getfield 34, 3) := by decide +kernel
theorem dX8_opAt_9 : decode cX8_opAt 9 = .ok (.if_icmp .lt 7, 3) := by decide +kernel
theorem dX8_opAt_12 : decode cX8_opAt 12 = .ok (.iconst (-1), 1) := by decide +kernel
theorem dX8_opAt_13 : decode cX8_opAt 13 = .ok (.goto 9, 3) := by decide +kernel
theorem dX8_opAt_16 : decode cX8_opAt 16 = .ok (.aload_n 0, 1) := by decide +kernel
theorem dX8_opAt_17 : decode cX8_opAt 17 = .ok (.getfield 9, 3) := by decide +kernel
theorem dX8_opAt_20 : decode cX8_opAt 20 = .ok (.iload_n 1, 1) := by decide +kernel
theorem dX8_opAt_21 : decode cX8_opAt 21 = .ok (.iaload, 1) := by decide +kernel
theorem dX8_opAt_22 : decode cX8_opAt 22 = .ok (.ireturn, 1) := by decide +kernel
theorem dX8_remove_0 : decode cX8_remove 0 = .ok (.iload_n 1, 1) := by decide +kernel
theorem dX8_remove_1 : decode cX8_remove 1 = .ok (.ifCond .lt 17, 3) := by decide +kernel
theorem dX8_remove_4 : decode cX8_remove 4 = .ok (.iload_n 2, 1) := by decide +kernel
theorem dX8_remove_5 : decode cX8_remove 5 = .ok (.ifCond .le 13, 3) := by decide +kernel
theorem dX8_remove_8 : decode cX8_remove 8 = .ok (.iload_n 1, 1) := by decide +kernel
theorem dX8_remove_9 : decode cX8_remove 9 = .ok (.iload_n 2, 1) := by decide +kernel
theorem dX8_remove_10 : decode cX8_remove 10 = .ok (.iadd, 1) := by decide +kernel
theorem dX8_remove_11 : decode cX8_remove 11 = .ok (.aload_n 0, 1) := by decide +kernel
theorem dX8_remove_12 : decode cX8_remove 12 = .ok (.getfield 34, 3) := by decide +kernel
theorem dX8_remove_15 : decode cX8_remove 15 = .ok (.if_icmp .le 4, 3) := by decide +kernel
theorem dX8_remove_18 : decode cX8_remove 18 = .ok (.return_, 1) := by decide +kernel
theorem dX8_remove_19 : decode cX8_remove 19 = .ok (.iload_n 1, 1) := by decide +kernel
theorem dX8_remove_20 : decode cX8_remove 20 = .ok (.istore_n 3, 1) := by decide +kernel
theorem dX8_remove_21 : decode cX8_remove 21 = .ok (.iload_n 3, 1) := by decide +kernel
theorem dX8_remove_22 : decode cX8_remove 22 = .ok (.iload_n 2, 1) := by decide +kernel
theorem dX8_remove_23 : decode cX8_remove 23 = .ok (.iadd, 1) := by decide +kernel
theorem dX8_remove_24 : decode cX8_remove 24 = .ok (.aload_n 0, 1) := by decide +kernel
theorem dX8_remove_25 : decode cX8_remove 25 = .ok (.getfield 34, 3) := by decide +kernel
theorem dX8_remove_28 : decode cX8_remove 28 = .ok (.if_icmp .ge 37, 3) := by decide +kernel
theorem dX8_remove_31 : decode cX8_remove 31 = .ok (.aload_n 0, 1) := by decide +kernel
theorem dX8_remove_32 : decode cX8_remove 32 = .ok (.getfield 9, 3) := by decide +kernel

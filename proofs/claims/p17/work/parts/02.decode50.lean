theorem dX4_comeTo_28 : decode cX4_comeTo 28 = .ok (.iload_n 2, 1) := by decide +kernel
theorem dX4_comeTo_29 : decode cX4_comeTo 29 = .ok (.bipush 30, 2) := by decide +kernel
theorem dX4_comeTo_31 : decode cX4_comeTo 31 = .ok (.if_icmp .gt 16, 3) := by decide +kernel
theorem dX4_comeTo_34 : decode cX4_comeTo 34 = .ok (.aload_n 0, 1) := by decide +kernel
theorem dX4_comeTo_35 : decode cX4_comeTo 35 = .ok (.getfield 9, 3) := by decide +kernel
theorem dX4_comeTo_38 : decode cX4_comeTo 38 = .ok (.iload_n 1, 1) := by decide +kernel
theorem dX4_comeTo_39 : decode cX4_comeTo 39 = .ok (.iaload, 1) := by decide +kernel
theorem dX4_comeTo_40 : decode cX4_comeTo 40 = .ok (.iload_n 2, 1) := by decide +kernel
theorem dX4_comeTo_41 : decode cX4_comeTo 41 = .ok (.ishr, 1) := by decide +kernel
theorem dX4_comeTo_42 : decode cX4_comeTo 42 = .ok (.iconst 1, 1) := by decide +kernel
theorem dX4_comeTo_43 : decode cX4_comeTo 43 = .ok (.iand, 1) := by decide +kernel
theorem dX4_comeTo_44 : decode cX4_comeTo 44 = .ok (.ifCond .eq 4, 3) := by decide +kernel
theorem dX4_comeTo_47 : decode cX4_comeTo 47 = .ok (.return_, 1) := by decide +kernel
theorem dX4_comeTo_48 : decode cX4_comeTo 48 = .ok (.aload_n 0, 1) := by decide +kernel
theorem dX4_comeTo_49 : decode cX4_comeTo 49 = .ok (.getfield 9, 3) := by decide +kernel
theorem dX4_comeTo_52 : decode cX4_comeTo 52 = .ok (.iload_n 1, 1) := by decide +kernel
theorem dX4_comeTo_53 : decode cX4_comeTo 53 = .ok (.dup2, 1) := by decide +kernel
theorem dX4_comeTo_54 : decode cX4_comeTo 54 = .ok (.iaload, 1) := by decide +kernel
theorem dX4_comeTo_55 : decode cX4_comeTo 55 = .ok (.iconst 1, 1) := by decide +kernel
theorem dX4_comeTo_56 : decode cX4_comeTo 56 = .ok (.iload_n 2, 1) := by decide +kernel
theorem dX4_comeTo_57 : decode cX4_comeTo 57 = .ok (.ishl, 1) := by decide +kernel
theorem dX4_comeTo_58 : decode cX4_comeTo 58 = .ok (.ior, 1) := by decide +kernel
theorem dX4_comeTo_59 : decode cX4_comeTo 59 = .ok (.iastore, 1) := by decide +kernel
theorem dX4_comeTo_60 : decode cX4_comeTo 60 = .ok (.aload_n 0, 1) := by decide +kernel
theorem dX4_comeTo_61 : decode cX4_comeTo 61 = .ok (.getfield 15, 3) := by decide +kernel
theorem dX4_comeTo_64 : decode cX4_comeTo 64 = .ok (.iload_n 1, 1) := by decide +kernel
theorem dX4_comeTo_65 : decode cX4_comeTo 65 = .ok (.dup2, 1) := by decide +kernel
theorem dX4_comeTo_66 : decode cX4_comeTo 66 = .ok (.iaload, 1) := by decide +kernel
theorem dX4_comeTo_67 : decode cX4_comeTo 67 = .ok (.iconst 1, 1) := by decide +kernel
theorem dX4_comeTo_68 : decode cX4_comeTo 68 = .ok (.iload_n 2, 1) := by decide +kernel
theorem dX4_comeTo_69 : decode cX4_comeTo 69 = .ok (.ishl, 1) := by decide +kernel
theorem dX4_comeTo_70 : decode cX4_comeTo 70 = .ok (.ior, 1) := by decide +kernel
theorem dX4_comeTo_71 : decode cX4_comeTo 71 = .ok (.iastore, 1) := by decide +kernel
theorem dX4_comeTo_72 : decode cX4_comeTo 72 = .ok (.aload_n 0, 1) := by decide +kernel
theorem dX4_comeTo_73 : decode cX4_comeTo 73 = .ok (.iconst 1, 1) := by decide +kernel
theorem dX4_comeTo_74 : decode cX4_comeTo 74 = .ok (.putfield 50, 3) := by decide +kernel
theorem dX4_comeTo_77 : decode cX4_comeTo 77 = .ok (.return_, 1) := by decide +kernel
theorem dX4_heightAt_0 : decode cX4_heightAt 0 = .ok (.iload_n 1, 1) := by decide +kernel
theorem dX4_heightAt_1 : decode cX4_heightAt 1 = .ok (.ifCond .lt 21, 3) := by decide +kernel
theorem dX4_heightAt_4 : decode cX4_heightAt 4 = .ok (.iload_n 1, 1) := by decide +kernel
theorem dX4_heightAt_5 : decode cX4_heightAt 5 = .ok (.aload_n 0, 1) := by decide +kernel
theorem dX4_heightAt_6 : decode cX4_heightAt 6 = .ok (.getfield 9, 3) := by decide +kernel
theorem dX4_heightAt_9 : decode cX4_heightAt 9 = .ok (.arraylength, 1) := by decide +kernel
theorem dX4_heightAt_10 : decode cX4_heightAt 10 = .ok (.if_icmp .ge 12, 3) := by decide +kernel
theorem dX4_heightAt_13 : decode cX4_heightAt 13 = .ok (.aload_n 0, 1) := by decide +kernel
theorem dX4_heightAt_14 : decode cX4_heightAt 14 = .ok (.getfield 9, 3) := by decide +kernel
theorem dX4_heightAt_17 : decode cX4_heightAt 17 = .ok (.iload_n 1, 1) := by decide +kernel
theorem dX4_heightAt_18 : decode cX4_heightAt 18 = .ok (.iaload, 1) := by decide +kernel
theorem dX4_heightAt_19 : decode cX4_heightAt 19 = .ok (.ifCond .ne 7, 3) := by decide +kernel
theorem dX4_heightAt_22 : decode cX4_heightAt 22 = .ok (.iconst (-1), 1) := by decide +kernel
theorem dX4_heightAt_23 : decode cX4_heightAt 23 = .ok (.goto 12, 3) := by decide +kernel
theorem dX4_heightAt_26 : decode cX4_heightAt 26 = .ok (.aload_n 0, 1) := by decide +kernel
theorem dX4_heightAt_27 : decode cX4_heightAt 27 = .ok (.getfield 9, 3) := by decide +kernel
theorem dX4_heightAt_30 : decode cX4_heightAt 30 = .ok (.iload_n 1, 1) := by decide +kernel
theorem dX4_heightAt_31 : decode cX4_heightAt 31 = .ok (.iaload, 1) := by decide +kernel
theorem dX4_heightAt_32 : decode cX4_heightAt 32 = .ok (.invokestatic 116, 3) := by decide +kernel
theorem dX4_heightAt_35 : decode cX4_heightAt 35 = .ok (.ireturn, 1) := by decide +kernel
theorem dX4_init_0 : decode cX4_init 0 = .ok (.aload_n 0, 1) := by decide +kernel
theorem dX4_init_1 : decode cX4_init 1 = .ok (.invokespecial 3, 3) := by decide +kernel
theorem dX4_init_4 : decode cX4_init 4 = .ok (.aload_n 0, 1) := by decide +kernel
theorem dX4_init_5 : decode cX4_init 5 = .ok (.iconst 0, 1) := by decide +kernel
theorem dX4_init_6 : decode cX4_init 6 = .ok (.newarray .int, 2) := by decide +kernel
theorem dX4_init_8 : decode cX4_init 8 = .ok (.putfield 9, 3) := by decide +kernel
theorem dX4_init_11 : decode cX4_init 11 = .ok (.aload_n 0, 1) := by decide +kernel
theorem dX4_init_12 : decode cX4_init 12 = .ok (.iconst 0, 1) := by decide +kernel
theorem dX4_init_13 : decode cX4_init 13 = .ok (.newarray .int, 2) := by decide +kernel
theorem dX4_init_15 : decode cX4_init 15 = .ok (.putfield 15, 3) := by decide +kernel
theorem dX4_init_18 : decode cX4_init 18 = .ok (.aload_n 0, 1) := by decide +kernel
theorem dX4_init_19 : decode cX4_init 19 = .ok (.iconst 0, 1) := by decide +kernel
theorem dX4_init_20 : decode cX4_init 20 = .ok (.newarray .boolean, 2) := by decide +kernel
theorem dX4_init_22 : decode cX4_init 22 = .ok (.putfield 18, 3) := by decide +kernel
theorem dX4_init_25 : decode cX4_init 25 = .ok (.return_, 1) := by decide +kernel
theorem dX4_isWrong_0 : decode cX4_isWrong 0 = .ok (.iload_n 1, 1) := by decide +kernel
theorem dX4_isWrong_1 : decode cX4_isWrong 1 = .ok (.ifCond .lt 38, 3) := by decide +kernel
theorem dX4_isWrong_4 : decode cX4_isWrong 4 = .ok (.iload_n 1, 1) := by decide +kernel
theorem dX4_isWrong_5 : decode cX4_isWrong 5 = .ok (.aload_n 0, 1) := by decide +kernel
theorem dX4_isWrong_6 : decode cX4_isWrong 6 = .ok (.getfield 18, 3) := by decide +kernel
theorem dX4_isWrong_9 : decode cX4_isWrong 9 = .ok (.arraylength, 1) := by decide +kernel
theorem dX4_isWrong_10 : decode cX4_isWrong 10 = .ok (.if_icmp .ge 29, 3) := by decide +kernel
theorem dX4_isWrong_13 : decode cX4_isWrong 13 = .ok (.aload_n 0, 1) := by decide +kernel
theorem dX4_isWrong_14 : decode cX4_isWrong 14 = .ok (.getfield 18, 3) := by decide +kernel
theorem dX4_isWrong_17 : decode cX4_isWrong 17 = .ok (.iload_n 1, 1) := by decide +kernel
theorem dX4_isWrong_18 : decode cX4_isWrong 18 = .ok (.baload, 1) := by decide +kernel
theorem dX4_isWrong_19 : decode cX4_isWrong 19 = .ok (.ifCond .ne 16, 3) := by decide +kernel
theorem dX4_isWrong_22 : decode cX4_isWrong 22 = .ok (.aload_n 0, 1) := by decide +kernel
theorem dX4_isWrong_23 : decode cX4_isWrong 23 = .ok (.getfield 9, 3) := by decide +kernel
theorem dX4_isWrong_26 : decode cX4_isWrong 26 = .ok (.iload_n 1, 1) := by decide +kernel
theorem dX4_isWrong_27 : decode cX4_isWrong 27 = .ok (.iaload, 1) := by decide +kernel
theorem dX4_isWrong_28 : decode cX4_isWrong 28 = .ok (.invokestatic 111, 3) := by decide +kernel
theorem dX4_isWrong_31 : decode cX4_isWrong 31 = .ok (.iconst 1, 1) := by decide +kernel
theorem dX4_isWrong_32 : decode cX4_isWrong 32 = .ok (.if_icmp .le 7, 3) := by decide +kernel
theorem dX4_isWrong_35 : decode cX4_isWrong 35 = .ok (.iconst 1, 1) := by decide +kernel
theorem dX4_isWrong_36 : decode cX4_isWrong 36 = .ok (.goto 4, 3) := by decide +kernel
theorem dX4_isWrong_39 : decode cX4_isWrong 39 = .ok (.iconst 0, 1) := by decide +kernel
theorem dX4_isWrong_40 : decode cX4_isWrong 40 = .ok (.ireturn, 1) := by decide +kernel
theorem dX4_makeRoom_0 : decode cX4_makeRoom 0 = .ok (.aload_n 0, 1) := by decide +kernel
theorem dX4_makeRoom_1 : decode cX4_makeRoom 1 = .ok (.getfield 9, 3) := by decide +kernel
theorem dX4_makeRoom_4 : decode cX4_makeRoom 4 = .ok (.arraylength, 1) := by decide +kernel
theorem dX4_makeRoom_5 : decode cX4_makeRoom 5 = .ok (.iload_n 1, 1) := by decide +kernel
theorem dX4_makeRoom_6 : decode cX4_makeRoom 6 = .ok (.if_icmp .ge 30, 3) := by decide +kernel
theorem dX4_makeRoom_9 : decode cX4_makeRoom 9 = .ok (.aload_n 0, 1) := by decide +kernel
theorem dX4_makeRoom_10 : decode cX4_makeRoom 10 = .ok (.iconst 2, 1) := by decide +kernel
theorem dX4_makeRoom_11 : decode cX4_makeRoom 11 = .ok (.iload_n 1, 1) := by decide +kernel
theorem dX4_makeRoom_12 : decode cX4_makeRoom 12 = .ok (.imul, 1) := by decide +kernel
theorem dX4_makeRoom_13 : decode cX4_makeRoom 13 = .ok (.newarray .int, 2) := by decide +kernel
theorem dX4_makeRoom_15 : decode cX4_makeRoom 15 = .ok (.putfield 9, 3) := by decide +kernel
theorem dX4_makeRoom_18 : decode cX4_makeRoom 18 = .ok (.aload_n 0, 1) := by decide +kernel
theorem dX4_makeRoom_19 : decode cX4_makeRoom 19 = .ok (.iconst 2, 1) := by decide +kernel
theorem dX4_makeRoom_20 : decode cX4_makeRoom 20 = .ok (.iload_n 1, 1) := by decide +kernel
theorem dX4_makeRoom_21 : decode cX4_makeRoom 21 = .ok (.imul, 1) := by decide +kernel
theorem dX4_makeRoom_22 : decode cX4_makeRoom 22 = .ok (.newarray .int, 2) := by decide +kernel
theorem dX4_makeRoom_24 : decode cX4_makeRoom 24 = .ok (.putfield 15, 3) := by decide +kernel
theorem dX4_makeRoom_27 : decode cX4_makeRoom 27 = .ok (.aload_n 0, 1) := by decide +kernel
theorem dX4_makeRoom_28 : decode cX4_makeRoom 28 = .ok (.iconst 2, 1) := by decide +kernel
theorem dX4_makeRoom_29 : decode cX4_makeRoom 29 = .ok (.iload_n 1, 1) := by decide +kernel
theorem dX4_makeRoom_30 : decode cX4_makeRoom 30 = .ok (.imul, 1) := by decide +kernel
theorem dX4_makeRoom_31 : decode cX4_makeRoom 31 = .ok (.newarray .boolean, 2) := by decide +kernel
theorem dX4_makeRoom_33 : decode cX4_makeRoom 33 = .ok (.putfield 18, 3) := by decide +kernel
theorem dX4_makeRoom_36 : decode cX4_makeRoom 36 = .ok (.aload_n 0, 1) := by decide +kernel
theorem dX4_makeRoom_37 : decode cX4_makeRoom 37 = .ok (.getfield 9, 3) := by decide +kernel
theorem dX4_makeRoom_40 : decode cX4_makeRoom 40 = .ok (.iconst 0, 1) := by decide +kernel
theorem dX4_makeRoom_41 : decode cX4_makeRoom 41 = .ok (.invokestatic 58, 3) := by decide +kernel
theorem dX4_makeRoom_44 : decode cX4_makeRoom 44 = .ok (.aload_n 0, 1) := by decide +kernel
theorem dX4_makeRoom_45 : decode cX4_makeRoom 45 = .ok (.getfield 15, 3) := by decide +kernel
theorem dX4_makeRoom_48 : decode cX4_makeRoom 48 = .ok (.iconst 0, 1) := by decide +kernel
theorem dX4_makeRoom_49 : decode cX4_makeRoom 49 = .ok (.invokestatic 58, 3) := by decide +kernel
theorem dX4_makeRoom_52 : decode cX4_makeRoom 52 = .ok (.iconst 0, 1) := by decide +kernel
theorem dX4_makeRoom_53 : decode cX4_makeRoom 53 = .ok (.istore_n 2, 1) := by decide +kernel
theorem dX4_makeRoom_54 : decode cX4_makeRoom 54 = .ok (.iload_n 2, 1) := by decide +kernel
theorem dX4_makeRoom_55 : decode cX4_makeRoom 55 = .ok (.aload_n 0, 1) := by decide +kernel
theorem dX4_makeRoom_56 : decode cX4_makeRoom 56 = .ok (.getfield 18, 3) := by decide +kernel
theorem dX4_makeRoom_59 : decode cX4_makeRoom 59 = .ok (.arraylength, 1) := by decide +kernel
theorem dX4_makeRoom_60 : decode cX4_makeRoom 60 = .ok (.if_icmp .ge 16, 3) := by decide +kernel
theorem dX4_makeRoom_63 : decode cX4_makeRoom 63 = .ok (.aload_n 0, 1) := by decide +kernel
theorem dX4_makeRoom_64 : decode cX4_makeRoom 64 = .ok (.getfield 18, 3) := by decide +kernel
theorem dX4_makeRoom_67 : decode cX4_makeRoom 67 = .ok (.iload_n 2, 1) := by decide +kernel
theorem dX4_makeRoom_68 : decode cX4_makeRoom 68 = .ok (.iconst 0, 1) := by decide +kernel
theorem dX4_makeRoom_69 : decode cX4_makeRoom 69 = .ok (.bastore, 1) := by decide +kernel
theorem dX4_makeRoom_70 : decode cX4_makeRoom 70 = .ok (.iinc 2 1, 3) := by decide +kernel
theorem dX4_makeRoom_73 : decode cX4_makeRoom 73 = .ok (.goto (-19), 3) := by decide +kernel
theorem dX4_makeRoom_76 : decode cX4_makeRoom 76 = .ok (.return_, 1) := by decide +kernel
theorem dX4_seek_0 : decode cX4_seek 0 = .ok (.aload_n 0, 1) := by decide +kernel
theorem dX4_seek_1 : decode cX4_seek 1 = .ok (.aload_n 1, 1) := by decide +kernel
theorem dX4_seek_2 : decode cX4_seek 2 = .ok (.putfield 22, 3) := by decide +kernel
theorem dX4_seek_5 : decode cX4_seek 5 = .ok (.aload_n 0, 1) := by decide +kernel
theorem dX4_seek_6 : decode cX4_seek 6 = .ok (.aload_n 2, 1) := by decide +kernel
theorem dX4_seek_7 : decode cX4_seek 7 = .ok (.putfield 26, 3) := by decide +kernel
theorem dX4_seek_10 : decode cX4_seek 10 = .ok (.aload_n 0, 1) := by decide +kernel
theorem dX4_seek_11 : decode cX4_seek 11 = .ok (.iload_n 3, 1) := by decide +kernel
theorem dX4_seek_12 : decode cX4_seek 12 = .ok (.putfield 30, 3) := by decide +kernel

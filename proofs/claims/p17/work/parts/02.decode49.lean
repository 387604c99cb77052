theorem dX3_reachedCount_13 : decode cX3_reachedCount 13 = .ok (.aload_n 0, 1) := by decide +kernel
theorem dX3_reachedCount_14 : decode cX3_reachedCount 14 = .ok (.getfield 30, 3) := by decide +kernel
theorem dX3_reachedCount_17 : decode cX3_reachedCount 17 = .ok (.iload_n 2, 1) := by decide +kernel
theorem dX3_reachedCount_18 : decode cX3_reachedCount 18 = .ok (.baload, 1) := by decide +kernel
theorem dX3_reachedCount_19 : decode cX3_reachedCount 19 = .ok (.ifCond .eq 7, 3) := by decide +kernel
theorem dX3_reachedCount_22 : decode cX3_reachedCount 22 = .ok (.iconst 1, 1) := by decide +kernel
theorem dX3_reachedCount_23 : decode cX3_reachedCount 23 = .ok (.goto 4, 3) := by decide +kernel
theorem dX3_reachedCount_26 : decode cX3_reachedCount 26 = .ok (.iconst 0, 1) := by decide +kernel
theorem dX3_reachedCount_27 : decode cX3_reachedCount 27 = .ok (.iadd, 1) := by decide +kernel
theorem dX3_reachedCount_28 : decode cX3_reachedCount 28 = .ok (.istore_n 1, 1) := by decide +kernel
theorem dX3_reachedCount_29 : decode cX3_reachedCount 29 = .ok (.iinc 2 1, 3) := by decide +kernel
theorem dX3_reachedCount_32 : decode cX3_reachedCount 32 = .ok (.goto (-28), 3) := by decide +kernel
theorem dX3_reachedCount_35 : decode cX3_reachedCount 35 = .ok (.iload_n 1, 1) := by decide +kernel
theorem dX3_reachedCount_36 : decode cX3_reachedCount 36 = .ok (.ireturn, 1) := by decide +kernel
theorem dX3_tell_0 : decode cX3_tell 0 = .ok (.iload_n 1, 1) := by decide +kernel
theorem dX3_tell_1 : decode cX3_tell 1 = .ok (.ifCond .lt 11, 3) := by decide +kernel
theorem dX3_tell_4 : decode cX3_tell 4 = .ok (.iload_n 1, 1) := by decide +kernel
theorem dX3_tell_5 : decode cX3_tell 5 = .ok (.aload_n 0, 1) := by decide +kernel
theorem dX3_tell_6 : decode cX3_tell 6 = .ok (.getfield 78, 3) := by decide +kernel
theorem dX3_tell_9 : decode cX3_tell 9 = .ok (.if_icmp .lt 5, 3) := by decide +kernel
theorem dX3_tell_12 : decode cX3_tell 12 = .ok (.iconst (-1), 1) := by decide +kernel
theorem dX3_tell_13 : decode cX3_tell 13 = .ok (.ireturn, 1) := by decide +kernel
theorem dX3_tell_14 : decode cX3_tell 14 = .ok (.iload_n 2, 1) := by decide +kernel
theorem dX3_tell_15 : decode cX3_tell 15 = .ok (.tableswitch 104 0 5 #[37, 44, 59, 66, 81, 88], 37) := by decide +kernel
theorem dX3_tell_52 : decode cX3_tell 52 = .ok (.aload_n 0, 1) := by decide +kernel
theorem dX3_tell_53 : decode cX3_tell 53 = .ok (.getfield 9, 3) := by decide +kernel
theorem dX3_tell_56 : decode cX3_tell 56 = .ok (.iload_n 1, 1) := by decide +kernel
theorem dX3_tell_57 : decode cX3_tell 57 = .ok (.iaload, 1) := by decide +kernel
theorem dX3_tell_58 : decode cX3_tell 58 = .ok (.ireturn, 1) := by decide +kernel
theorem dX3_tell_59 : decode cX3_tell 59 = .ok (.aload_n 0, 1) := by decide +kernel
theorem dX3_tell_60 : decode cX3_tell 60 = .ok (.getfield 30, 3) := by decide +kernel
theorem dX3_tell_63 : decode cX3_tell 63 = .ok (.iload_n 1, 1) := by decide +kernel
theorem dX3_tell_64 : decode cX3_tell 64 = .ok (.baload, 1) := by decide +kernel
theorem dX3_tell_65 : decode cX3_tell 65 = .ok (.ifCond .eq 7, 3) := by decide +kernel
theorem dX3_tell_68 : decode cX3_tell 68 = .ok (.iconst 1, 1) := by decide +kernel
theorem dX3_tell_69 : decode cX3_tell 69 = .ok (.goto 4, 3) := by decide +kernel
theorem dX3_tell_72 : decode cX3_tell 72 = .ok (.iconst 0, 1) := by decide +kernel
theorem dX3_tell_73 : decode cX3_tell 73 = .ok (.ireturn, 1) := by decide +kernel
theorem dX3_tell_74 : decode cX3_tell 74 = .ok (.aload_n 0, 1) := by decide +kernel
theorem dX3_tell_75 : decode cX3_tell 75 = .ok (.getfield 38, 3) := by decide +kernel
theorem dX3_tell_78 : decode cX3_tell 78 = .ok (.iload_n 1, 1) := by decide +kernel
theorem dX3_tell_79 : decode cX3_tell 79 = .ok (.iaload, 1) := by decide +kernel
theorem dX3_tell_80 : decode cX3_tell 80 = .ok (.ireturn, 1) := by decide +kernel
theorem dX3_tell_81 : decode cX3_tell 81 = .ok (.aload_n 0, 1) := by decide +kernel
theorem dX3_tell_82 : decode cX3_tell 82 = .ok (.getfield 41, 3) := by decide +kernel
theorem dX3_tell_85 : decode cX3_tell 85 = .ok (.iload_n 1, 1) := by decide +kernel
theorem dX3_tell_86 : decode cX3_tell 86 = .ok (.iaload, 1) := by decide +kernel
theorem dX3_tell_87 : decode cX3_tell 87 = .ok (.ifCond .le 7, 3) := by decide +kernel
theorem dX3_tell_90 : decode cX3_tell 90 = .ok (.iconst 1, 1) := by decide +kernel
theorem dX3_tell_91 : decode cX3_tell 91 = .ok (.goto 4, 3) := by decide +kernel
theorem dX3_tell_94 : decode cX3_tell 94 = .ok (.iconst 0, 1) := by decide +kernel
theorem dX3_tell_95 : decode cX3_tell 95 = .ok (.ireturn, 1) := by decide +kernel
theorem dX3_tell_96 : decode cX3_tell 96 = .ok (.aload_n 0, 1) := by decide +kernel
theorem dX3_tell_97 : decode cX3_tell 97 = .ok (.getfield 44, 3) := by decide +kernel
theorem dX3_tell_100 : decode cX3_tell 100 = .ok (.iload_n 1, 1) := by decide +kernel
theorem dX3_tell_101 : decode cX3_tell 101 = .ok (.iaload, 1) := by decide +kernel
theorem dX3_tell_102 : decode cX3_tell 102 = .ok (.ireturn, 1) := by decide +kernel
theorem dX3_tell_103 : decode cX3_tell 103 = .ok (.aload_n 0, 1) := by decide +kernel
theorem dX3_tell_104 : decode cX3_tell 104 = .ok (.getfield 18, 3) := by decide +kernel
theorem dX3_tell_107 : decode cX3_tell 107 = .ok (.iload_n 1, 1) := by decide +kernel
theorem dX3_tell_108 : decode cX3_tell 108 = .ok (.iconst 1, 1) := by decide +kernel
theorem dX3_tell_109 : decode cX3_tell 109 = .ok (.iadd, 1) := by decide +kernel
theorem dX3_tell_110 : decode cX3_tell 110 = .ok (.iaload, 1) := by decide +kernel
theorem dX3_tell_111 : decode cX3_tell 111 = .ok (.aload_n 0, 1) := by decide +kernel
theorem dX3_tell_112 : decode cX3_tell 112 = .ok (.getfield 18, 3) := by decide +kernel
theorem dX3_tell_115 : decode cX3_tell 115 = .ok (.iload_n 1, 1) := by decide +kernel
theorem dX3_tell_116 : decode cX3_tell 116 = .ok (.iaload, 1) := by decide +kernel
theorem dX3_tell_117 : decode cX3_tell 117 = .ok (.isub, 1) := by decide +kernel
theorem dX3_tell_118 : decode cX3_tell 118 = .ok (.ireturn, 1) := by decide +kernel
theorem dX3_tell_119 : decode cX3_tell 119 = .ok (.iconst (-1), 1) := by decide +kernel
theorem dX3_tell_120 : decode cX3_tell 120 = .ok (.ireturn, 1) := by decide +kernel
theorem dX4_comeTo_0 : decode cX4_comeTo 0 = .ok (.iload_n 1, 1) := by decide +kernel
theorem dX4_comeTo_1 : decode cX4_comeTo 1 = .ok (.ifCond .lt 46, 3) := by decide +kernel
theorem dX4_comeTo_4 : decode cX4_comeTo 4 = .ok (.iload_n 1, 1) := by decide +kernel
theorem dX4_comeTo_5 : decode cX4_comeTo 5 = .ok (.aload_n 0, 1) := by decide +kernel
theorem dX4_comeTo_6 : decode cX4_comeTo 6 = .ok (.getfield 26, 3) := by decide +kernel
theorem dX4_comeTo_9 : decode cX4_comeTo 9 = .ok (.getfield 37, 3) := by decide +kernel
theorem dX4_comeTo_12 : decode cX4_comeTo 12 = .ok (.if_icmp .ge 35, 3) := by decide +kernel
theorem dX4_comeTo_15 : decode cX4_comeTo 15 = .ok (.iload_n 1, 1) := by decide +kernel
theorem dX4_comeTo_16 : decode cX4_comeTo 16 = .ok (.aload_n 0, 1) := by decide +kernel
theorem dX4_comeTo_17 : decode cX4_comeTo 17 = .ok (.getfield 9, 3) := by decide +kernel
theorem dX4_comeTo_20 : decode cX4_comeTo 20 = .ok (.arraylength, 1) := by decide +kernel
theorem dX4_comeTo_21 : decode cX4_comeTo 21 = .ok (.if_icmp .ge 26, 3) := by decide +kernel
theorem dX4_comeTo_24 : decode cX4_comeTo 24 = .ok (.iload_n 2, 1) := by decide +kernel
theorem dX4_comeTo_25 : decode cX4_comeTo 25 = .ok (.ifCond .lt 22, 3) := by decide +kernel
theorem dX4_comeTo_28 : decode cX4_comeTo 28 = .ok (.iload_n 2, 1) := by decide +kernel
theorem dX4_comeTo_29 : decode cX4_comeTo 29 = .ok (.bipush 30, 2) := by decide +kernel
theorem dX4_comeTo_31 : decode cX4_comeTo 31 = .ok (.if_icmp .gt 16, 3) := by decide +kernel
theorem dX4_comeTo_34 : decode cX4_comeTo 34 = .ok (.aload_n 0, 1) := by decide +kernel
theorem dX4_comeTo_35 : decode cX4_comeTo 35 = .ok (.getfield 9, 3) := by decide +kernel
theorem dX4_comeTo_38 : decode cX4_comeTo 38 = .ok (.iload_n 1, 1) := by decide +kernel
theorem dX4_comeTo_39 : decode cX4_comeTo 39 = .ok (.iaload, 1) := by decide +kernel
theorem dX4_comeTo_40 : decode cX4_comeTo 40 = .ok (.iload_n 2, 1) := by decide +kernel
theorem dX4_comeTo_41 : decode cX4_comeTo 41 = .ok (.ishr, 1) := by decide +kernel
theorem dX4_comeTo_42 : decode cX4_comeTo 42 = .ok (.iconst 1, 1) := by decide +kernel
theorem dX4_comeTo_43 : decode cX4_comeTo 43 = .ok (.iand, 1) := by decide +kernel
theorem dX4_comeTo_44 : decode cX4_comeTo 44 = .ok (.ifCond .eq 4, 3) := by decide +kernel
theorem dX4_comeTo_47 : decode cX4_comeTo 47 = .ok (.return_, 1) := by decide +kernel
theorem dX4_comeTo_48 : decode cX4_comeTo 48 = .ok (.aload_n 0, 1) := by decide +kernel
theorem dX4_comeTo_49 : decode cX4_comeTo 49 = .ok (.getfield 9, 3) := by decide +kernel
theorem dX4_comeTo_52 : decode cX4_comeTo 52 = .ok (.iload_n 1, 1) := by decide +kernel
theorem dX4_comeTo_53 : decode cX4_comeTo 53 = .ok (.dup2, 1) := by decide +kernel
theorem dX4_comeTo_54 : decode cX4_comeTo 54 = .ok (.iaload, 1) := by decide +kernel
theorem dX4_comeTo_55 : decode cX4_comeTo 55 = .ok (.iconst 1, 1) := by decide +kernel
theorem dX4_comeTo_56 : decode cX4_comeTo 56 = .ok (.iload_n 2, 1) := by decide +kernel
theorem dX4_comeTo_57 : decode cX4_comeTo 57 = .ok (.ishl, 1) := by decide +kernel
theorem dX4_comeTo_58 : decode cX4_comeTo 58 = .ok (.ior, 1) := by decide +kernel
theorem dX4_comeTo_59 : decode cX4_comeTo 59 = .ok (.iastore, 1) := by decide +kernel
theorem dX4_comeTo_60 : decode cX4_comeTo 60 = .ok (.aload_n 0, 1) := by decide +kernel
theorem dX4_comeTo_61 : decode cX4_comeTo 61 = .ok (.getfield 15, 3) := by decide +kernel
theorem dX4_comeTo_64 : decode cX4_comeTo 64 = .ok (.iload_n 1, 1) := by decide +kernel
theorem dX4_comeTo_65 : decode cX4_comeTo 65 = .ok (.dup2, 1) := by decide +kernel
theorem dX4_comeTo_66 : decode cX4_comeTo 66 = .ok (.iaload, 1) := by decide +kernel
theorem dX4_comeTo_67 : decode cX4_comeTo 67 = .ok (.iconst 1, 1) := by decide +kernel
theorem dX4_comeTo_68 : decode cX4_comeTo 68 = .ok (.iload_n 2, 1) := by decide +kernel
theorem dX4_comeTo_69 : decode cX4_comeTo 69 = .ok (.ishl, 1) := by decide +kernel
theorem dX4_comeTo_70 : decode cX4_comeTo 70 = .ok (.ior, 1) := by decide +kernel
theorem dX4_comeTo_71 : decode cX4_comeTo 71 = .ok (.iastore, 1) := by decide +kernel
theorem dX4_comeTo_72 : decode cX4_comeTo 72 = .ok (.aload_n 0, 1) := by decide +kernel
theorem dX4_comeTo_73 : decode cX4_comeTo 73 = .ok (.iconst 1, 1) := by decide +kernel
theorem dX4_comeTo_74 : decode cX4_comeTo 74 = .ok (.putfield 50, 3) := by decide +kernel
theorem dX4_comeTo_77 : decode cX4_comeTo 77 = .ok (.return_, 1) := by decide +kernel
theorem dX4_heightAt_0 : decode cX4_heightAt 0 = .ok (.iload_n 1, 1) := by decide +kernel
theorem dX4_heightAt_1 : decode cX4_heightAt 1 = .ok (.ifCond .lt 21, 3) := by decide +kernel
theorem dX4_heightAt_4 : decode cX4_heightAt 4 = .ok (.iload_n 1, 1) := by decide +kernel
theorem dX4_heightAt_5 : decode cX4_heightAt 5 = .ok (.aload_n 0, 1) := by decide +kernel
theorem dX4_heightAt_6 : decode cX4_heightAt 6 = .ok (.getfield 9, 3) := by decide +kernel
theorem dX4_heightAt_9 : decode cX4_heightAt 9 = .ok (.arraylength, 1) := by decide +kernel
theorem dX4_heightAt_10 : decode cX4_heightAt 10 = .ok (.if_icmp .ge 12, 3) := by decide +kernel
theorem dX4_heightAt_13 : decode cX4_heightAt 13 = .ok (.aload_n 0, 1) := by decide +kernel
theorem dX4_heightAt_14 : decode cX4_heightAt 14 = .ok (.getfield 9, 3) := by decide +kernel
theorem dX4_heightAt_17 : decode cX4_heightAt 17 = .ok (.iload_n 1, 1) := by decide +kernel
theorem dX4_heightAt_18 : decode cX4_heightAt 18 = .ok (.iaload, 1) := by decide +kernel
theorem dX4_heightAt_19 : decode cX4_heightAt 19 = .ok (.ifCond .ne 7, 3) := by decide +kernel
theorem dX4_heightAt_22 : decode cX4_heightAt 22 = .ok (.iconst (-1), 1) := by decide +kernel
theorem dX4_heightAt_23 : decode cX4_heightAt 23 = .ok (.goto 12, 3) := by decide +kernel
theorem dX4_heightAt_26 : decode cX4_heightAt 26 = .ok (.aload_n 0, 1) := by decide +kernel
theorem dX4_heightAt_27 : decode cX4_heightAt 27 = .ok (.getfield 9, 3) := by decide +kernel
theorem dX4_heightAt_30 : decode cX4_heightAt 30 = .ok (.iload_n 1, 1) := by decide +kernel
theorem dX4_heightAt_31 : decode cX4_heightAt 31 = .ok (.iaload, 1) := by decide +kernel
theorem dX4_heightAt_32 : decode cX4_heightAt 32 = .ok (.invokestatic 116, 3) := by decide +kernel
theorem dX4_heightAt_35 : decode cX4_heightAt 35 = .ok (.ireturn, 1) := by decide +kernel
theorem dX4_init_0 : decode cX4_init 0 = .ok (.aload_n 0, 1) := by decide +kernel
theorem dX4_init_1 : decode cX4_init 1 = .ok (.invokespecial 3, 3) := by decide +kernel
theorem dX4_init_4 : decode cX4_init 4 = .ok (.aload_n 0, 1) := by decide +kernel
theorem dX4_init_5 : decode cX4_init 5 = .ok (.iconst 0, 1) := by decide +kernel
theorem dX4_init_6 : decode cX4_init 6 = .ok (.newarray .int, 2) := by decide +kernel
theorem dX4_init_8 : decode cX4_init 8 = .ok (.putfield 9, 3) := by decide +kernel
theorem dX4_init_11 : decode cX4_init 11 = .ok (.aload_n 0, 1) := by decide +kernel
theorem dX4_init_12 : decode cX4_init 12 = .ok (.iconst 0, 1) := by decide +kernel

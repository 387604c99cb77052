theorem dX8_addCatch_46 : decode cX8_addCatch 46 = .ok (.aload_n 0, 1) := by decide +kernel
theorem dX8_addCatch_47 : decode cX8_addCatch 47 = .ok (.getfield 49, 3) := by decide +kernel
theorem dX8_addCatch_50 : decode cX8_addCatch 50 = .ok (.iload 4, 2) := by decide +kernel
theorem dX8_addCatch_52 : decode cX8_addCatch 52 = .ok (.iastore, 1) := by decide +kernel
theorem dX8_addCatch_53 : decode cX8_addCatch 53 = .ok (.aload_n 0, 1) := by decide +kernel
theorem dX8_addCatch_54 : decode cX8_addCatch 54 = .ok (.dup, 1) := by decide +kernel
theorem dX8_addCatch_55 : decode cX8_addCatch 55 = .ok (.getfield 49, 3) := by decide +kernel
theorem dX8_addCatch_58 : decode cX8_addCatch 58 = .ok (.iconst 1, 1) := by decide +kernel
theorem dX8_addCatch_59 : decode cX8_addCatch 59 = .ok (.iadd, 1) := by decide +kernel
theorem dX8_addCatch_60 : decode cX8_addCatch 60 = .ok (.putfield 49, 3) := by decide +kernel
theorem dX8_addCatch_63 : decode cX8_addCatch 63 = .ok (.return_, 1) := by decide +kernel
theorem dX8_addToTable_0 : decode cX8_addToTable 0 = .ok (.aload_n 0, 1) := by decide +kernel
theorem dX8_addToTable_1 : decode cX8_addToTable 1 = .ok (.getfield 38, 3) := by decide +kernel
theorem dX8_addToTable_4 : decode cX8_addToTable 4 = .ok (.aload_n 0, 1) := by decide +kernel
theorem dX8_addToTable_5 : decode cX8_addToTable 5 = .ok (.getfield 19, 3) := by decide +kernel
theorem dX8_addToTable_8 : decode cX8_addToTable 8 = .ok (.arraylength, 1) := by decide +kernel
theorem dX8_addToTable_9 : decode cX8_addToTable 9 = .ok (.if_icmp .ge 23, 3) := by decide +kernel
theorem dX8_addToTable_12 : decode cX8_addToTable 12 = .ok (.aload_n 0, 1) := by decide +kernel
theorem dX8_addToTable_13 : decode cX8_addToTable 13 = .ok (.getfield 19, 3) := by decide +kernel
theorem dX8_addToTable_16 : decode cX8_addToTable 16 = .ok (.aload_n 0, 1) := by decide +kernel
theorem dX8_addToTable_17 : decode cX8_addToTable 17 = .ok (.getfield 38, 3) := by decide +kernel
theorem dX8_addToTable_20 : decode cX8_addToTable 20 = .ok (.iload_n 1, 1) := by decide +kernel
theorem dX8_addToTable_21 : decode cX8_addToTable 21 = .ok (.iastore, 1) := by decide +kernel
theorem dX8_addToTable_22 : decode cX8_addToTable 22 = .ok (.aload_n 0, 1) := by decide +kernel
theorem dX8_addToTable_23 : decode cX8_addToTable 23 = .ok (.dup, 1) := by decide +kernel
theorem dX8_addToTable_24 : decode cX8_addToTable 24 = .ok (.getfield 38, 3) := by decide +kernel
theorem dX8_addToTable_27 : decode cX8_addToTable 27 = .ok (.iconst 1, 1) := by decide +kernel
theorem dX8_addToTable_28 : decode cX8_addToTable 28 = .ok (.iadd, 1) := by decide +kernel
theorem dX8_addToTable_29 : decode cX8_addToTable 29 = .ok (.putfield 38, 3) := by decide +kernel
theorem dX8_addToTable_32 : decode cX8_addToTable 32 = .ok (.return_, 1) := by decide +kernel
theorem dX8_argAt_0 : decode cX8_argAt 0 = .ok (.iload_n 1, 1) := by decide +kernel
theorem dX8_argAt_1 : decode cX8_argAt 1 = .ok (.ifCond .lt 11, 3) := by decide +kernel
theorem dX8_argAt_4 : decode cX8_argAt 4 = .ok (.iload_n 1, 1) := by decide +kernel
theorem dX8_argAt_5 : decode cX8_argAt 5 = .ok (.aload_n 0, 1) := by decide +kernel
theorem dX8_argAt_6 : decode cX8_argAt 6 = .ok (.getfield 34, 3) := by decide +kernel
theorem dX8_argAt_9 : decode cX8_argAt 9 = .ok (.if_icmp .lt 7, 3) := by decide +kernel
theorem dX8_argAt_12 : decode cX8_argAt 12 = .ok (.lconst 0, 1) := by decide +kernel
theorem dX8_argAt_13 : decode cX8_argAt 13 = .ok (.goto 9, 3) := by decide +kernel
theorem dX8_argAt_16 : decode cX8_argAt 16 = .ok (.aload_n 0, 1) := by decide +kernel
theorem dX8_argAt_17 : decode cX8_argAt 17 = .ok (.getfield 15, 3) := by decide +kernel
theorem dX8_argAt_20 : decode cX8_argAt 20 = .ok (.iload_n 1, 1) := by decide +kernel
theorem dX8_argAt_21 : decode cX8_argAt 21 = .ok (.laload, 1) := by decide +kernel
theorem dX8_argAt_22 : decode cX8_argAt 22 = .ok (.lreturn, 1) := by decide +kernel
theorem dX8_behindRemoved_0 : decode cX8_behindRemoved 0 = .ok (.iload_n 0, 1) := by decide +kernel
theorem dX8_behindRemoved_1 : decode cX8_behindRemoved 1 = .ok (.iload_n 1, 1) := by decide +kernel
theorem dX8_behindRemoved_2 : decode cX8_behindRemoved 2 = .ok (.if_icmp .gt 7, 3) := by decide +kernel
theorem dX8_behindRemoved_5 : decode cX8_behindRemoved 5 = .ok (.iload_n 0, 1) := by decide +kernel
theorem dX8_behindRemoved_6 : decode cX8_behindRemoved 6 = .ok (.goto 10, 3) := by decide +kernel
theorem dX8_behindRemoved_9 : decode cX8_behindRemoved 9 = .ok (.iload_n 1, 1) := by decide +kernel
theorem dX8_behindRemoved_10 : decode cX8_behindRemoved 10 = .ok (.iload_n 0, 1) := by decide +kernel
theorem dX8_behindRemoved_11 : decode cX8_behindRemoved 11 = .ok (.iload_n 2, 1) := by decide +kernel
theorem dX8_behindRemoved_12 : decode cX8_behindRemoved 12 = .ok (.isub, 1) := by decide +kernel
theorem dX8_behindRemoved_13 : decode cX8_behindRemoved 13 = .ok (.invokestatic 112, 3) := by decide +kernel
theorem dX8_behindRemoved_16 : decode cX8_behindRemoved 16 = .ok (.ireturn, 1) := by decide +kernel
theorem dX8_catchHas_0 : decode cX8_catchHas 0 = .ok (.iload_n 1, 1) := by decide +kernel
theorem dX8_catchHas_1 : decode cX8_catchHas 1 = .ok (.ifCond .lt 35, 3) := by decide +kernel
theorem dX8_catchHas_4 : decode cX8_catchHas 4 = .ok (.iload_n 1, 1) := by decide +kernel
theorem dX8_catchHas_5 : decode cX8_catchHas 5 = .ok (.aload_n 0, 1) := by decide +kernel
theorem dX8_catchHas_6 : decode cX8_catchHas 6 = .ok (.getfield 49, 3) := by decide +kernel
theorem dX8_catchHas_9 : decode cX8_catchHas 9 = .ok (.if_icmp .ge 27, 3) := by decide +kernel
theorem dX8_catchHas_12 : decode cX8_catchHas 12 = .ok (.aload_n 0, 1) := by decide +kernel
theorem dX8_catchHas_13 : decode cX8_catchHas 13 = .ok (.getfield 22, 3) := by decide +kernel
theorem dX8_catchHas_16 : decode cX8_catchHas 16 = .ok (.iload_n 1, 1) := by decide +kernel
theorem dX8_catchHas_17 : decode cX8_catchHas 17 = .ok (.iaload, 1) := by decide +kernel
theorem dX8_catchHas_18 : decode cX8_catchHas 18 = .ok (.iload_n 2, 1) := by decide +kernel
theorem dX8_catchHas_19 : decode cX8_catchHas 19 = .ok (.if_icmp .gt 17, 3) := by decide +kernel
theorem dX8_catchHas_22 : decode cX8_catchHas 22 = .ok (.iload_n 2, 1) := by decide +kernel
theorem dX8_catchHas_23 : decode cX8_catchHas 23 = .ok (.aload_n 0, 1) := by decide +kernel
theorem dX8_catchHas_24 : decode cX8_catchHas 24 = .ok (.getfield 25, 3) := by decide +kernel
theorem dX8_catchHas_27 : decode cX8_catchHas 27 = .ok (.iload_n 1, 1) := by decide +kernel
theorem dX8_catchHas_28 : decode cX8_catchHas 28 = .ok (.iaload, 1) := by decide +kernel
theorem dX8_catchHas_29 : decode cX8_catchHas 29 = .ok (.if_icmp .ge 7, 3) := by decide +kernel
theorem dX8_catchHas_32 : decode cX8_catchHas 32 = .ok (.iconst 1, 1) := by decide +kernel
theorem dX8_catchHas_33 : decode cX8_catchHas 33 = .ok (.goto 4, 3) := by decide +kernel
theorem dX8_catchHas_36 : decode cX8_catchHas 36 = .ok (.iconst 0, 1) := by decide +kernel
theorem dX8_catchHas_37 : decode cX8_catchHas 37 = .ok (.ireturn, 1) := by decide +kernel
theorem dX8_copyFrom_0 : decode cX8_copyFrom 0 = .ok (.aload_n 0, 1) := by decide +kernel
theorem dX8_copyFrom_1 : decode cX8_copyFrom 1 = .ok (.aload_n 1, 1) := by decide +kernel
theorem dX8_copyFrom_2 : decode cX8_copyFrom 2 = .ok (.getfield 82, 3) := by decide +kernel
theorem dX8_copyFrom_5 : decode cX8_copyFrom 5 = .ok (.putfield 82, 3) := by decide +kernel
theorem dX8_copyFrom_8 : decode cX8_copyFrom 8 = .ok (.aload_n 0, 1) := by decide +kernel
theorem dX8_copyFrom_9 : decode cX8_copyFrom 9 = .ok (.iconst 0, 1) := by decide +kernel
theorem dX8_copyFrom_10 : decode cX8_copyFrom 10 = .ok (.putfield 34, 3) := by decide +kernel
theorem dX8_copyFrom_13 : decode cX8_copyFrom 13 = .ok (.iconst 0, 1) := by decide +kernel
theorem dX8_copyFrom_14 : decode cX8_copyFrom 14 = .ok (.istore_n 2, 1) := by decide +kernel
theorem dX8_copyFrom_15 : decode cX8_copyFrom 15 = .ok (.iload_n 2, 1) := by decide +kernel
theorem dX8_copyFrom_16 : decode cX8_copyFrom 16 = .ok (.aload_n 1, 1) := by decide +kernel
theorem dX8_copyFrom_17 : decode cX8_copyFrom 17 = .ok (.getfield 34, 3) := by decide +kernel
theorem dX8_copyFrom_20 : decode cX8_copyFrom 20 = .ok (.if_icmp .ge 25, 3) := by decide +kernel
theorem dX8_copyFrom_23 : decode cX8_copyFrom 23 = .ok (.aload_n 0, 1) := by decide +kernel
theorem dX8_copyFrom_24 : decode cX8_copyFrom 24 = .ok (.aload_n 1, 1) := by decide +kernel
theorem dX8_copyFrom_25 : decode cX8_copyFrom 25 = .ok (.getfield 9, 3) := by decide +kernel
theorem dX8_copyFrom_28 : decode cX8_copyFrom 28 = .ok (.iload_n 2, 1) := by decide +kernel
theorem dX8_copyFrom_29 : decode cX8_copyFrom 29 = .ok (.iaload, 1) := by decide +kernel
theorem dX8_copyFrom_30 : decode cX8_copyFrom 30 = .ok (.aload_n 1, 1) := by decide +kernel
theorem dX8_copyFrom_31 : decode cX8_copyFrom 31 = .ok (.getfield 15, 3) := by decide +kernel
theorem dX8_copyFrom_34 : decode cX8_copyFrom 34 = .ok (.iload_n 2, 1) := by decide +kernel
theorem dX8_copyFrom_35 : decode cX8_copyFrom 35 = .ok (.laload, 1) := by decide +kernel
theorem dX8_copyFrom_36 : decode cX8_copyFrom 36 = .ok (.invokevirtual 85, 3) := by decide +kernel
theorem dX8_copyFrom_39 : decode cX8_copyFrom 39 = .ok (.iinc 2 1, 3) := by decide +kernel
theorem dX8_copyFrom_42 : decode cX8_copyFrom 42 = .ok (.goto (-27), 3) := by decide +kernel
theorem dX8_copyFrom_45 : decode cX8_copyFrom 45 = .ok (.aload_n 0, 1) := by decide +kernel
theorem dX8_copyFrom_46 : decode cX8_copyFrom 46 = .ok (.iconst 0, 1) := by decide +kernel
theorem dX8_copyFrom_47 : decode cX8_copyFrom 47 = .ok (.putfield 38, 3) := by decide +kernel
theorem dX8_copyFrom_50 : decode cX8_copyFrom 50 = .ok (.iconst 0, 1) := by decide +kernel
theorem dX8_copyFrom_51 : decode cX8_copyFrom 51 = .ok (.istore_n 2, 1) := by decide +kernel
theorem dX8_copyFrom_52 : decode cX8_copyFrom 52 = .ok (.iload_n 2, 1) := by decide +kernel
theorem dX8_copyFrom_53 : decode cX8_copyFrom 53 = .ok (.aload_n 1, 1) := by decide +kernel
theorem dX8_copyFrom_54 : decode cX8_copyFrom 54 = .ok (.getfield 38, 3) := by decide +kernel
theorem dX8_copyFrom_57 : decode cX8_copyFrom 57 = .ok (.if_icmp .ge 19, 3) := by decide +kernel
theorem dX8_copyFrom_60 : decode cX8_copyFrom 60 = .ok (.aload_n 0, 1) := by decide +kernel
theorem dX8_copyFrom_61 : decode cX8_copyFrom 61 = .ok (.aload_n 1, 1) := by decide +kernel
theorem dX8_copyFrom_62 : decode cX8_copyFrom 62 = .ok (.getfield 19, 3) := by decide +kernel
theorem dX8_copyFrom_65 : decode cX8_copyFrom 65 = .ok (.iload_n 2, 1) := by decide +kernel
theorem dX8_copyFrom_66 : decode cX8_copyFrom 66 = .ok (.iaload, 1) := by decide +kernel
theorem dX8_copyFrom_67 : decode cX8_copyFrom 67 = .ok (.invokevirtual 89, 3) := by decide +kernel
theorem dX8_copyFrom_70 : decode cX8_copyFrom 70 = .ok (.iinc 2 1, 3) := by decide +kernel
theorem dX8_copyFrom_73 : decode cX8_copyFrom 73 = .ok (.goto (-21), 3) := by decide +kernel
theorem dX8_copyFrom_76 : decode cX8_copyFrom 76 = .ok (.aload_n 0, 1) := by decide +kernel
theorem dX8_copyFrom_77 : decode cX8_copyFrom 77 = .ok (.iconst 0, 1) := by decide +kernel
theorem dX8_copyFrom_78 : decode cX8_copyFrom 78 = .ok (.putfield 49, 3) := by decide +kernel
theorem dX8_copyFrom_81 : decode cX8_copyFrom 81 = .ok (.iconst 0, 1) := by decide +kernel
theorem dX8_copyFrom_82 : decode cX8_copyFrom 82 = .ok (.istore_n 2, 1) := by decide +kernel
theorem dX8_copyFrom_83 : decode cX8_copyFrom 83 = .ok (.iload_n 2, 1) := by decide +kernel
theorem dX8_copyFrom_84 : decode cX8_copyFrom 84 = .ok (.aload_n 1, 1) := by decide +kernel
theorem dX8_copyFrom_85 : decode cX8_copyFrom 85 = .ok (.getfield 49, 3) := by decide +kernel
theorem dX8_copyFrom_88 : decode cX8_copyFrom 88 = .ok (.if_icmp .ge 37, 3) := by decide +kernel
theorem dX8_copyFrom_91 : decode cX8_copyFrom 91 = .ok (.aload_n 0, 1) := by decide +kernel
theorem dX8_copyFrom_92 : decode cX8_copyFrom 92 = .ok (.aload_n 1, 1) := by decide +kernel
theorem dX8_copyFrom_93 : decode cX8_copyFrom 93 = .ok (.getfield 22, 3) := by decide +kernel
theorem dX8_copyFrom_96 : decode cX8_copyFrom 96 = .ok (.iload_n 2, 1) := by decide +kernel
theorem dX8_copyFrom_97 : decode cX8_copyFrom 97 = .ok (.iaload, 1) := by decide +kernel
theorem dX8_copyFrom_98 : decode cX8_copyFrom 98 = .ok (.aload_n 1, 1) := by decide +kernel
theorem dX8_copyFrom_99 : decode cX8_copyFrom 99 = .ok (.getfield 25, 3) := by decide +kernel
theorem dX8_copyFrom_102 : decode cX8_copyFrom 102 = .ok (.iload_n 2, 1) := by decide +kernel
theorem dX8_copyFrom_103 : decode cX8_copyFrom 103 = .ok (.iaload, 1) := by decide +kernel
theorem dX8_copyFrom_104 : decode cX8_copyFrom 104 = .ok (.aload_n 1, 1) := by decide +kernel
theorem dX8_copyFrom_105 : decode cX8_copyFrom 105 = .ok (.getfield 28, 3) := by decide +kernel
theorem dX8_copyFrom_108 : decode cX8_copyFrom 108 = .ok (.iload_n 2, 1) := by decide +kernel
theorem dX8_copyFrom_109 : decode cX8_copyFrom 109 = .ok (.iaload, 1) := by decide +kernel
theorem dX8_copyFrom_110 : decode cX8_copyFrom 110 = .ok (.aload_n 1, 1) := by decide +kernel
theorem dX8_copyFrom_111 : decode cX8_copyFrom 111 = .ok (.getfield 31, 3) := by decide +kernel
theorem dX8_copyFrom_114 : decode cX8_copyFrom 114 = .ok (.iload_n 2, 1) := by decide +kernel
theorem dX8_copyFrom_115 : decode cX8_copyFrom 115 = .ok (.iaload, 1) := by decide +kernel
theorem dX8_copyFrom_116 : decode cX8_copyFrom 116 = .ok (.invokevirtual 93, 3) := by decide +kernel
theorem dX8_copyFrom_119 : decode cX8_copyFrom 119 = .ok (.iinc 2 1, 3) := by decide +kernel
theorem dX8_copyFrom_122 : decode cX8_copyFrom 122 = .ok (.goto (-39), 3) := by decide +kernel
theorem dX8_copyFrom_125 : decode cX8_copyFrom 125 = .ok (.return_, 1) := by decide +kernel
theorem dX8_heightAt_0 : decode cX8_heightAt 0 = .ok (.aload_n 0, 1) := by decide +kernel
theorem dX8_heightAt_1 : decode cX8_heightAt 1 = .ok (.getfield 72, 3) := by decide +kernel
theorem dX8_heightAt_4 : decode cX8_heightAt 4 = .ok (.ifnull 16, 3) := by decide +kernel
theorem dX8_heightAt_7 : decode cX8_heightAt 7 = .ok (.iload_n 1, 1) := by decide +kernel
theorem dX8_heightAt_8 : decode cX8_heightAt 8 = .ok (.ifCond .lt 12, 3) := by decide +kernel
theorem dX8_heightAt_11 : decode cX8_heightAt 11 = .ok (.iload_n 1, 1) := by decide +kernel
theorem dX8_heightAt_12 : decode cX8_heightAt 12 = .ok (.aload_n 0, 1) := by decide +kernel
theorem dX8_heightAt_13 : decode cX8_heightAt 13 = .ok (.getfield 72, 3) := by decide +kernel
theorem dX8_heightAt_16 : decode cX8_heightAt 16 = .ok (.arraylength, 1) := by decide +kernel
theorem dX8_heightAt_17 : decode cX8_heightAt 17 = .ok (.if_icmp .lt 7, 3) := by decide +kernel
theorem dX8_heightAt_20 : decode cX8_heightAt 20 = .ok (.iconst (-1), 1) := by decide +kernel
theorem dX8_heightAt_21 : decode cX8_heightAt 21 = .ok (.goto 9, 3) := by decide +kernel
theorem dX8_heightAt_24 : decode cX8_heightAt 24 = .ok (.aload_n 0, 1) := by decide +kernel
theorem dX8_heightAt_25 : decode cX8_heightAt 25 = .ok (.getfield 72, 3) := by decide +kernel
theorem dX8_heightAt_28 : decode cX8_heightAt 28 = .ok (.iload_n 1, 1) := by decide +kernel
theorem dX8_heightAt_29 : decode cX8_heightAt 29 = .ok (.baload, 1) := by decide +kernel
theorem dX8_heightAt_30 : decode cX8_heightAt 30 = .ok (.ireturn, 1) := by decide +kernel
theorem dX8_init_0 : decode cX8_init 0 = .ok (.aload_n 0, 1) := by decide +kernel
theorem dX8_init_1 : decode cX8_init 1 = .ok (.invokespecial 3, 3) := by decide +kernel
theorem dX8_init_4 : decode cX8_init 4 = .ok (.aload_n 0, 1) := by decide +kernel
theorem dX8_init_5 : decode cX8_init 5 = .ok (.iload_n 1, 1) := by decide +kernel
theorem dX8_init_6 : decode cX8_init 6 = .ok (.newarray .int, 2) := by decide +kernel
theorem dX8_init_8 : decode cX8_init 8 = .ok (.putfield 9, 3) := by decide +kernel
theorem dX8_init_11 : decode cX8_init 11 = .ok (.aload_n 0, 1) := by decide +kernel
theorem dX8_init_12 : decode cX8_init 12 = .ok (.iload_n 1, 1) := by decide +kernel
theorem dX8_init_13 : decode cX8_init 13 = .ok (.newarray .long, 2) := by decide +kernel
theorem dX8_init_15 : decode cX8_init 15 = .ok (.putfield 15, 3) := by decide +kernel
theorem dX8_init_18 : decode cX8_init 18 = .ok (.aload_n 0, 1) := by decide +kernel
theorem dX8_init_19 : decode cX8_init 19 = .ok (.iload_n 2, 1) := by decide +kernel
theorem dX8_init_20 : decode cX8_init 20 = .ok (.newarray .int, 2) := by decide +kernel
theorem dX8_init_22 : decode cX8_init 22 = .ok (.putfield 19, 3) := by decide +kernel
theorem dX8_init_25 : decode cX8_init 25 = .ok (.aload_n 0, 1) := by decide +kernel
theorem dX8_init_26 : decode cX8_init 26 = .ok (.iload_n 3, 1) := by decide +kernel
theorem dX8_init_27 : decode cX8_init 27 = .ok (.newarray .int, 2) := by decide +kernel
theorem dX8_init_29 : decode cX8_init 29 = .ok (.putfield 22, 3) := by decide +kernel
theorem dX8_init_32 : decode cX8_init 32 = .ok (.aload_n 0, 1) := by decide +kernel
theorem dX8_init_33 : decode cX8_init 33 = .ok (.iload_n 3, 1) := by decide +kernel
theorem dX8_init_34 : decode cX8_init 34 = .ok (.newarray .int, 2) := by decide +kernel
theorem dX8_init_36 : decode cX8_init 36 = .ok (.putfield 25, 3) := by decide +kernel
theorem dX8_init_39 : decode cX8_init 39 = .ok (.aload_n 0, 1) := by decide +kernel
theorem dX8_init_40 : decode cX8_init 40 = .ok (.iload_n 3, 1) := by decide +kernel
theorem dX8_init_41 : decode cX8_init 41 = .ok (.newarray .int, 2) := by decide +kernel
theorem dX8_init_43 : decode cX8_init 43 = .ok (.putfield 28, 3) := by decide +kernel
theorem dX8_init_46 : decode cX8_init 46 = .ok (.aload_n 0, 1) := by decide +kernel
theorem dX8_init_47 : decode cX8_init 47 = .ok (.iload_n 3, 1) := by decide +kernel
theorem dX8_init_48 : decode cX8_init 48 = .ok (.newarray .int, 2) := by decide +kernel
theorem dX8_init_50 : decode cX8_init 50 = .ok (.putfield 31, 3) := by decide +kernel
theorem dX8_init_53 : decode cX8_init 53 = .ok (.return_, 1) := by decide +kernel
theorem dX8_isCaught_0 : decode cX8_isCaught 0 = .ok (.iconst 0, 1) := by decide +kernel
theorem dX8_isCaught_1 : decode cX8_isCaught 1 = .ok (.istore_n 2, 1) := by decide +kernel
theorem dX8_isCaught_2 : decode cX8_isCaught 2 = .ok (.iload_n 2, 1) := by decide +kernel
theorem dX8_isCaught_3 : decode cX8_isCaught 3 = .ok (.aload_n 0, 1) := by decide +kernel
theorem dX8_isCaught_4 : decode cX8_isCaught 4 = .ok (.getfield 49, 3) := by decide +kernel
theorem dX8_isCaught_7 : decode cX8_isCaught 7 = .ok (.if_icmp .ge 20, 3) := by decide +kernel
theorem dX8_isCaught_10 : decode cX8_isCaught 10 = .ok (.aload_n 0, 1) := by decide +kernel
theorem dX8_isCaught_11 : decode cX8_isCaught 11 = .ok (.iload_n 2, 1) := by decide +kernel
theorem dX8_isCaught_12 : decode cX8_isCaught 12 = .ok (.iload_n 1, 1) := by decide +kernel
theorem dX8_isCaught_13 : decode cX8_isCaught 13 = .ok (.invokevirtual 68, 3) := by decide +kernel
theorem dX8_isCaught_16 : decode cX8_isCaught 16 = .ok (.ifCond .eq 5, 3) := by decide +kernel
theorem dX8_isCaught_19 : decode cX8_isCaught 19 = .ok (.iconst 1, 1) := by decide +kernel
theorem dX8_isCaught_20 : decode cX8_isCaught 20 = .ok (.ireturn, 1) := by decide +kernel
theorem dX8_isCaught_21 : decode cX8_isCaught 21 = .ok (.iinc 2 1, 3) := by decide +kernel
theorem dX8_isCaught_24 : decode cX8_isCaught 24 = .ok (.goto (-22), 3) := by decide +kernel
theorem dX8_isCaught_27 : decode cX8_isCaught 27 = .ok (.iconst 0, 1) := by decide +kernel
theorem dX8_isCaught_28 : decode cX8_isCaught 28 = .ok (.ireturn, 1) := by decide +kernel
theorem dX8_localAt_0 : decode cX8_localAt 0 = .ok (.aload_n 0, 1) := by decide +kernel
theorem dX8_localAt_1 : decode cX8_localAt 1 = .ok (.getfield 76, 3) := by decide +kernel
theorem dX8_localAt_4 : decode cX8_localAt 4 = .ok (.ifnull 32, 3) := by decide +kernel
theorem dX8_localAt_7 : decode cX8_localAt 7 = .ok (.aload_n 0, 1) := by decide +kernel
theorem dX8_localAt_8 : decode cX8_localAt 8 = .ok (.getfield 79, 3) := by decide +kernel
theorem dX8_localAt_11 : decode cX8_localAt 11 = .ok (.ifnull 25, 3) := by decide +kernel
theorem dX8_localAt_14 : decode cX8_localAt 14 = .ok (.iload_n 1, 1) := by decide +kernel
theorem dX8_localAt_15 : decode cX8_localAt 15 = .ok (.ifCond .lt 21, 3) := by decide +kernel
theorem dX8_localAt_18 : decode cX8_localAt 18 = .ok (.iload_n 1, 1) := by decide +kernel
theorem dX8_localAt_19 : decode cX8_localAt 19 = .ok (.aload_n 0, 1) := by decide +kernel
theorem dX8_localAt_20 : decode cX8_localAt 20 = .ok (.getfield 76, 3) := by decide +kernel
theorem dX8_localAt_23 : decode cX8_localAt 23 = .ok (.arraylength, 1) := by decide +kernel
theorem dX8_localAt_24 : decode cX8_localAt 24 = .ok (.if_icmp .ge 12, 3) := by decide +kernel
theorem dX8_localAt_27 : decode cX8_localAt 27 = .ok (.iload_n 1, 1) := by decide +kernel
theorem dX8_localAt_28 : decode cX8_localAt 28 = .ok (.aload_n 0, 1) := by decide +kernel
theorem dX8_localAt_29 : decode cX8_localAt 29 = .ok (.getfield 79, 3) := by decide +kernel
theorem dX8_localAt_32 : decode cX8_localAt 32 = .ok (.arraylength, 1) := by decide +kernel
theorem dX8_localAt_33 : decode cX8_localAt 33 = .ok (.if_icmp .lt 5, 3) := by decide +kernel
theorem dX8_localAt_36 : decode cX8_localAt 36 = .ok (.iconst 0, 1) := by decide +kernel
theorem dX8_localAt_37 : decode cX8_localAt 37 = .ok (.ireturn, 1) := by decide +kernel
theorem dX8_localAt_38 : decode cX8_localAt 38 = .ok (.iload_n 2, 1) := by decide +kernel
theorem dX8_localAt_39 : decode cX8_localAt 39 = .ok (.bipush 16, 2) := by decide +kernel
theorem dX8_localAt_41 : decode cX8_localAt 41 = .ok (.if_icmp .ge 16, 3) := by decide +kernel
theorem dX8_localAt_44 : decode cX8_localAt 44 = .ok (.aload_n 0, 1) := by decide +kernel
theorem dX8_localAt_45 : decode cX8_localAt 45 = .ok (.getfield 76, 3) := by decide +kernel
theorem dX8_localAt_48 : decode cX8_localAt 48 = .ok (.iload_n 1, 1) := by decide +kernel
theorem dX8_localAt_49 : decode cX8_localAt 49 = .ok (.laload, 1) := by decide +kernel
theorem dX8_localAt_50 : decode cX8_localAt 50 = .ok (.iconst 4, 1) := by decide +kernel
theorem dX8_localAt_51 : decode cX8_localAt 51 = .ok (.iload_n 2, 1) := by decide +kernel
theorem dX8_localAt_52 : decode cX8_localAt 52 = .ok (.imul, 1) := by decide +kernel
theorem dX8_localAt_53 : decode cX8_localAt 53 = .ok (.lushr, 1) := by decide +kernel
theorem dX8_localAt_54 : decode cX8_localAt 54 = .ok (.goto 16, 3) := by decide +kernel
theorem dX8_localAt_57 : decode cX8_localAt 57 = .ok (.aload_n 0, 1) := by decide +kernel
theorem dX8_localAt_58 : decode cX8_localAt 58 = .ok (.getfield 79, 3) := by decide +kernel
theorem dX8_localAt_61 : decode cX8_localAt 61 = .ok (.iload_n 1, 1) := by decide +kernel
theorem dX8_localAt_62 : decode cX8_localAt 62 = .ok (.laload, 1) := by decide +kernel
theorem dX8_localAt_63 : decode cX8_localAt 63 = .ok (.iconst 4, 1) := by decide +kernel
theorem dX8_localAt_64 : decode cX8_localAt 64 = .ok (.iload_n 2, 1) := by decide +kernel
theorem dX8_localAt_65 : decode cX8_localAt 65 = .ok (.bipush 16, 2) := by decide +kernel
theorem dX8_localAt_67 : decode cX8_localAt 67 = .ok (.isub, 1) := by decide +kernel
theorem dX8_localAt_68 : decode cX8_localAt 68 = .ok (.imul, 1) := by decide +kernel
theorem dX8_localAt_69 : decode cX8_localAt 69 = .ok (.lushr, 1) := by decide +kernel
theorem dX8_localAt_70 : decode cX8_localAt 70 = .ok (.l2i, 1) := by decide +kernel
theorem dX8_localAt_71 : decode cX8_localAt 71 = .ok (.bipush 15, 2) := by decide +kernel
theorem dX8_localAt_73 : decode cX8_localAt 73 = .ok (.iand, 1) := by decide +kernel
theorem dX8_localAt_74 : decode cX8_localAt 74 = .ok (.ireturn, 1) := by decide +kernel
theorem dX8_localOf_0 : decode cX8_localOf 0 = .ok (.aload_n 0, 1) := by decide +kernel
theorem dX8_localOf_1 : decode cX8_localOf 1 = .ok (.iload_n 1, 1) := by decide +kernel
theorem dX8_localOf_2 : decode cX8_localOf 2 = .ok (.invokevirtual 41, 3) := by decide +kernel
theorem dX8_localOf_5 : decode cX8_localOf 5 = .ok (.l2i, 1) := by decide +kernel
theorem dX8_localOf_6 : decode cX8_localOf 6 = .ok (.sipush 255, 3) := by decide +kernel
theorem dX8_localOf_9 : decode cX8_localOf 9 = .ok (.iand, 1) := by decide +kernel
theorem dX8_localOf_10 : decode cX8_localOf 10 = .ok (.ireturn, 1) := by decide +kernel
theorem dX8_opAt_0 : decode cX8_opAt 0 = .ok (.iload_n 1, 1) := by decide +kernel
theorem dX8_opAt_1 : decode cX8_opAt 1 = .ok (.ifCond .lt 11, 3) := by decide +kernel
theorem dX8_opAt_4 : decode cX8_opAt 4 = .ok (.iload_n 1, 1) := by decide +kernel
theorem dX8_opAt_5 : decode cX8_opAt 5 = .ok (.aload_n 0, 1) := by decide +kernel
theorem dX8_opAt_6 : decode cX8_opAt 6 = .ok (.getfield 34, 3) := by decide +kernel
theorem dX8_opAt_9 : decode cX8_opAt 9 = .ok (.if_icmp .lt 7, 3) := by decide +kernel
theorem dX8_opAt_12 : decode cX8_opAt 12 = .ok (.iconst (-1), 1) := by decide +kernel
theorem dX8_opAt_13 : decode cX8_opAt 13 = .ok (.goto 9, 3) := by decide +kernel
theorem dX8_opAt_16 : decode cX8_opAt 16 = .ok (.aload_n 0, 1) := by decide +kernel
theorem dX8_opAt_17 : decode cX8_opAt 17 = .ok (.getfield 9, 3) := by decide +kernel
theorem dX8_opAt_20 : decode cX8_opAt 20 = .ok (.iload_n 1, 1) := by decide +kernel
theorem dX8_opAt_21 : decode cX8_opAt 21 = .ok (.iaload, 1) := by decide +kernel
theorem dX8_opAt_22 : decode cX8_opAt 22 = .ok (.ireturn, 1) := by decide +kernel
theorem dX8_remove_0 : decode cX8_remove 0 = .ok (.iload_n 1, 1) := by decide +kernel
theorem dX8_remove_1 : decode cX8_remove 1 = .ok (.ifCond .lt 17, 3) := by decide +kernel
theorem dX8_remove_4 : decode cX8_remove 4 = .ok (.iload_n 2, 1) := by decide +kernel
theorem dX8_remove_5 : decode cX8_remove 5 = .ok (.ifCond .le 13, 3) := by decide +kernel
theorem dX8_remove_8 : decode cX8_remove 8 = .ok (.iload_n 1, 1) := by decide +kernel
theorem dX8_remove_9 : decode cX8_remove 9 = .ok (.iload_n 2, 1) := by decide +kernel
theorem dX8_remove_10 : decode cX8_remove 10 = .ok (.iadd, 1) := by decide +kernel
theorem dX8_remove_11 : decode cX8_remove 11 = .ok (.aload_n 0, 1) := by decide +kernel
theorem dX8_remove_12 : decode cX8_remove 12 = .ok (.getfield 34, 3) := by decide +kernel
theorem dX8_remove_15 : decode cX8_remove 15 = .ok (.if_icmp .le 4, 3) := by decide +kernel
theorem dX8_remove_18 : decode cX8_remove 18 = .ok (.return_, 1) := by decide +kernel
theorem dX8_remove_19 : decode cX8_remove 19 = .ok (.iload_n 1, 1) := by decide +kernel
theorem dX8_remove_20 : decode cX8_remove 20 = .ok (.istore_n 3, 1) := by decide +kernel
theorem dX8_remove_21 : decode cX8_remove 21 = .ok (.iload_n 3, 1) := by decide +kernel
theorem dX8_remove_22 : decode cX8_remove 22 = .ok (.iload_n 2, 1) := by decide +kernel
theorem dX8_remove_23 : decode cX8_remove 23 = .ok (.iadd, 1) := by decide +kernel
theorem dX8_remove_24 : decode cX8_remove 24 = .ok (.aload_n 0, 1) := by decide +kernel
theorem dX8_remove_25 : decode cX8_remove 25 = .ok (.getfield 34, 3) := by decide +kernel
theorem dX8_remove_28 : decode cX8_remove 28 = .ok (.if_icmp .ge 37, 3) := by decide +kernel
theorem dX8_remove_31 : decode cX8_remove 31 = .ok (.aload_n 0, 1) := by decide +kernel
theorem dX8_remove_32 : decode cX8_remove 32 = .ok (.getfield 9, 3) := by decide +kernel
theorem dX8_remove_35 : decode cX8_remove 35 = .ok (.iload_n 3, 1) := by decide +kernel
theorem dX8_remove_36 : decode cX8_remove 36 = .ok (.aload_n 0, 1) := by decide +kernel
theorem dX8_remove_37 : decode cX8_remove 37 = .ok (.getfield 9, 3) := by decide +kernel
theorem dX8_remove_40 : decode cX8_remove 40 = .ok (.iload_n 3, 1) := by decide +kernel
theorem dX8_remove_41 : decode cX8_remove 41 = .ok (.iload_n 2, 1) := by decide +kernel
theorem dX8_remove_42 : decode cX8_remove 42 = .ok (.iadd, 1) := by decide +kernel
theorem dX8_remove_43 : decode cX8_remove 43 = .ok (.iaload, 1) := by decide +kernel
theorem dX8_remove_44 : decode cX8_remove 44 = .ok (.iastore, 1) := by decide +kernel
theorem dX8_remove_45 : decode cX8_remove 45 = .ok (.aload_n 0, 1) := by decide +kernel
theorem dX8_remove_46 : decode cX8_remove 46 = .ok (.getfield 15, 3) := by decide +kernel
theorem dX8_remove_49 : decode cX8_remove 49 = .ok (.iload_n 3, 1) := by decide +kernel
theorem dX8_remove_50 : decode cX8_remove 50 = .ok (.aload_n 0, 1) := by decide +kernel
theorem dX8_remove_51 : decode cX8_remove 51 = .ok (.getfield 15, 3) := by decide +kernel
theorem dX8_remove_54 : decode cX8_remove 54 = .ok (.iload_n 3, 1) := by decide +kernel
theorem dX8_remove_55 : decode cX8_remove 55 = .ok (.iload_n 2, 1) := by decide +kernel
theorem dX8_remove_56 : decode cX8_remove 56 = .ok (.iadd, 1) := by decide +kernel
theorem dX8_remove_57 : decode cX8_remove 57 = .ok (.laload, 1) := by decide +kernel
theorem dX8_remove_58 : decode cX8_remove 58 = .ok (.lastore, 1) := by decide +kernel
theorem dX8_remove_59 : decode cX8_remove 59 = .ok (.iinc 3 1, 3) := by decide +kernel
theorem dX8_remove_62 : decode cX8_remove 62 = .ok (.goto (-41), 3) := by decide +kernel
theorem dX8_remove_65 : decode cX8_remove 65 = .ok (.aload_n 0, 1) := by decide +kernel
theorem dX8_remove_66 : decode cX8_remove 66 = .ok (.dup, 1) := by decide +kernel
theorem dX8_remove_67 : decode cX8_remove 67 = .ok (.getfield 34, 3) := by decide +kernel
theorem dX8_remove_70 : decode cX8_remove 70 = .ok (.iload_n 2, 1) := by decide +kernel
theorem dX8_remove_71 : decode cX8_remove 71 = .ok (.isub, 1) := by decide +kernel
theorem dX8_remove_72 : decode cX8_remove 72 = .ok (.putfield 34, 3) := by decide +kernel
theorem dX8_remove_75 : decode cX8_remove 75 = .ok (.iconst 0, 1) := by decide +kernel
theorem dX8_remove_76 : decode cX8_remove 76 = .ok (.istore_n 3, 1) := by decide +kernel
theorem dX8_remove_77 : decode cX8_remove 77 = .ok (.iload_n 3, 1) := by decide +kernel
theorem dX8_remove_78 : decode cX8_remove 78 = .ok (.aload_n 0, 1) := by decide +kernel
theorem dX8_remove_79 : decode cX8_remove 79 = .ok (.getfield 34, 3) := by decide +kernel
theorem dX8_remove_82 : decode cX8_remove 82 = .ok (.if_icmp .ge 51, 3) := by decide +kernel
theorem dX8_remove_85 : decode cX8_remove 85 = .ok (.aload_n 0, 1) := by decide +kernel
theorem dX8_remove_86 : decode cX8_remove 86 = .ok (.iload_n 3, 1) := by decide +kernel
theorem dX8_remove_87 : decode cX8_remove 87 = .ok (.invokevirtual 97, 3) := by decide +kernel
theorem dX8_remove_90 : decode cX8_remove 90 = .ok (.istore 4, 2) := by decide +kernel
theorem dX8_remove_92 : decode cX8_remove 92 = .ok (.iconst 0, 1) := by decide +kernel
theorem dX8_remove_93 : decode cX8_remove 93 = .ok (.istore 5, 2) := by decide +kernel
theorem dX8_remove_95 : decode cX8_remove 95 = .ok (.iload 5, 2) := by decide +kernel
theorem dX8_remove_97 : decode cX8_remove 97 = .ok (.iload 4, 2) := by decide +kernel
theorem dX8_remove_99 : decode cX8_remove 99 = .ok (.if_icmp .ge 28, 3) := by decide +kernel
theorem dX8_remove_102 : decode cX8_remove 102 = .ok (.aload_n 0, 1) := by decide +kernel
theorem dX8_remove_103 : decode cX8_remove 103 = .ok (.iload_n 3, 1) := by decide +kernel
theorem dX8_remove_104 : decode cX8_remove 104 = .ok (.iload 5, 2) := by decide +kernel
theorem dX8_remove_106 : decode cX8_remove 106 = .ok (.aload_n 0, 1) := by decide +kernel
theorem dX8_remove_107 : decode cX8_remove 107 = .ok (.iload_n 3, 1) := by decide +kernel
theorem dX8_remove_108 : decode cX8_remove 108 = .ok (.iload 5, 2) := by decide +kernel
theorem dX8_remove_110 : decode cX8_remove 110 = .ok (.invokevirtual 100, 3) := by decide +kernel
theorem dX8_remove_113 : decode cX8_remove 113 = .ok (.iload_n 1, 1) := by decide +kernel
theorem dX8_remove_114 : decode cX8_remove 114 = .ok (.iload_n 2, 1) := by decide +kernel
theorem dX8_remove_115 : decode cX8_remove 115 = .ok (.invokestatic 104, 3) := by decide +kernel
theorem dX8_remove_118 : decode cX8_remove 118 = .ok (.invokevirtual 108, 3) := by decide +kernel
theorem dX8_remove_121 : decode cX8_remove 121 = .ok (.iinc 5 1, 3) := by decide +kernel
theorem dX8_remove_124 : decode cX8_remove 124 = .ok (.goto (-29), 3) := by decide +kernel
theorem dX8_remove_127 : decode cX8_remove 127 = .ok (.iinc 3 1, 3) := by decide +kernel
theorem dX8_remove_130 : decode cX8_remove 130 = .ok (.goto (-53), 3) := by decide +kernel
theorem dX8_remove_133 : decode cX8_remove 133 = .ok (.iconst 0, 1) := by decide +kernel
theorem dX8_remove_134 : decode cX8_remove 134 = .ok (.istore_n 3, 1) := by decide +kernel
theorem dX8_remove_135 : decode cX8_remove 135 = .ok (.iconst 0, 1) := by decide +kernel
theorem dX8_remove_136 : decode cX8_remove 136 = .ok (.istore 4, 2) := by decide +kernel
theorem dX8_remove_138 : decode cX8_remove 138 = .ok (.iload 4, 2) := by decide +kernel
theorem dX8_remove_140 : decode cX8_remove 140 = .ok (.aload_n 0, 1) := by decide +kernel
theorem dX8_remove_141 : decode cX8_remove 141 = .ok (.getfield 49, 3) := by decide +kernel
theorem dX8_remove_144 : decode cX8_remove 144 = .ok (.if_icmp .ge 94, 3) := by decide +kernel
theorem dX8_remove_147 : decode cX8_remove 147 = .ok (.aload_n 0, 1) := by decide +kernel
theorem dX8_remove_148 : decode cX8_remove 148 = .ok (.getfield 22, 3) := by decide +kernel
theorem dX8_remove_151 : decode cX8_remove 151 = .ok (.iload 4, 2) := by decide +kernel
theorem dX8_remove_153 : decode cX8_remove 153 = .ok (.iaload, 1) := by decide +kernel
theorem dX8_remove_154 : decode cX8_remove 154 = .ok (.iload_n 1, 1) := by decide +kernel
theorem dX8_remove_155 : decode cX8_remove 155 = .ok (.iload_n 2, 1) := by decide +kernel
theorem dX8_remove_156 : decode cX8_remove 156 = .ok (.invokestatic 104, 3) := by decide +kernel
theorem dX8_remove_159 : decode cX8_remove 159 = .ok (.istore 5, 2) := by decide +kernel
theorem dX8_remove_161 : decode cX8_remove 161 = .ok (.aload_n 0, 1) := by decide +kernel
theorem dX8_remove_162 : decode cX8_remove 162 = .ok (.getfield 25, 3) := by decide +kernel
theorem dX8_remove_165 : decode cX8_remove 165 = .ok (.iload 4, 2) := by decide +kernel
theorem dX8_remove_167 : decode cX8_remove 167 = .ok (.iaload, 1) := by decide +kernel
theorem dX8_remove_168 : decode cX8_remove 168 = .ok (.iload_n 1, 1) := by decide +kernel
theorem dX8_remove_169 : decode cX8_remove 169 = .ok (.iload_n 2, 1) := by decide +kernel
theorem dX8_remove_170 : decode cX8_remove 170 = .ok (.invokestatic 104, 3) := by decide +kernel
theorem dX8_remove_173 : decode cX8_remove 173 = .ok (.istore 6, 2) := by decide +kernel
theorem dX8_remove_175 : decode cX8_remove 175 = .ok (.iload 5, 2) := by decide +kernel
theorem dX8_remove_177 : decode cX8_remove 177 = .ok (.iload 6, 2) := by decide +kernel
theorem dX8_remove_179 : decode cX8_remove 179 = .ok (.if_icmp .ge 53, 3) := by decide +kernel
theorem dX8_remove_182 : decode cX8_remove 182 = .ok (.aload_n 0, 1) := by decide +kernel
theorem dX8_remove_183 : decode cX8_remove 183 = .ok (.getfield 22, 3) := by decide +kernel
theorem dX8_remove_186 : decode cX8_remove 186 = .ok (.iload_n 3, 1) := by decide +kernel
theorem dX8_remove_187 : decode cX8_remove 187 = .ok (.iload 5, 2) := by decide +kernel
theorem dX8_remove_189 : decode cX8_remove 189 = .ok (.iastore, 1) := by decide +kernel
theorem dX8_remove_190 : decode cX8_remove 190 = .ok (.aload_n 0, 1) := by decide +kernel
theorem dX8_remove_191 : decode cX8_remove 191 = .ok (.getfield 25, 3) := by decide +kernel
theorem dX8_remove_194 : decode cX8_remove 194 = .ok (.iload_n 3, 1) := by decide +kernel
theorem dX8_remove_195 : decode cX8_remove 195 = .ok (.iload 6, 2) := by decide +kernel
theorem dX8_remove_197 : decode cX8_remove 197 = .ok (.iastore, 1) := by decide +kernel
theorem dX8_remove_198 : decode cX8_remove 198 = .ok (.aload_n 0, 1) := by decide +kernel
theorem dX8_remove_199 : decode cX8_remove 199 = .ok (.getfield 28, 3) := by decide +kernel
theorem dX8_remove_202 : decode cX8_remove 202 = .ok (.iload_n 3, 1) := by decide +kernel
theorem dX8_remove_203 : decode cX8_remove 203 = .ok (.aload_n 0, 1) := by decide +kernel
theorem dX8_remove_204 : decode cX8_remove 204 = .ok (.getfield 28, 3) := by decide +kernel
theorem dX8_remove_207 : decode cX8_remove 207 = .ok (.iload 4, 2) := by decide +kernel
theorem dX8_remove_209 : decode cX8_remove 209 = .ok (.iaload, 1) := by decide +kernel
theorem dX8_remove_210 : decode cX8_remove 210 = .ok (.iload_n 1, 1) := by decide +kernel
theorem dX8_remove_211 : decode cX8_remove 211 = .ok (.iload_n 2, 1) := by decide +kernel
theorem dX8_remove_212 : decode cX8_remove 212 = .ok (.invokestatic 104, 3) := by decide +kernel
theorem dX8_remove_215 : decode cX8_remove 215 = .ok (.iastore, 1) := by decide +kernel
theorem dX8_remove_216 : decode cX8_remove 216 = .ok (.aload_n 0, 1) := by decide +kernel
theorem dX8_remove_217 : decode cX8_remove 217 = .ok (.getfield 31, 3) := by decide +kernel
theorem dX8_remove_220 : decode cX8_remove 220 = .ok (.iload_n 3, 1) := by decide +kernel
theorem dX8_remove_221 : decode cX8_remove 221 = .ok (.aload_n 0, 1) := by decide +kernel
theorem dX8_remove_222 : decode cX8_remove 222 = .ok (.getfield 31, 3) := by decide +kernel
theorem dX8_remove_225 : decode cX8_remove 225 = .ok (.iload 4, 2) := by decide +kernel
theorem dX8_remove_227 : decode cX8_remove 227 = .ok (.iaload, 1) := by decide +kernel
theorem dX8_remove_228 : decode cX8_remove 228 = .ok (.iastore, 1) := by decide +kernel
theorem dX8_remove_229 : decode cX8_remove 229 = .ok (.iinc 3 1, 3) := by decide +kernel
theorem dX8_remove_232 : decode cX8_remove 232 = .ok (.iinc 4 1, 3) := by decide +kernel
theorem dX8_remove_235 : decode cX8_remove 235 = .ok (.goto (-97), 3) := by decide +kernel
theorem dX8_remove_238 : decode cX8_remove 238 = .ok (.aload_n 0, 1) := by decide +kernel
theorem dX8_remove_239 : decode cX8_remove 239 = .ok (.iload_n 3, 1) := by decide +kernel
theorem dX8_remove_240 : decode cX8_remove 240 = .ok (.putfield 49, 3) := by decide +kernel
theorem dX8_remove_243 : decode cX8_remove 243 = .ok (.return_, 1) := by decide +kernel
theorem dX8_set_0 : decode cX8_set 0 = .ok (.iload_n 1, 1) := by decide +kernel
theorem dX8_set_1 : decode cX8_set 1 = .ok (.ifCond .lt 26, 3) := by decide +kernel
theorem dX8_set_4 : decode cX8_set 4 = .ok (.iload_n 1, 1) := by decide +kernel
theorem dX8_set_5 : decode cX8_set 5 = .ok (.aload_n 0, 1) := by decide +kernel
theorem dX8_set_6 : decode cX8_set 6 = .ok (.getfield 9, 3) := by decide +kernel
theorem dX8_set_9 : decode cX8_set 9 = .ok (.arraylength, 1) := by decide +kernel
theorem dX8_set_10 : decode cX8_set 10 = .ok (.if_icmp .ge 17, 3) := by decide +kernel
theorem dX8_set_13 : decode cX8_set 13 = .ok (.aload_n 0, 1) := by decide +kernel
theorem dX8_set_14 : decode cX8_set 14 = .ok (.getfield 9, 3) := by decide +kernel
theorem dX8_set_17 : decode cX8_set 17 = .ok (.iload_n 1, 1) := by decide +kernel
theorem dX8_set_18 : decode cX8_set 18 = .ok (.iload_n 2, 1) := by decide +kernel
theorem dX8_set_19 : decode cX8_set 19 = .ok (.iastore, 1) := by decide +kernel
theorem dX8_set_20 : decode cX8_set 20 = .ok (.aload_n 0, 1) := by decide +kernel
theorem dX8_set_21 : decode cX8_set 21 = .ok (.getfield 15, 3) := by decide +kernel
theorem dX8_set_24 : decode cX8_set 24 = .ok (.iload_n 1, 1) := by decide +kernel
theorem dX8_set_25 : decode cX8_set 25 = .ok (.lload_n 3, 1) := by decide +kernel
theorem dX8_set_26 : decode cX8_set 26 = .ok (.lastore, 1) := by decide +kernel
theorem dX8_set_27 : decode cX8_set 27 = .ok (.return_, 1) := by decide +kernel
theorem dX8_setTarget_0 : decode cX8_setTarget 0 = .ok (.aload_n 0, 1) := by decide +kernel
theorem dX8_setTarget_1 : decode cX8_setTarget 1 = .ok (.iload_n 1, 1) := by decide +kernel
theorem dX8_setTarget_2 : decode cX8_setTarget 2 = .ok (.invokevirtual 52, 3) := by decide +kernel
theorem dX8_setTarget_5 : decode cX8_setTarget 5 = .ok (.invokestatic 56, 3) := by decide +kernel
theorem dX8_setTarget_8 : decode cX8_setTarget 8 = .ok (.ifCond .eq 16, 3) := by decide +kernel
theorem dX8_setTarget_11 : decode cX8_setTarget 11 = .ok (.aload_n 0, 1) := by decide +kernel
theorem dX8_setTarget_12 : decode cX8_setTarget 12 = .ok (.iload_n 1, 1) := by decide +kernel
theorem dX8_setTarget_13 : decode cX8_setTarget 13 = .ok (.aload_n 0, 1) := by decide +kernel
theorem dX8_setTarget_14 : decode cX8_setTarget 14 = .ok (.iload_n 1, 1) := by decide +kernel
theorem dX8_setTarget_15 : decode cX8_setTarget 15 = .ok (.invokevirtual 52, 3) := by decide +kernel
theorem dX8_setTarget_18 : decode cX8_setTarget 18 = .ok (.iload_n 3, 1) := by decide +kernel
theorem dX8_setTarget_19 : decode cX8_setTarget 19 = .ok (.i2l, 1) := by decide +kernel
theorem dX8_setTarget_20 : decode cX8_setTarget 20 = .ok (.invokevirtual 45, 3) := by decide +kernel
theorem dX8_setTarget_23 : decode cX8_setTarget 23 = .ok (.return_, 1) := by decide +kernel
theorem dX8_setTarget_24 : decode cX8_setTarget 24 = .ok (.aload_n 0, 1) := by decide +kernel
theorem dX8_setTarget_25 : decode cX8_setTarget 25 = .ok (.iload_n 1, 1) := by decide +kernel
theorem dX8_setTarget_26 : decode cX8_setTarget 26 = .ok (.invokevirtual 41, 3) := by decide +kernel
theorem dX8_setTarget_29 : decode cX8_setTarget 29 = .ok (.l2i, 1) := by decide +kernel
theorem dX8_setTarget_30 : decode cX8_setTarget 30 = .ok (.iconst 2, 1) := by decide +kernel
theorem dX8_setTarget_31 : decode cX8_setTarget 31 = .ok (.iadd, 1) := by decide +kernel
theorem dX8_setTarget_32 : decode cX8_setTarget 32 = .ok (.iload_n 2, 1) := by decide +kernel
theorem dX8_setTarget_33 : decode cX8_setTarget 33 = .ok (.iadd, 1) := by decide +kernel
theorem dX8_setTarget_34 : decode cX8_setTarget 34 = .ok (.istore 4, 2) := by decide +kernel
theorem dX8_setTarget_36 : decode cX8_setTarget 36 = .ok (.iload 4, 2) := by decide +kernel
theorem dX8_setTarget_38 : decode cX8_setTarget 38 = .ok (.ifCond .lt 20, 3) := by decide +kernel
theorem dX8_setTarget_41 : decode cX8_setTarget 41 = .ok (.iload 4, 2) := by decide +kernel
theorem dX8_setTarget_43 : decode cX8_setTarget 43 = .ok (.aload_n 0, 1) := by decide +kernel
theorem dX8_setTarget_44 : decode cX8_setTarget 44 = .ok (.getfield 38, 3) := by decide +kernel
theorem dX8_setTarget_47 : decode cX8_setTarget 47 = .ok (.if_icmp .ge 11, 3) := by decide +kernel
theorem dX8_setTarget_50 : decode cX8_setTarget 50 = .ok (.aload_n 0, 1) := by decide +kernel
theorem dX8_setTarget_51 : decode cX8_setTarget 51 = .ok (.getfield 19, 3) := by decide +kernel
theorem dX8_setTarget_54 : decode cX8_setTarget 54 = .ok (.iload 4, 2) := by decide +kernel
theorem dX8_setTarget_56 : decode cX8_setTarget 56 = .ok (.iload_n 3, 1) := by decide +kernel
theorem dX8_setTarget_57 : decode cX8_setTarget 57 = .ok (.iastore, 1) := by decide +kernel
theorem dX8_setTarget_58 : decode cX8_setTarget 58 = .ok (.return_, 1) := by decide +kernel
theorem dX8_stepOf_0 : decode cX8_stepOf 0 = .ok (.aload_n 0, 1) := by decide +kernel
theorem dX8_stepOf_1 : decode cX8_stepOf 1 = .ok (.iload_n 1, 1) := by decide +kernel
theorem dX8_stepOf_2 : decode cX8_stepOf 2 = .ok (.invokevirtual 41, 3) := by decide +kernel
theorem dX8_stepOf_5 : decode cX8_stepOf 5 = .ok (.bipush 8, 2) := by decide +kernel
theorem dX8_stepOf_7 : decode cX8_stepOf 7 = .ok (.lshr, 1) := by decide +kernel
theorem dX8_stepOf_8 : decode cX8_stepOf 8 = .ok (.l2i, 1) := by decide +kernel
theorem dX8_stepOf_9 : decode cX8_stepOf 9 = .ok (.ireturn, 1) := by decide +kernel
theorem dX8_tableAt_0 : decode cX8_tableAt 0 = .ok (.iload_n 1, 1) := by decide +kernel
theorem dX8_tableAt_1 : decode cX8_tableAt 1 = .ok (.ifCond .lt 11, 3) := by decide +kernel
theorem dX8_tableAt_4 : decode cX8_tableAt 4 = .ok (.iload_n 1, 1) := by decide +kernel
theorem dX8_tableAt_5 : decode cX8_tableAt 5 = .ok (.aload_n 0, 1) := by decide +kernel
theorem dX8_tableAt_6 : decode cX8_tableAt 6 = .ok (.getfield 38, 3) := by decide +kernel
theorem dX8_tableAt_9 : decode cX8_tableAt 9 = .ok (.if_icmp .lt 7, 3) := by decide +kernel
theorem dX8_tableAt_12 : decode cX8_tableAt 12 = .ok (.iconst 0, 1) := by decide +kernel
theorem dX8_tableAt_13 : decode cX8_tableAt 13 = .ok (.goto 9, 3) := by decide +kernel
theorem dX8_tableAt_16 : decode cX8_tableAt 16 = .ok (.aload_n 0, 1) := by decide +kernel
theorem dX8_tableAt_17 : decode cX8_tableAt 17 = .ok (.getfield 19, 3) := by decide +kernel
theorem dX8_tableAt_20 : decode cX8_tableAt 20 = .ok (.iload_n 1, 1) := by decide +kernel
theorem dX8_tableAt_21 : decode cX8_tableAt 21 = .ok (.iaload, 1) := by decide +kernel
theorem dX8_tableAt_22 : decode cX8_tableAt 22 = .ok (.ireturn, 1) := by decide +kernel
theorem dX8_targetAt_0 : decode cX8_targetAt 0 = .ok (.aload_n 0, 1) := by decide +kernel
theorem dX8_targetAt_1 : decode cX8_targetAt 1 = .ok (.iload_n 1, 1) := by decide +kernel
theorem dX8_targetAt_2 : decode cX8_targetAt 2 = .ok (.invokevirtual 52, 3) := by decide +kernel
theorem dX8_targetAt_5 : decode cX8_targetAt 5 = .ok (.invokestatic 56, 3) := by decide +kernel
theorem dX8_targetAt_8 : decode cX8_targetAt 8 = .ok (.ifCond .eq 12, 3) := by decide +kernel
theorem dX8_targetAt_11 : decode cX8_targetAt 11 = .ok (.aload_n 0, 1) := by decide +kernel
theorem dX8_targetAt_12 : decode cX8_targetAt 12 = .ok (.iload_n 1, 1) := by decide +kernel
theorem dX8_targetAt_13 : decode cX8_targetAt 13 = .ok (.invokevirtual 41, 3) := by decide +kernel
theorem dX8_targetAt_16 : decode cX8_targetAt 16 = .ok (.l2i, 1) := by decide +kernel
theorem dX8_targetAt_17 : decode cX8_targetAt 17 = .ok (.goto 17, 3) := by decide +kernel
theorem dX8_targetAt_20 : decode cX8_targetAt 20 = .ok (.aload_n 0, 1) := by decide +kernel
theorem dX8_targetAt_21 : decode cX8_targetAt 21 = .ok (.aload_n 0, 1) := by decide +kernel
theorem dX8_targetAt_22 : decode cX8_targetAt 22 = .ok (.iload_n 1, 1) := by decide +kernel
theorem dX8_targetAt_23 : decode cX8_targetAt 23 = .ok (.invokevirtual 41, 3) := by decide +kernel
theorem dX8_targetAt_26 : decode cX8_targetAt 26 = .ok (.l2i, 1) := by decide +kernel
theorem dX8_targetAt_27 : decode cX8_targetAt 27 = .ok (.iconst 2, 1) := by decide +kernel
theorem dX8_targetAt_28 : decode cX8_targetAt 28 = .ok (.iadd, 1) := by decide +kernel
theorem dX8_targetAt_29 : decode cX8_targetAt 29 = .ok (.iload_n 2, 1) := by decide +kernel
theorem dX8_targetAt_30 : decode cX8_targetAt 30 = .ok (.iadd, 1) := by decide +kernel
theorem dX8_targetAt_31 : decode cX8_targetAt 31 = .ok (.invokevirtual 65, 3) := by decide +kernel
theorem dX8_targetAt_34 : decode cX8_targetAt 34 = .ok (.ireturn, 1) := by decide +kernel
theorem dX8_targetCount_0 : decode cX8_targetCount 0 = .ok (.aload_n 0, 1) := by decide +kernel
theorem dX8_targetCount_1 : decode cX8_targetCount 1 = .ok (.iload_n 1, 1) := by decide +kernel
theorem dX8_targetCount_2 : decode cX8_targetCount 2 = .ok (.invokevirtual 52, 3) := by decide +kernel
theorem dX8_targetCount_5 : decode cX8_targetCount 5 = .ok (.istore_n 2, 1) := by decide +kernel
theorem dX8_targetCount_6 : decode cX8_targetCount 6 = .ok (.iload_n 2, 1) := by decide +kernel
theorem dX8_targetCount_7 : decode cX8_targetCount 7 = .ok (.invokestatic 56, 3) := by decide +kernel
theorem dX8_targetCount_10 : decode cX8_targetCount 10 = .ok (.ifCond .eq 5, 3) := by decide +kernel
theorem dX8_targetCount_13 : decode cX8_targetCount 13 = .ok (.iconst 1, 1) := by decide +kernel
theorem dX8_targetCount_14 : decode cX8_targetCount 14 = .ok (.ireturn, 1) := by decide +kernel
theorem dX8_targetCount_15 : decode cX8_targetCount 15 = .ok (.iload_n 2, 1) := by decide +kernel
theorem dX8_targetCount_16 : decode cX8_targetCount 16 = .ok (.invokestatic 62, 3) := by decide +kernel
theorem dX8_targetCount_19 : decode cX8_targetCount 19 = .ok (.ifCond .eq 16, 3) := by decide +kernel
theorem dX8_targetCount_22 : decode cX8_targetCount 22 = .ok (.aload_n 0, 1) := by decide +kernel
theorem dX8_targetCount_23 : decode cX8_targetCount 23 = .ok (.aload_n 0, 1) := by decide +kernel
theorem dX8_targetCount_24 : decode cX8_targetCount 24 = .ok (.iload_n 1, 1) := by decide +kernel
theorem dX8_targetCount_25 : decode cX8_targetCount 25 = .ok (.invokevirtual 41, 3) := by decide +kernel
theorem dX8_targetCount_28 : decode cX8_targetCount 28 = .ok (.l2i, 1) := by decide +kernel
theorem dX8_targetCount_29 : decode cX8_targetCount 29 = .ok (.invokevirtual 65, 3) := by decide +kernel
theorem dX8_targetCount_32 : decode cX8_targetCount 32 = .ok (.goto 4, 3) := by decide +kernel
theorem dX8_targetCount_35 : decode cX8_targetCount 35 = .ok (.iconst 0, 1) := by decide +kernel
theorem dX8_targetCount_36 : decode cX8_targetCount 36 = .ok (.ireturn, 1) := by decide +kernel
theorem dX9_appliedAt_0 : decode cX9_appliedAt 0 = .ok (.iload_n 1, 1) := by decide +kernel
theorem dX9_appliedAt_1 : decode cX9_appliedAt 1 = .ok (.ifCond .lt 12, 3) := by decide +kernel
theorem dX9_appliedAt_4 : decode cX9_appliedAt 4 = .ok (.iload_n 1, 1) := by decide +kernel
theorem dX9_appliedAt_5 : decode cX9_appliedAt 5 = .ok (.aload_n 0, 1) := by decide +kernel
theorem dX9_appliedAt_6 : decode cX9_appliedAt 6 = .ok (.getfield 20, 3) := by decide +kernel
theorem dX9_appliedAt_9 : decode cX9_appliedAt 9 = .ok (.arraylength, 1) := by decide +kernel
theorem dX9_appliedAt_10 : decode cX9_appliedAt 10 = .ok (.if_icmp .lt 7, 3) := by decide +kernel
theorem dX9_appliedAt_13 : decode cX9_appliedAt 13 = .ok (.iconst 0, 1) := by decide +kernel
theorem dX9_appliedAt_14 : decode cX9_appliedAt 14 = .ok (.goto 9, 3) := by decide +kernel
theorem dX9_appliedAt_17 : decode cX9_appliedAt 17 = .ok (.aload_n 0, 1) := by decide +kernel
theorem dX9_appliedAt_18 : decode cX9_appliedAt 18 = .ok (.getfield 20, 3) := by decide +kernel
theorem dX9_appliedAt_21 : decode cX9_appliedAt 21 = .ok (.iload_n 1, 1) := by decide +kernel
theorem dX9_appliedAt_22 : decode cX9_appliedAt 22 = .ok (.iaload, 1) := by decide +kernel
theorem dX9_appliedAt_23 : decode cX9_appliedAt 23 = .ok (.ireturn, 1) := by decide +kernel
theorem dX9_dropUnreached_0 : decode cX9_dropUnreached 0 = .ok (.aload_n 0, 1) := by decide +kernel
theorem dX9_dropUnreached_1 : decode cX9_dropUnreached 1 = .ok (.invokevirtual 180, 3) := by decide +kernel
theorem dX9_dropUnreached_4 : decode cX9_dropUnreached 4 = .ok (.iconst 0, 1) := by decide +kernel
theorem dX9_dropUnreached_5 : decode cX9_dropUnreached 5 = .ok (.istore_n 1, 1) := by decide +kernel
theorem dX9_dropUnreached_6 : decode cX9_dropUnreached 6 = .ok (.iconst 0, 1) := by decide +kernel
theorem dX9_dropUnreached_7 : decode cX9_dropUnreached 7 = .ok (.istore_n 2, 1) := by decide +kernel
theorem dX9_dropUnreached_8 : decode cX9_dropUnreached 8 = .ok (.aload_n 0, 1) := by decide +kernel
theorem dX9_dropUnreached_9 : decode cX9_dropUnreached 9 = .ok (.getfield 14, 3) := by decide +kernel
theorem dX9_dropUnreached_12 : decode cX9_dropUnreached 12 = .ok (.getfield 54, 3) := by decide +kernel
theorem dX9_dropUnreached_15 : decode cX9_dropUnreached 15 = .ok (.istore_n 3, 1) := by decide +kernel
theorem dX9_dropUnreached_16 : decode cX9_dropUnreached 16 = .ok (.iconst 0, 1) := by decide +kernel
theorem dX9_dropUnreached_17 : decode cX9_dropUnreached 17 = .ok (.istore 4, 2) := by decide +kernel
theorem dX9_dropUnreached_19 : decode cX9_dropUnreached 19 = .ok (.iload 4, 2) := by decide +kernel
theorem dX9_dropUnreached_21 : decode cX9_dropUnreached 21 = .ok (.iload_n 3, 1) := by decide +kernel
theorem dX9_dropUnreached_22 : decode cX9_dropUnreached 22 = .ok (.if_icmp .ge 46, 3) := by decide +kernel
theorem dX9_dropUnreached_25 : decode cX9_dropUnreached 25 = .ok (.aload_n 0, 1) := by decide +kernel
theorem dX9_dropUnreached_26 : decode cX9_dropUnreached 26 = .ok (.getfield 28, 3) := by decide +kernel
theorem dX9_dropUnreached_29 : decode cX9_dropUnreached 29 = .ok (.iload 4, 2) := by decide +kernel
theorem dX9_dropUnreached_31 : decode cX9_dropUnreached 31 = .ok (.baload, 1) := by decide +kernel
theorem dX9_dropUnreached_32 : decode cX9_dropUnreached 32 = .ok (.ifCond .eq 9, 3) := by decide +kernel
theorem dX9_dropUnreached_35 : decode cX9_dropUnreached 35 = .ok (.iinc 2 1, 3) := by decide +kernel
theorem dX9_dropUnreached_38 : decode cX9_dropUnreached 38 = .ok (.goto 24, 3) := by decide +kernel
theorem dX9_dropUnreached_41 : decode cX9_dropUnreached 41 = .ok (.aload_n 0, 1) := by decide +kernel
theorem dX9_dropUnreached_42 : decode cX9_dropUnreached 42 = .ok (.getfield 14, 3) := by decide +kernel
theorem dX9_dropUnreached_45 : decode cX9_dropUnreached 45 = .ok (.iload_n 2, 1) := by decide +kernel
theorem dX9_dropUnreached_46 : decode cX9_dropUnreached 46 = .ok (.iconst 1, 1) := by decide +kernel
theorem dX9_dropUnreached_47 : decode cX9_dropUnreached 47 = .ok (.invokevirtual 176, 3) := by decide +kernel
theorem dX9_dropUnreached_50 : decode cX9_dropUnreached 50 = .ok (.aload_n 0, 1) := by decide +kernel
theorem dX9_dropUnreached_51 : decode cX9_dropUnreached 51 = .ok (.getfield 20, 3) := by decide +kernel
theorem dX9_dropUnreached_54 : decode cX9_dropUnreached 54 = .ok (.iconst 1, 1) := by decide +kernel
theorem dX9_dropUnreached_55 : decode cX9_dropUnreached 55 = .ok (.dup2, 1) := by decide +kernel
theorem dX9_dropUnreached_56 : decode cX9_dropUnreached 56 = .ok (.iaload, 1) := by decide +kernel
theorem dX9_dropUnreached_57 : decode cX9_dropUnreached 57 = .ok (.iconst 1, 1) := by decide +kernel
theorem dX9_dropUnreached_58 : decode cX9_dropUnreached 58 = .ok (.iadd, 1) := by decide +kernel
theorem dX9_dropUnreached_59 : decode cX9_dropUnreached 59 = .ok (.iastore, 1) := by decide +kernel
theorem dX9_dropUnreached_60 : decode cX9_dropUnreached 60 = .ok (.iconst 1, 1) := by decide +kernel
theorem dX9_dropUnreached_61 : decode cX9_dropUnreached 61 = .ok (.istore_n 1, 1) := by decide +kernel
theorem dX9_dropUnreached_62 : decode cX9_dropUnreached 62 = .ok (.iinc 4 1, 3) := by decide +kernel
theorem dX9_dropUnreached_65 : decode cX9_dropUnreached 65 = .ok (.goto (-46), 3) := by decide +kernel
theorem dX9_dropUnreached_68 : decode cX9_dropUnreached 68 = .ok (.iload_n 1, 1) := by decide +kernel
theorem dX9_dropUnreached_69 : decode cX9_dropUnreached 69 = .ok (.ireturn, 1) := by decide +kernel
theorem dX9_findLive_0 : decode cX9_findLive 0 = .ok (.aload_n 0, 1) := by decide +kernel
theorem dX9_findLive_1 : decode cX9_findLive 1 = .ok (.getfield 31, 3) := by decide +kernel
theorem dX9_findLive_4 : decode cX9_findLive 4 = .ok (.iconst 0, 1) := by decide +kernel
theorem dX9_findLive_5 : decode cX9_findLive 5 = .ok (.invokestatic 37, 3) := by decide +kernel
theorem dX9_findLive_8 : decode cX9_findLive 8 = .ok (.iconst 1, 1) := by decide +kernel
theorem dX9_findLive_9 : decode cX9_findLive 9 = .ok (.istore_n 1, 1) := by decide +kernel
theorem dX9_findLive_10 : decode cX9_findLive 10 = .ok (.iconst 0, 1) := by decide +kernel
theorem dX9_findLive_11 : decode cX9_findLive 11 = .ok (.istore_n 2, 1) := by decide +kernel
theorem dX9_findLive_12 : decode cX9_findLive 12 = .ok (.iload_n 1, 1) := by decide +kernel
theorem dX9_findLive_13 : decode cX9_findLive 13 = .ok (.ifCond .eq 71, 3) := by decide +kernel
theorem dX9_findLive_16 : decode cX9_findLive 16 = .ok (.iload_n 2, 1) := by decide +kernel
theorem dX9_findLive_17 : decode cX9_findLive 17 = .ok (.ldc 135, 2) := by decide +kernel
theorem dX9_findLive_19 : decode cX9_findLive 19 = .ok (.if_icmp .ge 65, 3) := by decide +kernel
theorem dX9_findLive_22 : decode cX9_findLive 22 = .ok (.iconst 0, 1) := by decide +kernel
theorem dX9_findLive_23 : decode cX9_findLive 23 = .ok (.istore_n 1, 1) := by decide +kernel
theorem dX9_findLive_24 : decode cX9_findLive 24 = .ok (.aload_n 0, 1) := by decide +kernel
theorem dX9_findLive_25 : decode cX9_findLive 25 = .ok (.getfield 14, 3) := by decide +kernel
theorem dX9_findLive_28 : decode cX9_findLive 28 = .ok (.getfield 54, 3) := by decide +kernel
theorem dX9_findLive_31 : decode cX9_findLive 31 = .ok (.iconst 1, 1) := by decide +kernel
theorem dX9_findLive_32 : decode cX9_findLive 32 = .ok (.isub, 1) := by decide +kernel
theorem dX9_findLive_33 : decode cX9_findLive 33 = .ok (.istore_n 3, 1) := by decide +kernel
theorem dX9_findLive_34 : decode cX9_findLive 34 = .ok (.iload_n 3, 1) := by decide +kernel
theorem dX9_findLive_35 : decode cX9_findLive 35 = .ok (.ifCond .lt 43, 3) := by decide +kernel
theorem dX9_findLive_38 : decode cX9_findLive 38 = .ok (.aload_n 0, 1) := by decide +kernel
theorem dX9_findLive_39 : decode cX9_findLive 39 = .ok (.iload_n 3, 1) := by decide +kernel
theorem dX9_findLive_40 : decode cX9_findLive 40 = .ok (.invokevirtual 260, 3) := by decide +kernel
theorem dX9_findLive_43 : decode cX9_findLive 43 = .ok (.istore 4, 2) := by decide +kernel
theorem dX9_findLive_45 : decode cX9_findLive 45 = .ok (.iload_n 1, 1) := by decide +kernel
theorem dX9_findLive_46 : decode cX9_findLive 46 = .ok (.iload 4, 2) := by decide +kernel
theorem dX9_findLive_48 : decode cX9_findLive 48 = .ok (.aload_n 0, 1) := by decide +kernel
theorem dX9_findLive_49 : decode cX9_findLive 49 = .ok (.getfield 31, 3) := by decide +kernel
theorem dX9_findLive_52 : decode cX9_findLive 52 = .ok (.iload_n 3, 1) := by decide +kernel
theorem dX9_findLive_53 : decode cX9_findLive 53 = .ok (.iaload, 1) := by decide +kernel
theorem dX9_findLive_54 : decode cX9_findLive 54 = .ok (.if_icmp .eq 7, 3) := by decide +kernel
theorem dX9_findLive_57 : decode cX9_findLive 57 = .ok (.iconst 1, 1) := by decide +kernel
theorem dX9_findLive_58 : decode cX9_findLive 58 = .ok (.goto 4, 3) := by decide +kernel
theorem dX9_findLive_61 : decode cX9_findLive 61 = .ok (.iconst 0, 1) := by decide +kernel
theorem dX9_findLive_62 : decode cX9_findLive 62 = .ok (.ior, 1) := by decide +kernel
theorem dX9_findLive_63 : decode cX9_findLive 63 = .ok (.istore_n 1, 1) := by decide +kernel
theorem dX9_findLive_64 : decode cX9_findLive 64 = .ok (.aload_n 0, 1) := by decide +kernel
theorem dX9_findLive_65 : decode cX9_findLive 65 = .ok (.getfield 31, 3) := by decide +kernel
theorem dX9_findLive_68 : decode cX9_findLive 68 = .ok (.iload_n 3, 1) := by decide +kernel
theorem dX9_findLive_69 : decode cX9_findLive 69 = .ok (.iload 4, 2) := by decide +kernel
theorem dX9_findLive_71 : decode cX9_findLive 71 = .ok (.iastore, 1) := by decide +kernel
theorem dX9_findLive_72 : decode cX9_findLive 72 = .ok (.iinc 3 (-1), 3) := by decide +kernel
theorem dX9_findLive_75 : decode cX9_findLive 75 = .ok (.goto (-41), 3) := by decide +kernel
theorem dX9_findLive_78 : decode cX9_findLive 78 = .ok (.iinc 2 1, 3) := by decide +kernel
theorem dX9_findLive_81 : decode cX9_findLive 81 = .ok (.goto (-69), 3) := by decide +kernel
theorem dX9_findLive_84 : decode cX9_findLive 84 = .ok (.return_, 1) := by decide +kernel
theorem dX9_findMarked_0 : decode cX9_findMarked 0 = .ok (.iconst 0, 1) := by decide +kernel
theorem dX9_findMarked_1 : decode cX9_findMarked 1 = .ok (.istore_n 1, 1) := by decide +kernel
theorem dX9_findMarked_2 : decode cX9_findMarked 2 = .ok (.iload_n 1, 1) := by decide +kernel
theorem dX9_findMarked_3 : decode cX9_findMarked 3 = .ok (.aload_n 0, 1) := by decide +kernel
theorem dX9_findMarked_4 : decode cX9_findMarked 4 = .ok (.getfield 24, 3) := by decide +kernel
theorem dX9_findMarked_7 : decode cX9_findMarked 7 = .ok (.arraylength, 1) := by decide +kernel
theorem dX9_findMarked_8 : decode cX9_findMarked 8 = .ok (.if_icmp .ge 16, 3) := by decide +kernel
theorem dX9_findMarked_11 : decode cX9_findMarked 11 = .ok (.aload_n 0, 1) := by decide +kernel
theorem dX9_findMarked_12 : decode cX9_findMarked 12 = .ok (.getfield 24, 3) := by decide +kernel
theorem dX9_findMarked_15 : decode cX9_findMarked 15 = .ok (.iload_n 1, 1) := by decide +kernel
theorem dX9_findMarked_16 : decode cX9_findMarked 16 = .ok (.iconst 0, 1) := by decide +kernel
theorem dX9_findMarked_17 : decode cX9_findMarked 17 = .ok (.bastore, 1) := by decide +kernel
theorem dX9_findMarked_18 : decode cX9_findMarked 18 = .ok (.iinc 1 1, 3) := by decide +kernel
theorem dX9_findMarked_21 : decode cX9_findMarked 21 = .ok (.goto (-19), 3) := by decide +kernel
theorem dX9_findMarked_24 : decode cX9_findMarked 24 = .ok (.iconst 0, 1) := by decide +kernel
theorem dX9_findMarked_25 : decode cX9_findMarked 25 = .ok (.istore_n 1, 1) := by decide +kernel
theorem dX9_findMarked_26 : decode cX9_findMarked 26 = .ok (.iload_n 1, 1) := by decide +kernel
theorem dX9_findMarked_27 : decode cX9_findMarked 27 = .ok (.aload_n 0, 1) := by decide +kernel
theorem dX9_findMarked_28 : decode cX9_findMarked 28 = .ok (.getfield 14, 3) := by decide +kernel
theorem dX9_findMarked_31 : decode cX9_findMarked 31 = .ok (.getfield 54, 3) := by decide +kernel
theorem dX9_findMarked_34 : decode cX9_findMarked 34 = .ok (.if_icmp .ge 44, 3) := by decide +kernel
theorem dX9_findMarked_37 : decode cX9_findMarked 37 = .ok (.aload_n 0, 1) := by decide +kernel
theorem dX9_findMarked_38 : decode cX9_findMarked 38 = .ok (.getfield 14, 3) := by decide +kernel
theorem dX9_findMarked_41 : decode cX9_findMarked 41 = .ok (.iload_n 1, 1) := by decide +kernel
theorem dX9_findMarked_42 : decode cX9_findMarked 42 = .ok (.invokevirtual 94, 3) := by decide +kernel
theorem dX9_findMarked_45 : decode cX9_findMarked 45 = .ok (.istore_n 2, 1) := by decide +kernel
theorem dX9_findMarked_46 : decode cX9_findMarked 46 = .ok (.iconst 0, 1) := by decide +kernel
theorem dX9_findMarked_47 : decode cX9_findMarked 47 = .ok (.istore_n 3, 1) := by decide +kernel
theorem dX9_findMarked_48 : decode cX9_findMarked 48 = .ok (.iload_n 3, 1) := by decide +kernel
theorem dX9_findMarked_49 : decode cX9_findMarked 49 = .ok (.iload_n 2, 1) := by decide +kernel
theorem dX9_findMarked_50 : decode cX9_findMarked 50 = .ok (.if_icmp .ge 22, 3) := by decide +kernel
theorem dX9_findMarked_53 : decode cX9_findMarked 53 = .ok (.aload_n 0, 1) := by decide +kernel
theorem dX9_findMarked_54 : decode cX9_findMarked 54 = .ok (.aload_n 0, 1) := by decide +kernel
theorem dX9_findMarked_55 : decode cX9_findMarked 55 = .ok (.getfield 14, 3) := by decide +kernel
theorem dX9_findMarked_58 : decode cX9_findMarked 58 = .ok (.iload_n 1, 1) := by decide +kernel
theorem dX9_findMarked_59 : decode cX9_findMarked 59 = .ok (.iload_n 3, 1) := by decide +kernel
theorem dX9_findMarked_60 : decode cX9_findMarked 60 = .ok (.invokevirtual 97, 3) := by decide +kernel
theorem dX9_findMarked_63 : decode cX9_findMarked 63 = .ok (.invokevirtual 197, 3) := by decide +kernel
theorem dX9_findMarked_66 : decode cX9_findMarked 66 = .ok (.iinc 3 1, 3) := by decide +kernel
theorem dX9_findMarked_69 : decode cX9_findMarked 69 = .ok (.goto (-21), 3) := by decide +kernel
theorem dX9_findMarked_72 : decode cX9_findMarked 72 = .ok (.iinc 1 1, 3) := by decide +kernel
theorem dX9_findMarked_75 : decode cX9_findMarked 75 = .ok (.goto (-49), 3) := by decide +kernel
theorem dX9_findMarked_78 : decode cX9_findMarked 78 = .ok (.iconst 0, 1) := by decide +kernel
theorem dX9_findMarked_79 : decode cX9_findMarked 79 = .ok (.istore_n 1, 1) := by decide +kernel
theorem dX9_findMarked_80 : decode cX9_findMarked 80 = .ok (.iload_n 1, 1) := by decide +kernel
theorem dX9_findMarked_81 : decode cX9_findMarked 81 = .ok (.aload_n 0, 1) := by decide +kernel
theorem dX9_findMarked_82 : decode cX9_findMarked 82 = .ok (.getfield 14, 3) := by decide +kernel
theorem dX9_findMarked_85 : decode cX9_findMarked 85 = .ok (.getfield 106, 3) := by decide +kernel
theorem dX9_findMarked_88 : decode cX9_findMarked 88 = .ok (.if_icmp .ge 48, 3) := by decide +kernel
theorem dX9_findMarked_91 : decode cX9_findMarked 91 = .ok (.aload_n 0, 1) := by decide +kernel
theorem dX9_findMarked_92 : decode cX9_findMarked 92 = .ok (.aload_n 0, 1) := by decide +kernel
theorem dX9_findMarked_93 : decode cX9_findMarked 93 = .ok (.getfield 14, 3) := by decide +kernel
theorem dX9_findMarked_96 : decode cX9_findMarked 96 = .ok (.getfield 109, 3) := by decide +kernel
theorem dX9_findMarked_99 : decode cX9_findMarked 99 = .ok (.iload_n 1, 1) := by decide +kernel
theorem dX9_findMarked_100 : decode cX9_findMarked 100 = .ok (.iaload, 1) := by decide +kernel
theorem dX9_findMarked_101 : decode cX9_findMarked 101 = .ok (.invokevirtual 197, 3) := by decide +kernel
theorem dX9_findMarked_104 : decode cX9_findMarked 104 = .ok (.aload_n 0, 1) := by decide +kernel
theorem dX9_findMarked_105 : decode cX9_findMarked 105 = .ok (.aload_n 0, 1) := by decide +kernel
theorem dX9_findMarked_106 : decode cX9_findMarked 106 = .ok (.getfield 14, 3) := by decide +kernel
theorem dX9_findMarked_109 : decode cX9_findMarked 109 = .ok (.getfield 112, 3) := by decide +kernel
theorem dX9_findMarked_112 : decode cX9_findMarked 112 = .ok (.iload_n 1, 1) := by decide +kernel
theorem dX9_findMarked_113 : decode cX9_findMarked 113 = .ok (.iaload, 1) := by decide +kernel
theorem dX9_findMarked_114 : decode cX9_findMarked 114 = .ok (.invokevirtual 197, 3) := by decide +kernel
theorem dX9_findMarked_117 : decode cX9_findMarked 117 = .ok (.aload_n 0, 1) := by decide +kernel
theorem dX9_findMarked_118 : decode cX9_findMarked 118 = .ok (.aload_n 0, 1) := by decide +kernel
theorem dX9_findMarked_119 : decode cX9_findMarked 119 = .ok (.getfield 14, 3) := by decide +kernel
theorem dX9_findMarked_122 : decode cX9_findMarked 122 = .ok (.getfield 115, 3) := by decide +kernel
theorem dX9_findMarked_125 : decode cX9_findMarked 125 = .ok (.iload_n 1, 1) := by decide +kernel
theorem dX9_findMarked_126 : decode cX9_findMarked 126 = .ok (.iaload, 1) := by decide +kernel
theorem dX9_findMarked_127 : decode cX9_findMarked 127 = .ok (.invokevirtual 197, 3) := by decide +kernel
theorem dX9_findMarked_130 : decode cX9_findMarked 130 = .ok (.iinc 1 1, 3) := by decide +kernel
theorem dX9_findMarked_133 : decode cX9_findMarked 133 = .ok (.goto (-53), 3) := by decide +kernel
theorem dX9_findMarked_136 : decode cX9_findMarked 136 = .ok (.return_, 1) := by decide +kernel
theorem dX9_findReached_0 : decode cX9_findReached 0 = .ok (.iconst 0, 1) := by decide +kernel
theorem dX9_findReached_1 : decode cX9_findReached 1 = .ok (.istore_n 1, 1) := by decide +kernel
theorem dX9_findReached_2 : decode cX9_findReached 2 = .ok (.iload_n 1, 1) := by decide +kernel
theorem dX9_findReached_3 : decode cX9_findReached 3 = .ok (.aload_n 0, 1) := by decide +kernel
theorem dX9_findReached_4 : decode cX9_findReached 4 = .ok (.getfield 28, 3) := by decide +kernel
theorem dX9_findReached_7 : decode cX9_findReached 7 = .ok (.arraylength, 1) := by decide +kernel
theorem dX9_findReached_8 : decode cX9_findReached 8 = .ok (.if_icmp .ge 24, 3) := by decide +kernel
theorem dX9_findReached_11 : decode cX9_findReached 11 = .ok (.aload_n 0, 1) := by decide +kernel
theorem dX9_findReached_12 : decode cX9_findReached 12 = .ok (.getfield 28, 3) := by decide +kernel
theorem dX9_findReached_15 : decode cX9_findReached 15 = .ok (.iload_n 1, 1) := by decide +kernel
theorem dX9_findReached_16 : decode cX9_findReached 16 = .ok (.iload_n 1, 1) := by decide +kernel
theorem dX9_findReached_17 : decode cX9_findReached 17 = .ok (.ifCond .ne 7, 3) := by decide +kernel
theorem dX9_findReached_20 : decode cX9_findReached 20 = .ok (.iconst 1, 1) := by decide +kernel
theorem dX9_findReached_21 : decode cX9_findReached 21 = .ok (.goto 4, 3) := by decide +kernel
theorem dX9_findReached_24 : decode cX9_findReached 24 = .ok (.iconst 0, 1) := by decide +kernel
theorem dX9_findReached_25 : decode cX9_findReached 25 = .ok (.bastore, 1) := by decide +kernel
theorem dX9_findReached_26 : decode cX9_findReached 26 = .ok (.iinc 1 1, 3) := by decide +kernel
theorem dX9_findReached_29 : decode cX9_findReached 29 = .ok (.goto (-27), 3) := by decide +kernel
theorem dX9_findReached_32 : decode cX9_findReached 32 = .ok (.iconst 1, 1) := by decide +kernel
theorem dX9_findReached_33 : decode cX9_findReached 33 = .ok (.istore_n 1, 1) := by decide +kernel
theorem dX9_findReached_34 : decode cX9_findReached 34 = .ok (.iconst 0, 1) := by decide +kernel
theorem dX9_findReached_35 : decode cX9_findReached 35 = .ok (.istore_n 2, 1) := by decide +kernel
theorem dX9_findReached_36 : decode cX9_findReached 36 = .ok (.iload_n 1, 1) := by decide +kernel
theorem dX9_findReached_37 : decode cX9_findReached 37 = .ok (.ifCond .eq 53, 3) := by decide +kernel
theorem dX9_findReached_40 : decode cX9_findReached 40 = .ok (.iload_n 2, 1) := by decide +kernel
theorem dX9_findReached_41 : decode cX9_findReached 41 = .ok (.ldc 135, 2) := by decide +kernel
theorem dX9_findReached_43 : decode cX9_findReached 43 = .ok (.if_icmp .ge 47, 3) := by decide +kernel
theorem dX9_findReached_46 : decode cX9_findReached 46 = .ok (.iconst 0, 1) := by decide +kernel
theorem dX9_findReached_47 : decode cX9_findReached 47 = .ok (.istore_n 1, 1) := by decide +kernel
theorem dX9_findReached_48 : decode cX9_findReached 48 = .ok (.iconst 0, 1) := by decide +kernel
theorem dX9_findReached_49 : decode cX9_findReached 49 = .ok (.istore_n 3, 1) := by decide +kernel
theorem dX9_findReached_50 : decode cX9_findReached 50 = .ok (.iload_n 3, 1) := by decide +kernel
theorem dX9_findReached_51 : decode cX9_findReached 51 = .ok (.aload_n 0, 1) := by decide +kernel
theorem dX9_findReached_52 : decode cX9_findReached 52 = .ok (.getfield 14, 3) := by decide +kernel
theorem dX9_findReached_55 : decode cX9_findReached 55 = .ok (.getfield 54, 3) := by decide +kernel
theorem dX9_findReached_58 : decode cX9_findReached 58 = .ok (.if_icmp .ge 26, 3) := by decide +kernel
theorem dX9_findReached_61 : decode cX9_findReached 61 = .ok (.aload_n 0, 1) := by decide +kernel
theorem dX9_findReached_62 : decode cX9_findReached 62 = .ok (.getfield 28, 3) := by decide +kernel
theorem dX9_findReached_65 : decode cX9_findReached 65 = .ok (.iload_n 3, 1) := by decide +kernel
theorem dX9_findReached_66 : decode cX9_findReached 66 = .ok (.baload, 1) := by decide +kernel
theorem dX9_findReached_67 : decode cX9_findReached 67 = .ok (.ifCond .eq 11, 3) := by decide +kernel
theorem dX9_findReached_70 : decode cX9_findReached 70 = .ok (.iload_n 1, 1) := by decide +kernel
theorem dX9_findReached_71 : decode cX9_findReached 71 = .ok (.aload_n 0, 1) := by decide +kernel
theorem dX9_findReached_72 : decode cX9_findReached 72 = .ok (.iload_n 3, 1) := by decide +kernel
theorem dX9_findReached_73 : decode cX9_findReached 73 = .ok (.invokevirtual 183, 3) := by decide +kernel
theorem dX9_findReached_76 : decode cX9_findReached 76 = .ok (.ior, 1) := by decide +kernel
theorem dX9_findReached_77 : decode cX9_findReached 77 = .ok (.istore_n 1, 1) := by decide +kernel
theorem dX9_findReached_78 : decode cX9_findReached 78 = .ok (.iinc 3 1, 3) := by decide +kernel
theorem dX9_findReached_81 : decode cX9_findReached 81 = .ok (.goto (-31), 3) := by decide +kernel
theorem dX9_findReached_84 : decode cX9_findReached 84 = .ok (.iinc 2 1, 3) := by decide +kernel
theorem dX9_findReached_87 : decode cX9_findReached 87 = .ok (.goto (-51), 3) := by decide +kernel
theorem dX9_findReached_90 : decode cX9_findReached 90 = .ok (.return_, 1) := by decide +kernel
theorem dX9_forgetApplied_0 : decode cX9_forgetApplied 0 = .ok (.aload_n 0, 1) := by decide +kernel
theorem dX9_forgetApplied_1 : decode cX9_forgetApplied 1 = .ok (.getfield 20, 3) := by decide +kernel
theorem dX9_forgetApplied_4 : decode cX9_forgetApplied 4 = .ok (.iconst 0, 1) := by decide +kernel
theorem dX9_forgetApplied_5 : decode cX9_forgetApplied 5 = .ok (.invokestatic 37, 3) := by decide +kernel
theorem dX9_forgetApplied_8 : decode cX9_forgetApplied 8 = .ok (.return_, 1) := by decide +kernel
theorem dX9_goThrough_0 : decode cX9_goThrough 0 = .ok (.iconst 0, 1) := by decide +kernel
theorem dX9_goThrough_1 : decode cX9_goThrough 1 = .ok (.istore_n 2, 1) := by decide +kernel
theorem dX9_goThrough_2 : decode cX9_goThrough 2 = .ok (.iconst 1, 1) := by decide +kernel
theorem dX9_goThrough_3 : decode cX9_goThrough 3 = .ok (.istore_n 3, 1) := by decide +kernel
theorem dX9_goThrough_4 : decode cX9_goThrough 4 = .ok (.iconst 0, 1) := by decide +kernel
theorem dX9_goThrough_5 : decode cX9_goThrough 5 = .ok (.istore 4, 2) := by decide +kernel
theorem dX9_goThrough_7 : decode cX9_goThrough 7 = .ok (.iconst 0, 1) := by decide +kernel
theorem dX9_goThrough_8 : decode cX9_goThrough 8 = .ok (.istore 5, 2) := by decide +kernel
theorem dX9_goThrough_10 : decode cX9_goThrough 10 = .ok (.iload 4, 2) := by decide +kernel
theorem dX9_goThrough_12 : decode cX9_goThrough 12 = .ok (.aload_n 0, 1) := by decide +kernel
theorem dX9_goThrough_13 : decode cX9_goThrough 13 = .ok (.getfield 14, 3) := by decide +kernel
theorem dX9_goThrough_16 : decode cX9_goThrough 16 = .ok (.getfield 54, 3) := by decide +kernel
theorem dX9_goThrough_19 : decode cX9_goThrough 19 = .ok (.if_icmp .ge 85, 3) := by decide +kernel
theorem dX9_goThrough_22 : decode cX9_goThrough 22 = .ok (.iload 5, 2) := by decide +kernel
theorem dX9_goThrough_24 : decode cX9_goThrough 24 = .ok (.ldc 135, 2) := by decide +kernel
theorem dX9_goThrough_26 : decode cX9_goThrough 26 = .ok (.if_icmp .ge 78, 3) := by decide +kernel
theorem dX9_goThrough_29 : decode cX9_goThrough 29 = .ok (.iload_n 3, 1) := by decide +kernel
theorem dX9_goThrough_30 : decode cX9_goThrough 30 = .ok (.ifCond .eq 19, 3) := by decide +kernel
theorem dX9_goThrough_33 : decode cX9_goThrough 33 = .ok (.iload_n 1, 1) := by decide +kernel
theorem dX9_goThrough_34 : decode cX9_goThrough 34 = .ok (.bipush 10, 2) := by decide +kernel
theorem dX9_goThrough_36 : decode cX9_goThrough 36 = .ok (.if_icmp .eq 9, 3) := by decide +kernel
theorem dX9_goThrough_39 : decode cX9_goThrough 39 = .ok (.iload_n 1, 1) := by decide +kernel
theorem dX9_goThrough_40 : decode cX9_goThrough 40 = .ok (.bipush 11, 2) := by decide +kernel
theorem dX9_goThrough_42 : decode cX9_goThrough 42 = .ok (.if_icmp .ne 7, 3) := by decide +kernel
theorem dX9_goThrough_45 : decode cX9_goThrough 45 = .ok (.aload_n 0, 1) := by decide +kernel
theorem dX9_goThrough_46 : decode cX9_goThrough 46 = .ok (.invokevirtual 136, 3) := by decide +kernel
theorem dX9_goThrough_49 : decode cX9_goThrough 49 = .ok (.iload_n 3, 1) := by decide +kernel
theorem dX9_goThrough_50 : decode cX9_goThrough 50 = .ok (.ifCond .eq 18, 3) := by decide +kernel
theorem dX9_goThrough_53 : decode cX9_goThrough 53 = .ok (.iload_n 1, 1) := by decide +kernel
theorem dX9_goThrough_54 : decode cX9_goThrough 54 = .ok (.iconst 5, 1) := by decide +kernel
theorem dX9_goThrough_55 : decode cX9_goThrough 55 = .ok (.if_icmp .lt 13, 3) := by decide +kernel
theorem dX9_goThrough_58 : decode cX9_goThrough 58 = .ok (.iload_n 1, 1) := by decide +kernel
theorem dX9_goThrough_59 : decode cX9_goThrough 59 = .ok (.bipush 10, 2) := by decide +kernel
theorem dX9_goThrough_61 : decode cX9_goThrough 61 = .ok (.if_icmp .gt 7, 3) := by decide +kernel
theorem dX9_goThrough_64 : decode cX9_goThrough 64 = .ok (.aload_n 0, 1) := by decide +kernel
theorem dX9_goThrough_65 : decode cX9_goThrough 65 = .ok (.invokevirtual 139, 3) := by decide +kernel
theorem dX9_goThrough_68 : decode cX9_goThrough 68 = .ok (.aload_n 0, 1) := by decide +kernel
theorem dX9_goThrough_69 : decode cX9_goThrough 69 = .ok (.iload_n 1, 1) := by decide +kernel
theorem dX9_goThrough_70 : decode cX9_goThrough 70 = .ok (.iload 4, 2) := by decide +kernel
theorem dX9_goThrough_72 : decode cX9_goThrough 72 = .ok (.invokevirtual 142, 3) := by decide +kernel
theorem dX9_goThrough_75 : decode cX9_goThrough 75 = .ok (.istore_n 3, 1) := by decide +kernel
theorem dX9_goThrough_76 : decode cX9_goThrough 76 = .ok (.iload_n 3, 1) := by decide +kernel
theorem dX9_goThrough_77 : decode cX9_goThrough 77 = .ok (.ifCond .eq 18, 3) := by decide +kernel
theorem dX9_goThrough_80 : decode cX9_goThrough 80 = .ok (.aload_n 0, 1) := by decide +kernel
theorem dX9_goThrough_81 : decode cX9_goThrough 81 = .ok (.getfield 20, 3) := by decide +kernel
theorem dX9_goThrough_84 : decode cX9_goThrough 84 = .ok (.iload_n 1, 1) := by decide +kernel
theorem dX9_goThrough_85 : decode cX9_goThrough 85 = .ok (.dup2, 1) := by decide +kernel
theorem dX9_goThrough_86 : decode cX9_goThrough 86 = .ok (.iaload, 1) := by decide +kernel
theorem dX9_goThrough_87 : decode cX9_goThrough 87 = .ok (.iconst 1, 1) := by decide +kernel
theorem dX9_goThrough_88 : decode cX9_goThrough 88 = .ok (.iadd, 1) := by decide +kernel
theorem dX9_goThrough_89 : decode cX9_goThrough 89 = .ok (.iastore, 1) := by decide +kernel
theorem dX9_goThrough_90 : decode cX9_goThrough 90 = .ok (.iconst 1, 1) := by decide +kernel
theorem dX9_goThrough_91 : decode cX9_goThrough 91 = .ok (.istore_n 2, 1) := by decide +kernel
theorem dX9_goThrough_92 : decode cX9_goThrough 92 = .ok (.goto 6, 3) := by decide +kernel
theorem dX9_goThrough_95 : decode cX9_goThrough 95 = .ok (.iinc 4 1, 3) := by decide +kernel
theorem dX9_goThrough_98 : decode cX9_goThrough 98 = .ok (.iinc 5 1, 3) := by decide +kernel
theorem dX9_goThrough_101 : decode cX9_goThrough 101 = .ok (.goto (-91), 3) := by decide +kernel
theorem dX9_goThrough_104 : decode cX9_goThrough 104 = .ok (.iload_n 2, 1) := by decide +kernel
theorem dX9_goThrough_105 : decode cX9_goThrough 105 = .ok (.ireturn, 1) := by decide +kernel
theorem dX9_init_0 : decode cX9_init 0 = .ok (.aload_n 0, 1) := by decide +kernel
theorem dX9_init_1 : decode cX9_init 1 = .ok (.invokespecial 3, 3) := by decide +kernel
theorem dX9_init_4 : decode cX9_init 4 = .ok (.aload_n 0, 1) := by decide +kernel
theorem dX9_init_5 : decode cX9_init 5 = .ok (.new 9, 3) := by decide +kernel
theorem dX9_init_8 : decode cX9_init 8 = .ok (.dup, 1) := by decide +kernel
theorem dX9_init_9 : decode cX9_init 9 = .ok (.iconst 0, 1) := by decide +kernel
theorem dX9_init_10 : decode cX9_init 10 = .ok (.iconst 0, 1) := by decide +kernel
theorem dX9_init_11 : decode cX9_init 11 = .ok (.iconst 0, 1) := by decide +kernel
theorem dX9_init_12 : decode cX9_init 12 = .ok (.invokespecial 11, 3) := by decide +kernel
theorem dX9_init_15 : decode cX9_init 15 = .ok (.putfield 14, 3) := by decide +kernel
theorem dX9_init_18 : decode cX9_init 18 = .ok (.aload_n 0, 1) := by decide +kernel
theorem dX9_init_19 : decode cX9_init 19 = .ok (.bipush 12, 2) := by decide +kernel
theorem dX9_init_21 : decode cX9_init 21 = .ok (.newarray .int, 2) := by decide +kernel
theorem dX9_init_23 : decode cX9_init 23 = .ok (.putfield 20, 3) := by decide +kernel
theorem dX9_init_26 : decode cX9_init 26 = .ok (.aload_n 0, 1) := by decide +kernel
theorem dX9_init_27 : decode cX9_init 27 = .ok (.iconst 0, 1) := by decide +kernel
theorem dX9_init_28 : decode cX9_init 28 = .ok (.newarray .boolean, 2) := by decide +kernel
theorem dX9_init_30 : decode cX9_init 30 = .ok (.putfield 24, 3) := by decide +kernel
theorem dX9_init_33 : decode cX9_init 33 = .ok (.aload_n 0, 1) := by decide +kernel
theorem dX9_init_34 : decode cX9_init 34 = .ok (.iconst 0, 1) := by decide +kernel
theorem dX9_init_35 : decode cX9_init 35 = .ok (.newarray .boolean, 2) := by decide +kernel
theorem dX9_init_37 : decode cX9_init 37 = .ok (.putfield 28, 3) := by decide +kernel
theorem dX9_init_40 : decode cX9_init 40 = .ok (.aload_n 0, 1) := by decide +kernel
theorem dX9_init_41 : decode cX9_init 41 = .ok (.iconst 0, 1) := by decide +kernel
theorem dX9_init_42 : decode cX9_init 42 = .ok (.newarray .int, 2) := by decide +kernel
theorem dX9_init_44 : decode cX9_init 44 = .ok (.putfield 31, 3) := by decide +kernel
theorem dX9_init_47 : decode cX9_init 47 = .ok (.aload_n 0, 1) := by decide +kernel
theorem dX9_init_48 : decode cX9_init 48 = .ok (.iconst 0, 1) := by decide +kernel
theorem dX9_init_49 : decode cX9_init 49 = .ok (.newarray .int, 2) := by decide +kernel
theorem dX9_init_51 : decode cX9_init 51 = .ok (.putfield 34, 3) := by decide +kernel
theorem dX9_init_54 : decode cX9_init 54 = .ok (.return_, 1) := by decide +kernel
theorem dX9_isDeadStoreDone_0 : decode cX9_isDeadStoreDone 0 = .ok (.aload_n 0, 1) := by decide +kernel
theorem dX9_isDeadStoreDone_1 : decode cX9_isDeadStoreDone 1 = .ok (.getfield 14, 3) := by decide +kernel
theorem dX9_isDeadStoreDone_4 : decode cX9_isDeadStoreDone 4 = .ok (.iload_n 1, 1) := by decide +kernel
theorem dX9_isDeadStoreDone_5 : decode cX9_isDeadStoreDone 5 = .ok (.invokevirtual 71, 3) := by decide +kernel
theorem dX9_isDeadStoreDone_8 : decode cX9_isDeadStoreDone 8 = .ok (.istore_n 2, 1) := by decide +kernel
theorem dX9_isDeadStoreDone_9 : decode cX9_isDeadStoreDone 9 = .ok (.iload_n 2, 1) := by decide +kernel
theorem dX9_isDeadStoreDone_10 : decode cX9_isDeadStoreDone 10 = .ok (.sipush 132, 3) := by decide +kernel
theorem dX9_isDeadStoreDone_13 : decode cX9_isDeadStoreDone 13 = .ok (.if_icmp .eq 10, 3) := by decide +kernel
theorem dX9_isDeadStoreDone_16 : decode cX9_isDeadStoreDone 16 = .ok (.iload_n 2, 1) := by decide +kernel
theorem dX9_isDeadStoreDone_17 : decode cX9_isDeadStoreDone 17 = .ok (.invokestatic 257, 3) := by decide +kernel
theorem dX9_isDeadStoreDone_20 : decode cX9_isDeadStoreDone 20 = .ok (.ifCond .eq 17, 3) := by decide +kernel
theorem dX9_isDeadStoreDone_23 : decode cX9_isDeadStoreDone 23 = .ok (.aload_n 0, 1) := by decide +kernel
theorem dX9_isDeadStoreDone_24 : decode cX9_isDeadStoreDone 24 = .ok (.iload_n 1, 1) := by decide +kernel
theorem dX9_isDeadStoreDone_25 : decode cX9_isDeadStoreDone 25 = .ok (.invokevirtual 251, 3) := by decide +kernel
theorem dX9_isDeadStoreDone_28 : decode cX9_isDeadStoreDone 28 = .ok (.aload_n 0, 1) := by decide +kernel
theorem dX9_isDeadStoreDone_29 : decode cX9_isDeadStoreDone 29 = .ok (.iload_n 1, 1) := by decide +kernel
theorem dX9_isDeadStoreDone_30 : decode cX9_isDeadStoreDone 30 = .ok (.invokevirtual 254, 3) := by decide +kernel
theorem dX9_isDeadStoreDone_33 : decode cX9_isDeadStoreDone 33 = .ok (.iand, 1) := by decide +kernel
theorem dX9_isDeadStoreDone_34 : decode cX9_isDeadStoreDone 34 = .ok (.ifCond .eq 5, 3) := by decide +kernel
theorem dX9_isDeadStoreDone_37 : decode cX9_isDeadStoreDone 37 = .ok (.iconst 0, 1) := by decide +kernel
theorem dX9_isDeadStoreDone_38 : decode cX9_isDeadStoreDone 38 = .ok (.ireturn, 1) := by decide +kernel
theorem dX9_isDeadStoreDone_39 : decode cX9_isDeadStoreDone 39 = .ok (.iload_n 2, 1) := by decide +kernel
theorem dX9_isDeadStoreDone_40 : decode cX9_isDeadStoreDone 40 = .ok (.sipush 132, 3) := by decide +kernel
theorem dX9_isDeadStoreDone_43 : decode cX9_isDeadStoreDone 43 = .ok (.if_icmp .ne 15, 3) := by decide +kernel
theorem dX9_isDeadStoreDone_46 : decode cX9_isDeadStoreDone 46 = .ok (.aload_n 0, 1) := by decide +kernel
theorem dX9_isDeadStoreDone_47 : decode cX9_isDeadStoreDone 47 = .ok (.getfield 14, 3) := by decide +kernel
theorem dX9_isDeadStoreDone_50 : decode cX9_isDeadStoreDone 50 = .ok (.iload_n 1, 1) := by decide +kernel
theorem dX9_isDeadStoreDone_51 : decode cX9_isDeadStoreDone 51 = .ok (.iconst 1, 1) := by decide +kernel
theorem dX9_isDeadStoreDone_52 : decode cX9_isDeadStoreDone 52 = .ok (.invokevirtual 176, 3) := by decide +kernel
theorem dX9_isDeadStoreDone_55 : decode cX9_isDeadStoreDone 55 = .ok (.goto 25, 3) := by decide +kernel
theorem dX9_isDeadStoreDone_58 : decode cX9_isDeadStoreDone 58 = .ok (.aload_n 0, 1) := by decide +kernel
theorem dX9_isDeadStoreDone_59 : decode cX9_isDeadStoreDone 59 = .ok (.getfield 14, 3) := by decide +kernel
theorem dX9_isDeadStoreDone_62 : decode cX9_isDeadStoreDone 62 = .ok (.iload_n 1, 1) := by decide +kernel
theorem dX9_isDeadStoreDone_63 : decode cX9_isDeadStoreDone 63 = .ok (.iload_n 2, 1) := by decide +kernel
theorem dX9_isDeadStoreDone_64 : decode cX9_isDeadStoreDone 64 = .ok (.bipush 55, 2) := by decide +kernel
theorem dX9_isDeadStoreDone_66 : decode cX9_isDeadStoreDone 66 = .ok (.if_icmp .ne 8, 3) := by decide +kernel
theorem dX9_isDeadStoreDone_69 : decode cX9_isDeadStoreDone 69 = .ok (.bipush 88, 2) := by decide +kernel
theorem dX9_isDeadStoreDone_71 : decode cX9_isDeadStoreDone 71 = .ok (.goto 5, 3) := by decide +kernel
theorem dX9_isDeadStoreDone_74 : decode cX9_isDeadStoreDone 74 = .ok (.bipush 87, 2) := by decide +kernel
theorem dX9_isDeadStoreDone_76 : decode cX9_isDeadStoreDone 76 = .ok (.lconst 0, 1) := by decide +kernel
theorem dX9_isDeadStoreDone_77 : decode cX9_isDeadStoreDone 77 = .ok (.invokevirtual 200, 3) := by decide +kernel
theorem dX9_isDeadStoreDone_80 : decode cX9_isDeadStoreDone 80 = .ok (.iconst 1, 1) := by decide +kernel
theorem dX9_isDeadStoreDone_81 : decode cX9_isDeadStoreDone 81 = .ok (.ireturn, 1) := by decide +kernel
theorem dX9_isDone_0 : decode cX9_isDone 0 = .ok (.iload_n 1, 1) := by decide +kernel
theorem dX9_isDone_1 : decode cX9_isDone 1 = .ok (.iconst 2, 1) := by decide +kernel
theorem dX9_isDone_2 : decode cX9_isDone 2 = .ok (.if_icmp .ne 9, 3) := by decide +kernel
theorem dX9_isDone_5 : decode cX9_isDone 5 = .ok (.aload_n 0, 1) := by decide +kernel
theorem dX9_isDone_6 : decode cX9_isDone 6 = .ok (.iload_n 2, 1) := by decide +kernel
theorem dX9_isDone_7 : decode cX9_isDone 7 = .ok (.invokevirtual 146, 3) := by decide +kernel
theorem dX9_isDone_10 : decode cX9_isDone 10 = .ok (.ireturn, 1) := by decide +kernel
theorem dX9_isDone_11 : decode cX9_isDone 11 = .ok (.iload_n 2, 1) := by decide +kernel
theorem dX9_isDone_12 : decode cX9_isDone 12 = .ok (.aload_n 0, 1) := by decide +kernel
theorem dX9_isDone_13 : decode cX9_isDone 13 = .ok (.getfield 14, 3) := by decide +kernel
theorem dX9_isDone_16 : decode cX9_isDone 16 = .ok (.getfield 54, 3) := by decide +kernel
theorem dX9_isDone_19 : decode cX9_isDone 19 = .ok (.iconst 1, 1) := by decide +kernel
theorem dX9_isDone_20 : decode cX9_isDone 20 = .ok (.isub, 1) := by decide +kernel
theorem dX9_isDone_21 : decode cX9_isDone 21 = .ok (.if_icmp .lt 5, 3) := by decide +kernel
theorem dX9_isDone_24 : decode cX9_isDone 24 = .ok (.iconst 0, 1) := by decide +kernel
theorem dX9_isDone_25 : decode cX9_isDone 25 = .ok (.ireturn, 1) := by decide +kernel
theorem dX9_isDone_26 : decode cX9_isDone 26 = .ok (.iload_n 1, 1) := by decide +kernel
theorem dX9_isDone_27 : decode cX9_isDone 27 = .ok (.tableswitch 230 3 10 #[45, 90, 116, 122, 128, 134, 166, 198], 45) := by decide +kernel
theorem dX9_isDone_72 : decode cX9_isDone 72 = .ok (.aload_n 0, 1) := by decide +kernel
theorem dX9_isDone_73 : decode cX9_isDone 73 = .ok (.getfield 14, 3) := by decide +kernel
theorem dX9_isDone_76 : decode cX9_isDone 76 = .ok (.iload_n 2, 1) := by decide +kernel
theorem dX9_isDone_77 : decode cX9_isDone 77 = .ok (.invokevirtual 71, 3) := by decide +kernel
theorem dX9_isDone_80 : decode cX9_isDone 80 = .ok (.sipush 167, 3) := by decide +kernel
theorem dX9_isDone_83 : decode cX9_isDone 83 = .ok (.if_icmp .ne 32, 3) := by decide +kernel
theorem dX9_isDone_86 : decode cX9_isDone 86 = .ok (.aload_n 0, 1) := by decide +kernel
theorem dX9_isDone_87 : decode cX9_isDone 87 = .ok (.getfield 14, 3) := by decide +kernel
theorem dX9_isDone_90 : decode cX9_isDone 90 = .ok (.iload_n 2, 1) := by decide +kernel
theorem dX9_isDone_91 : decode cX9_isDone 91 = .ok (.invokevirtual 74, 3) := by decide +kernel
theorem dX9_isDone_94 : decode cX9_isDone 94 = .ok (.iload_n 2, 1) := by decide +kernel
theorem dX9_isDone_95 : decode cX9_isDone 95 = .ok (.iconst 1, 1) := by decide +kernel
theorem dX9_isDone_96 : decode cX9_isDone 96 = .ok (.iadd, 1) := by decide +kernel
theorem dX9_isDone_97 : decode cX9_isDone 97 = .ok (.i2l, 1) := by decide +kernel
theorem dX9_isDone_98 : decode cX9_isDone 98 = .ok (.lcmp, 1) := by decide +kernel
theorem dX9_isDone_99 : decode cX9_isDone 99 = .ok (.ifCond .ne 16, 3) := by decide +kernel
theorem dX9_isDone_102 : decode cX9_isDone 102 = .ok (.aload_n 0, 1) := by decide +kernel
theorem dX9_isDone_103 : decode cX9_isDone 103 = .ok (.iload_n 2, 1) := by decide +kernel
theorem dX9_isDone_104 : decode cX9_isDone 104 = .ok (.iconst 1, 1) := by decide +kernel
theorem dX9_isDone_105 : decode cX9_isDone 105 = .ok (.invokevirtual 149, 3) := by decide +kernel
theorem dX9_isDone_108 : decode cX9_isDone 108 = .ok (.ifCond .eq 7, 3) := by decide +kernel
theorem dX9_isDone_111 : decode cX9_isDone 111 = .ok (.iconst 1, 1) := by decide +kernel
theorem dX9_isDone_112 : decode cX9_isDone 112 = .ok (.goto 4, 3) := by decide +kernel
theorem dX9_isDone_115 : decode cX9_isDone 115 = .ok (.iconst 0, 1) := by decide +kernel
theorem dX9_isDone_116 : decode cX9_isDone 116 = .ok (.ireturn, 1) := by decide +kernel
theorem dX9_isDone_117 : decode cX9_isDone 117 = .ok (.aload_n 0, 1) := by decide +kernel
theorem dX9_isDone_118 : decode cX9_isDone 118 = .ok (.getfield 14, 3) := by decide +kernel
theorem dX9_isDone_121 : decode cX9_isDone 121 = .ok (.iload_n 2, 1) := by decide +kernel
theorem dX9_isDone_122 : decode cX9_isDone 122 = .ok (.invokevirtual 71, 3) := by decide +kernel
theorem dX9_isDone_125 : decode cX9_isDone 125 = .ok (.ifCond .ne 16, 3) := by decide +kernel
theorem dX9_isDone_128 : decode cX9_isDone 128 = .ok (.aload_n 0, 1) := by decide +kernel
theorem dX9_isDone_129 : decode cX9_isDone 129 = .ok (.iload_n 2, 1) := by decide +kernel
theorem dX9_isDone_130 : decode cX9_isDone 130 = .ok (.iconst 1, 1) := by decide +kernel
theorem dX9_isDone_131 : decode cX9_isDone 131 = .ok (.invokevirtual 149, 3) := by decide +kernel
theorem dX9_isDone_134 : decode cX9_isDone 134 = .ok (.ifCond .eq 7, 3) := by decide +kernel
theorem dX9_isDone_137 : decode cX9_isDone 137 = .ok (.iconst 1, 1) := by decide +kernel
theorem dX9_isDone_138 : decode cX9_isDone 138 = .ok (.goto 4, 3) := by decide +kernel
theorem dX9_isDone_141 : decode cX9_isDone 141 = .ok (.iconst 0, 1) := by decide +kernel
theorem dX9_isDone_142 : decode cX9_isDone 142 = .ok (.ireturn, 1) := by decide +kernel
theorem dX9_isDone_143 : decode cX9_isDone 143 = .ok (.aload_n 0, 1) := by decide +kernel
theorem dX9_isDone_144 : decode cX9_isDone 144 = .ok (.iload_n 2, 1) := by decide +kernel
theorem dX9_isDone_145 : decode cX9_isDone 145 = .ok (.invokevirtual 152, 3) := by decide +kernel
theorem dX9_isDone_148 : decode cX9_isDone 148 = .ok (.ireturn, 1) := by decide +kernel
theorem dX9_isDone_149 : decode cX9_isDone 149 = .ok (.aload_n 0, 1) := by decide +kernel
theorem dX9_isDone_150 : decode cX9_isDone 150 = .ok (.iload_n 2, 1) := by decide +kernel
theorem dX9_isDone_151 : decode cX9_isDone 151 = .ok (.invokevirtual 155, 3) := by decide +kernel
theorem dX9_isDone_154 : decode cX9_isDone 154 = .ok (.ireturn, 1) := by decide +kernel
theorem dX9_isDone_155 : decode cX9_isDone 155 = .ok (.aload_n 0, 1) := by decide +kernel
theorem dX9_isDone_156 : decode cX9_isDone 156 = .ok (.iload_n 2, 1) := by decide +kernel
theorem dX9_isDone_157 : decode cX9_isDone 157 = .ok (.invokevirtual 158, 3) := by decide +kernel
theorem dX9_isDone_160 : decode cX9_isDone 160 = .ok (.ireturn, 1) := by decide +kernel
theorem dX9_isDone_161 : decode cX9_isDone 161 = .ok (.aload_n 0, 1) := by decide +kernel
theorem dX9_isDone_162 : decode cX9_isDone 162 = .ok (.iload_n 2, 1) := by decide +kernel
theorem dX9_isDone_163 : decode cX9_isDone 163 = .ok (.iconst 2, 1) := by decide +kernel
theorem dX9_isDone_164 : decode cX9_isDone 164 = .ok (.invokevirtual 161, 3) := by decide +kernel
theorem dX9_isDone_167 : decode cX9_isDone 167 = .ok (.ifCond .eq 24, 3) := by decide +kernel
theorem dX9_isDone_170 : decode cX9_isDone 170 = .ok (.aload_n 0, 1) := by decide +kernel
theorem dX9_isDone_171 : decode cX9_isDone 171 = .ok (.iload_n 2, 1) := by decide +kernel
theorem dX9_isDone_172 : decode cX9_isDone 172 = .ok (.invokevirtual 164, 3) := by decide +kernel
theorem dX9_isDone_175 : decode cX9_isDone 175 = .ok (.ifCond .eq 16, 3) := by decide +kernel
theorem dX9_isDone_178 : decode cX9_isDone 178 = .ok (.aload_n 0, 1) := by decide +kernel
theorem dX9_isDone_179 : decode cX9_isDone 179 = .ok (.iload_n 2, 1) := by decide +kernel
theorem dX9_isDone_180 : decode cX9_isDone 180 = .ok (.iconst 2, 1) := by decide +kernel
theorem dX9_isDone_181 : decode cX9_isDone 181 = .ok (.invokevirtual 149, 3) := by decide +kernel
theorem dX9_isDone_184 : decode cX9_isDone 184 = .ok (.ifCond .eq 7, 3) := by decide +kernel
theorem dX9_isDone_187 : decode cX9_isDone 187 = .ok (.iconst 1, 1) := by decide +kernel
theorem dX9_isDone_188 : decode cX9_isDone 188 = .ok (.goto 4, 3) := by decide +kernel
theorem dX9_isDone_191 : decode cX9_isDone 191 = .ok (.iconst 0, 1) := by decide +kernel
theorem dX9_isDone_192 : decode cX9_isDone 192 = .ok (.ireturn, 1) := by decide +kernel
theorem dX9_isDone_193 : decode cX9_isDone 193 = .ok (.aload_n 0, 1) := by decide +kernel
theorem dX9_isDone_194 : decode cX9_isDone 194 = .ok (.iload_n 2, 1) := by decide +kernel
theorem dX9_isDone_195 : decode cX9_isDone 195 = .ok (.iconst 2, 1) := by decide +kernel
theorem dX9_isDone_196 : decode cX9_isDone 196 = .ok (.invokevirtual 161, 3) := by decide +kernel
theorem dX9_isDone_199 : decode cX9_isDone 199 = .ok (.ifCond .eq 24, 3) := by decide +kernel
theorem dX9_isDone_202 : decode cX9_isDone 202 = .ok (.aload_n 0, 1) := by decide +kernel
theorem dX9_isDone_203 : decode cX9_isDone 203 = .ok (.iload_n 2, 1) := by decide +kernel
theorem dX9_isDone_204 : decode cX9_isDone 204 = .ok (.invokevirtual 167, 3) := by decide +kernel
theorem dX9_isDone_207 : decode cX9_isDone 207 = .ok (.ifCond .eq 16, 3) := by decide +kernel
theorem dX9_isDone_210 : decode cX9_isDone 210 = .ok (.aload_n 0, 1) := by decide +kernel
theorem dX9_isDone_211 : decode cX9_isDone 211 = .ok (.iload_n 2, 1) := by decide +kernel
theorem dX9_isDone_212 : decode cX9_isDone 212 = .ok (.iconst 2, 1) := by decide +kernel
theorem dX9_isDone_213 : decode cX9_isDone 213 = .ok (.invokevirtual 149, 3) := by decide +kernel
theorem dX9_isDone_216 : decode cX9_isDone 216 = .ok (.ifCond .eq 7, 3) := by decide +kernel
theorem dX9_isDone_219 : decode cX9_isDone 219 = .ok (.iconst 1, 1) := by decide +kernel
theorem dX9_isDone_220 : decode cX9_isDone 220 = .ok (.goto 4, 3) := by decide +kernel
theorem dX9_isDone_223 : decode cX9_isDone 223 = .ok (.iconst 0, 1) := by decide +kernel
theorem dX9_isDone_224 : decode cX9_isDone 224 = .ok (.ireturn, 1) := by decide +kernel
theorem dX9_isDone_225 : decode cX9_isDone 225 = .ok (.aload_n 0, 1) := by decide +kernel
theorem dX9_isDone_226 : decode cX9_isDone 226 = .ok (.iload_n 2, 1) := by decide +kernel
theorem dX9_isDone_227 : decode cX9_isDone 227 = .ok (.iconst 2, 1) := by decide +kernel
theorem dX9_isDone_228 : decode cX9_isDone 228 = .ok (.invokevirtual 161, 3) := by decide +kernel
theorem dX9_isDone_231 : decode cX9_isDone 231 = .ok (.ifCond .eq 24, 3) := by decide +kernel
theorem dX9_isDone_234 : decode cX9_isDone 234 = .ok (.aload_n 0, 1) := by decide +kernel
theorem dX9_isDone_235 : decode cX9_isDone 235 = .ok (.iload_n 2, 1) := by decide +kernel
theorem dX9_isDone_236 : decode cX9_isDone 236 = .ok (.invokevirtual 170, 3) := by decide +kernel
theorem dX9_isDone_239 : decode cX9_isDone 239 = .ok (.ifCond .eq 16, 3) := by decide +kernel
theorem dX9_isDone_242 : decode cX9_isDone 242 = .ok (.aload_n 0, 1) := by decide +kernel
theorem dX9_isDone_243 : decode cX9_isDone 243 = .ok (.iload_n 2, 1) := by decide +kernel
theorem dX9_isDone_244 : decode cX9_isDone 244 = .ok (.iconst 2, 1) := by decide +kernel
theorem dX9_isDone_245 : decode cX9_isDone 245 = .ok (.invokevirtual 149, 3) := by decide +kernel
theorem dX9_isDone_248 : decode cX9_isDone 248 = .ok (.ifCond .eq 7, 3) := by decide +kernel
theorem dX9_isDone_251 : decode cX9_isDone 251 = .ok (.iconst 1, 1) := by decide +kernel
theorem dX9_isDone_252 : decode cX9_isDone 252 = .ok (.goto 4, 3) := by decide +kernel
theorem dX9_isDone_255 : decode cX9_isDone 255 = .ok (.iconst 0, 1) := by decide +kernel
theorem dX9_isDone_256 : decode cX9_isDone 256 = .ok (.ireturn, 1) := by decide +kernel
theorem dX9_isDone_257 : decode cX9_isDone 257 = .ok (.aload_n 0, 1) := by decide +kernel
theorem dX9_isDone_258 : decode cX9_isDone 258 = .ok (.iload_n 2, 1) := by decide +kernel
theorem dX9_isDone_259 : decode cX9_isDone 259 = .ok (.invokevirtual 173, 3) := by decide +kernel
theorem dX9_isDone_262 : decode cX9_isDone 262 = .ok (.ireturn, 1) := by decide +kernel
theorem dX9_isDropped_0 : decode cX9_isDropped 0 = .ok (.aload_n 0, 1) := by decide +kernel
theorem dX9_isDropped_1 : decode cX9_isDropped 1 = .ok (.getfield 14, 3) := by decide +kernel
theorem dX9_isDropped_4 : decode cX9_isDropped 4 = .ok (.iload_n 1, 1) := by decide +kernel
theorem dX9_isDropped_5 : decode cX9_isDropped 5 = .ok (.iload_n 2, 1) := by decide +kernel
theorem dX9_isDropped_6 : decode cX9_isDropped 6 = .ok (.invokevirtual 176, 3) := by decide +kernel
theorem dX9_isDropped_9 : decode cX9_isDropped 9 = .ok (.iconst 1, 1) := by decide +kernel
theorem dX9_isDropped_10 : decode cX9_isDropped 10 = .ok (.ireturn, 1) := by decide +kernel
theorem dX9_isFolded_0 : decode cX9_isFolded 0 = .ok (.aload_n 0, 1) := by decide +kernel
theorem dX9_isFolded_1 : decode cX9_isFolded 1 = .ok (.getfield 14, 3) := by decide +kernel
theorem dX9_isFolded_4 : decode cX9_isFolded 4 = .ok (.iload_n 1, 1) := by decide +kernel
theorem dX9_isFolded_5 : decode cX9_isFolded 5 = .ok (.iconst 2, 1) := by decide +kernel
theorem dX9_isFolded_6 : decode cX9_isFolded 6 = .ok (.iadd, 1) := by decide +kernel
theorem dX9_isFolded_7 : decode cX9_isFolded 7 = .ok (.invokevirtual 71, 3) := by decide +kernel
theorem dX9_isFolded_10 : decode cX9_isFolded 10 = .ok (.istore_n 2, 1) := by decide +kernel
theorem dX9_isFolded_11 : decode cX9_isFolded 11 = .ok (.iload_n 2, 1) := by decide +kernel
theorem dX9_isFolded_12 : decode cX9_isFolded 12 = .ok (.invokestatic 204, 3) := by decide +kernel
theorem dX9_isFolded_15 : decode cX9_isFolded 15 = .ok (.ifCond .eq 74, 3) := by decide +kernel
theorem dX9_isFolded_18 : decode cX9_isFolded 18 = .ok (.aload_n 0, 1) := by decide +kernel
theorem dX9_isFolded_19 : decode cX9_isFolded 19 = .ok (.iload_n 1, 1) := by decide +kernel
theorem dX9_isFolded_20 : decode cX9_isFolded 20 = .ok (.invokevirtual 207, 3) := by decide +kernel
theorem dX9_isFolded_23 : decode cX9_isFolded 23 = .ok (.ifCond .eq 66, 3) := by decide +kernel
theorem dX9_isFolded_26 : decode cX9_isFolded 26 = .ok (.aload_n 0, 1) := by decide +kernel
theorem dX9_isFolded_27 : decode cX9_isFolded 27 = .ok (.iload_n 1, 1) := by decide +kernel
theorem dX9_isFolded_28 : decode cX9_isFolded 28 = .ok (.iconst 1, 1) := by decide +kernel
theorem dX9_isFolded_29 : decode cX9_isFolded 29 = .ok (.iadd, 1) := by decide +kernel
theorem dX9_isFolded_30 : decode cX9_isFolded 30 = .ok (.invokevirtual 207, 3) := by decide +kernel
theorem dX9_isFolded_33 : decode cX9_isFolded 33 = .ok (.ifCond .eq 56, 3) := by decide +kernel
theorem dX9_isFolded_36 : decode cX9_isFolded 36 = .ok (.aload_n 0, 1) := by decide +kernel
theorem dX9_isFolded_37 : decode cX9_isFolded 37 = .ok (.iload_n 1, 1) := by decide +kernel
theorem dX9_isFolded_38 : decode cX9_isFolded 38 = .ok (.iconst 3, 1) := by decide +kernel
theorem dX9_isFolded_39 : decode cX9_isFolded 39 = .ok (.invokevirtual 161, 3) := by decide +kernel
theorem dX9_isFolded_42 : decode cX9_isFolded 42 = .ok (.ifCond .eq 47, 3) := by decide +kernel
theorem dX9_isFolded_45 : decode cX9_isFolded 45 = .ok (.iload_n 2, 1) := by decide +kernel
theorem dX9_isFolded_46 : decode cX9_isFolded 46 = .ok (.invokestatic 210, 3) := by decide +kernel
theorem dX9_isFolded_49 : decode cX9_isFolded 49 = .ok (.aload_n 0, 1) := by decide +kernel
theorem dX9_isFolded_50 : decode cX9_isFolded 50 = .ok (.iload_n 1, 1) := by decide +kernel
theorem dX9_isFolded_51 : decode cX9_isFolded 51 = .ok (.invokevirtual 207, 3) := by decide +kernel
theorem dX9_isFolded_54 : decode cX9_isFolded 54 = .ok (.iconst 4, 1) := by decide +kernel
theorem dX9_isFolded_55 : decode cX9_isFolded 55 = .ok (.ishl, 1) := by decide +kernel
theorem dX9_isFolded_56 : decode cX9_isFolded 56 = .ok (.aload_n 0, 1) := by decide +kernel
theorem dX9_isFolded_57 : decode cX9_isFolded 57 = .ok (.iload_n 1, 1) := by decide +kernel
theorem dX9_isFolded_58 : decode cX9_isFolded 58 = .ok (.iconst 1, 1) := by decide +kernel
theorem dX9_isFolded_59 : decode cX9_isFolded 59 = .ok (.iadd, 1) := by decide +kernel
theorem dX9_isFolded_60 : decode cX9_isFolded 60 = .ok (.invokevirtual 207, 3) := by decide +kernel
theorem dX9_isFolded_63 : decode cX9_isFolded 63 = .ok (.ior, 1) := by decide +kernel
theorem dX9_isFolded_64 : decode cX9_isFolded 64 = .ok (.if_icmp .ne 25, 3) := by decide +kernel
theorem dX9_isFolded_67 : decode cX9_isFolded 67 = .ok (.iload_n 2, 1) := by decide +kernel
theorem dX9_isFolded_68 : decode cX9_isFolded 68 = .ok (.invokestatic 213, 3) := by decide +kernel
theorem dX9_isFolded_71 : decode cX9_isFolded 71 = .ok (.ifCond .eq 20, 3) := by decide +kernel
theorem dX9_isFolded_74 : decode cX9_isFolded 74 = .ok (.aload_n 0, 1) := by decide +kernel
theorem dX9_isFolded_75 : decode cX9_isFolded 75 = .ok (.getfield 14, 3) := by decide +kernel
theorem dX9_isFolded_78 : decode cX9_isFolded 78 = .ok (.iload_n 1, 1) := by decide +kernel
theorem dX9_isFolded_79 : decode cX9_isFolded 79 = .ok (.iconst 1, 1) := by decide +kernel
theorem dX9_isFolded_80 : decode cX9_isFolded 80 = .ok (.iadd, 1) := by decide +kernel
theorem dX9_isFolded_81 : decode cX9_isFolded 81 = .ok (.invokevirtual 74, 3) := by decide +kernel
theorem dX9_isFolded_84 : decode cX9_isFolded 84 = .ok (.lconst 0, 1) := by decide +kernel
theorem dX9_isFolded_85 : decode cX9_isFolded 85 = .ok (.lcmp, 1) := by decide +kernel
theorem dX9_isFolded_86 : decode cX9_isFolded 86 = .ok (.ifCond .ne 5, 3) := by decide +kernel
theorem dX9_isFolded_89 : decode cX9_isFolded 89 = .ok (.iconst 0, 1) := by decide +kernel
theorem dX9_isFolded_90 : decode cX9_isFolded 90 = .ok (.ireturn, 1) := by decide +kernel
theorem dX9_isFolded_91 : decode cX9_isFolded 91 = .ok (.aload_n 0, 1) := by decide +kernel
theorem dX9_isFolded_92 : decode cX9_isFolded 92 = .ok (.iload_n 1, 1) := by decide +kernel
theorem dX9_isFolded_93 : decode cX9_isFolded 93 = .ok (.iload_n 2, 1) := by decide +kernel
theorem dX9_isFolded_94 : decode cX9_isFolded 94 = .ok (.invokestatic 216, 3) := by decide +kernel
theorem dX9_isFolded_97 : decode cX9_isFolded 97 = .ok (.iload_n 2, 1) := by decide +kernel
theorem dX9_isFolded_98 : decode cX9_isFolded 98 = .ok (.aload_n 0, 1) := by decide +kernel
theorem dX9_isFolded_99 : decode cX9_isFolded 99 = .ok (.getfield 14, 3) := by decide +kernel
theorem dX9_isFolded_102 : decode cX9_isFolded 102 = .ok (.iload_n 1, 1) := by decide +kernel
theorem dX9_isFolded_103 : decode cX9_isFolded 103 = .ok (.invokevirtual 74, 3) := by decide +kernel
theorem dX9_isFolded_106 : decode cX9_isFolded 106 = .ok (.aload_n 0, 1) := by decide +kernel
theorem dX9_isFolded_107 : decode cX9_isFolded 107 = .ok (.getfield 14, 3) := by decide +kernel
theorem dX9_isFolded_110 : decode cX9_isFolded 110 = .ok (.iload_n 1, 1) := by decide +kernel
theorem dX9_isFolded_111 : decode cX9_isFolded 111 = .ok (.iconst 1, 1) := by decide +kernel
theorem dX9_isFolded_112 : decode cX9_isFolded 112 = .ok (.iadd, 1) := by decide +kernel
theorem dX9_isFolded_113 : decode cX9_isFolded 113 = .ok (.invokevirtual 74, 3) := by decide +kernel
theorem dX9_isFolded_116 : decode cX9_isFolded 116 = .ok (.invokestatic 219, 3) := by decide +kernel
theorem dX9_isFolded_119 : decode cX9_isFolded 119 = .ok (.invokevirtual 223, 3) := by decide +kernel
theorem dX9_isFolded_122 : decode cX9_isFolded 122 = .ok (.aload_n 0, 1) := by decide +kernel
theorem dX9_isFolded_123 : decode cX9_isFolded 123 = .ok (.getfield 14, 3) := by decide +kernel
theorem dX9_isFolded_126 : decode cX9_isFolded 126 = .ok (.iload_n 1, 1) := by decide +kernel
theorem dX9_isFolded_127 : decode cX9_isFolded 127 = .ok (.iconst 1, 1) := by decide +kernel
theorem dX9_isFolded_128 : decode cX9_isFolded 128 = .ok (.iadd, 1) := by decide +kernel
theorem dX9_isFolded_129 : decode cX9_isFolded 129 = .ok (.iconst 2, 1) := by decide +kernel
theorem dX9_isFolded_130 : decode cX9_isFolded 130 = .ok (.invokevirtual 176, 3) := by decide +kernel
theorem dX9_isFolded_133 : decode cX9_isFolded 133 = .ok (.iconst 1, 1) := by decide +kernel
theorem dX9_isFolded_134 : decode cX9_isFolded 134 = .ok (.ireturn, 1) := by decide +kernel
theorem dX9_isJumpDecided_0 : decode cX9_isJumpDecided 0 = .ok (.aload_n 0, 1) := by decide +kernel
theorem dX9_isJumpDecided_1 : decode cX9_isJumpDecided 1 = .ok (.iload_n 1, 1) := by decide +kernel
theorem dX9_isJumpDecided_2 : decode cX9_isJumpDecided 2 = .ok (.invokevirtual 207, 3) := by decide +kernel
theorem dX9_isJumpDecided_5 : decode cX9_isJumpDecided 5 = .ok (.iconst 1, 1) := by decide +kernel
theorem dX9_isJumpDecided_6 : decode cX9_isJumpDecided 6 = .ok (.if_icmp .eq 5, 3) := by decide +kernel
theorem dX9_isJumpDecided_9 : decode cX9_isJumpDecided 9 = .ok (.iconst 0, 1) := by decide +kernel
theorem dX9_isJumpDecided_10 : decode cX9_isJumpDecided 10 = .ok (.ireturn, 1) := by decide +kernel
theorem dX9_isJumpDecided_11 : decode cX9_isJumpDecided 11 = .ok (.aload_n 0, 1) := by decide +kernel
theorem dX9_isJumpDecided_12 : decode cX9_isJumpDecided 12 = .ok (.iload_n 1, 1) := by decide +kernel
theorem dX9_isJumpDecided_13 : decode cX9_isJumpDecided 13 = .ok (.iconst 1, 1) := by decide +kernel
theorem dX9_isJumpDecided_14 : decode cX9_isJumpDecided 14 = .ok (.iadd, 1) := by decide +kernel
theorem dX9_isJumpDecided_15 : decode cX9_isJumpDecided 15 = .ok (.invokevirtual 207, 3) := by decide +kernel
theorem dX9_isJumpDecided_18 : decode cX9_isJumpDecided 18 = .ok (.iconst 1, 1) := by decide +kernel
theorem dX9_isJumpDecided_19 : decode cX9_isJumpDecided 19 = .ok (.if_icmp .ne 7, 3) := by decide +kernel
theorem dX9_isJumpDecided_22 : decode cX9_isJumpDecided 22 = .ok (.iconst 3, 1) := by decide +kernel
theorem dX9_isJumpDecided_23 : decode cX9_isJumpDecided 23 = .ok (.goto 4, 3) := by decide +kernel
theorem dX9_isJumpDecided_26 : decode cX9_isJumpDecided 26 = .ok (.iconst 2, 1) := by decide +kernel
theorem dX9_isJumpDecided_27 : decode cX9_isJumpDecided 27 = .ok (.istore_n 2, 1) := by decide +kernel
theorem dX9_isJumpDecided_28 : decode cX9_isJumpDecided 28 = .ok (.aload_n 0, 1) := by decide +kernel
theorem dX9_isJumpDecided_29 : decode cX9_isJumpDecided 29 = .ok (.getfield 14, 3) := by decide +kernel
theorem dX9_isJumpDecided_32 : decode cX9_isJumpDecided 32 = .ok (.iload_n 1, 1) := by decide +kernel
theorem dX9_isJumpDecided_33 : decode cX9_isJumpDecided 33 = .ok (.iload_n 2, 1) := by decide +kernel
theorem dX9_isJumpDecided_34 : decode cX9_isJumpDecided 34 = .ok (.iadd, 1) := by decide +kernel
theorem dX9_isJumpDecided_35 : decode cX9_isJumpDecided 35 = .ok (.iconst 1, 1) := by decide +kernel
theorem dX9_isJumpDecided_36 : decode cX9_isJumpDecided 36 = .ok (.isub, 1) := by decide +kernel
theorem dX9_isJumpDecided_37 : decode cX9_isJumpDecided 37 = .ok (.invokevirtual 71, 3) := by decide +kernel
theorem dX9_isJumpDecided_40 : decode cX9_isJumpDecided 40 = .ok (.istore_n 3, 1) := by decide +kernel
theorem dX9_isJumpDecided_41 : decode cX9_isJumpDecided 41 = .ok (.iload_n 2, 1) := by decide +kernel
theorem dX9_isJumpDecided_42 : decode cX9_isJumpDecided 42 = .ok (.iconst 3, 1) := by decide +kernel
theorem dX9_isJumpDecided_43 : decode cX9_isJumpDecided 43 = .ok (.if_icmp .ne 9, 3) := by decide +kernel
theorem dX9_isJumpDecided_46 : decode cX9_isJumpDecided 46 = .ok (.sipush 159, 3) := by decide +kernel
theorem dX9_isJumpDecided_49 : decode cX9_isJumpDecided 49 = .ok (.goto 6, 3) := by decide +kernel
theorem dX9_isJumpDecided_52 : decode cX9_isJumpDecided 52 = .ok (.sipush 153, 3) := by decide +kernel
theorem dX9_isJumpDecided_55 : decode cX9_isJumpDecided 55 = .ok (.istore 4, 2) := by decide +kernel
theorem dX9_isJumpDecided_57 : decode cX9_isJumpDecided 57 = .ok (.iload_n 3, 1) := by decide +kernel
theorem dX9_isJumpDecided_58 : decode cX9_isJumpDecided 58 = .ok (.iload 4, 2) := by decide +kernel
theorem dX9_isJumpDecided_60 : decode cX9_isJumpDecided 60 = .ok (.if_icmp .lt 21, 3) := by decide +kernel
theorem dX9_isJumpDecided_63 : decode cX9_isJumpDecided 63 = .ok (.iload_n 3, 1) := by decide +kernel
theorem dX9_isJumpDecided_64 : decode cX9_isJumpDecided 64 = .ok (.iload 4, 2) := by decide +kernel
theorem dX9_isJumpDecided_66 : decode cX9_isJumpDecided 66 = .ok (.bipush 6, 2) := by decide +kernel
theorem dX9_isJumpDecided_68 : decode cX9_isJumpDecided 68 = .ok (.iadd, 1) := by decide +kernel
theorem dX9_isJumpDecided_69 : decode cX9_isJumpDecided 69 = .ok (.if_icmp .ge 12, 3) := by decide +kernel
theorem dX9_isJumpDecided_72 : decode cX9_isJumpDecided 72 = .ok (.aload_n 0, 1) := by decide +kernel
theorem dX9_isJumpDecided_73 : decode cX9_isJumpDecided 73 = .ok (.iload_n 1, 1) := by decide +kernel
theorem dX9_isJumpDecided_74 : decode cX9_isJumpDecided 74 = .ok (.iload_n 2, 1) := by decide +kernel
theorem dX9_isJumpDecided_75 : decode cX9_isJumpDecided 75 = .ok (.invokevirtual 161, 3) := by decide +kernel
theorem dX9_isJumpDecided_78 : decode cX9_isJumpDecided 78 = .ok (.ifCond .ne 5, 3) := by decide +kernel
theorem dX9_isJumpDecided_81 : decode cX9_isJumpDecided 81 = .ok (.iconst 0, 1) := by decide +kernel
theorem dX9_isJumpDecided_82 : decode cX9_isJumpDecided 82 = .ok (.ireturn, 1) := by decide +kernel
theorem dX9_isJumpDecided_83 : decode cX9_isJumpDecided 83 = .ok (.iload_n 3, 1) := by decide +kernel
theorem dX9_isJumpDecided_84 : decode cX9_isJumpDecided 84 = .ok (.aload_n 0, 1) := by decide +kernel
theorem dX9_isJumpDecided_85 : decode cX9_isJumpDecided 85 = .ok (.getfield 14, 3) := by decide +kernel
theorem dX9_isJumpDecided_88 : decode cX9_isJumpDecided 88 = .ok (.iload_n 1, 1) := by decide +kernel
theorem dX9_isJumpDecided_89 : decode cX9_isJumpDecided 89 = .ok (.invokevirtual 74, 3) := by decide +kernel
theorem dX9_isJumpDecided_92 : decode cX9_isJumpDecided 92 = .ok (.l2i, 1) := by decide +kernel
theorem dX9_isJumpDecided_93 : decode cX9_isJumpDecided 93 = .ok (.iload_n 2, 1) := by decide +kernel
theorem dX9_isJumpDecided_94 : decode cX9_isJumpDecided 94 = .ok (.iconst 3, 1) := by decide +kernel
theorem dX9_isJumpDecided_95 : decode cX9_isJumpDecided 95 = .ok (.if_icmp .ne 17, 3) := by decide +kernel
theorem dX9_isJumpDecided_98 : decode cX9_isJumpDecided 98 = .ok (.aload_n 0, 1) := by decide +kernel
theorem dX9_isJumpDecided_99 : decode cX9_isJumpDecided 99 = .ok (.getfield 14, 3) := by decide +kernel
theorem dX9_isJumpDecided_102 : decode cX9_isJumpDecided 102 = .ok (.iload_n 1, 1) := by decide +kernel
theorem dX9_isJumpDecided_103 : decode cX9_isJumpDecided 103 = .ok (.iconst 1, 1) := by decide +kernel
theorem dX9_isJumpDecided_104 : decode cX9_isJumpDecided 104 = .ok (.iadd, 1) := by decide +kernel
theorem dX9_isJumpDecided_105 : decode cX9_isJumpDecided 105 = .ok (.invokevirtual 74, 3) := by decide +kernel
theorem dX9_isJumpDecided_108 : decode cX9_isJumpDecided 108 = .ok (.l2i, 1) := by decide +kernel
theorem dX9_isJumpDecided_109 : decode cX9_isJumpDecided 109 = .ok (.goto 4, 3) := by decide +kernel
theorem dX9_isJumpDecided_112 : decode cX9_isJumpDecided 112 = .ok (.iconst 0, 1) := by decide +kernel
theorem dX9_isJumpDecided_113 : decode cX9_isJumpDecided 113 = .ok (.invokestatic 233, 3) := by decide +kernel
theorem dX9_isJumpDecided_116 : decode cX9_isJumpDecided 116 = .ok (.ifCond .eq 42, 3) := by decide +kernel
theorem dX9_isJumpDecided_119 : decode cX9_isJumpDecided 119 = .ok (.aload_n 0, 1) := by decide +kernel
theorem dX9_isJumpDecided_120 : decode cX9_isJumpDecided 120 = .ok (.getfield 14, 3) := by decide +kernel
theorem dX9_isJumpDecided_123 : decode cX9_isJumpDecided 123 = .ok (.iload_n 1, 1) := by decide +kernel
theorem dX9_isJumpDecided_124 : decode cX9_isJumpDecided 124 = .ok (.sipush 167, 3) := by decide +kernel
theorem dX9_isJumpDecided_127 : decode cX9_isJumpDecided 127 = .ok (.aload_n 0, 1) := by decide +kernel
theorem dX9_isJumpDecided_128 : decode cX9_isJumpDecided 128 = .ok (.getfield 14, 3) := by decide +kernel
theorem dX9_isJumpDecided_131 : decode cX9_isJumpDecided 131 = .ok (.iload_n 1, 1) := by decide +kernel
theorem dX9_isJumpDecided_132 : decode cX9_isJumpDecided 132 = .ok (.iload_n 2, 1) := by decide +kernel
theorem dX9_isJumpDecided_133 : decode cX9_isJumpDecided 133 = .ok (.iadd, 1) := by decide +kernel
theorem dX9_isJumpDecided_134 : decode cX9_isJumpDecided 134 = .ok (.iconst 1, 1) := by decide +kernel
theorem dX9_isJumpDecided_135 : decode cX9_isJumpDecided 135 = .ok (.isub, 1) := by decide +kernel
theorem dX9_isJumpDecided_136 : decode cX9_isJumpDecided 136 = .ok (.invokevirtual 74, 3) := by decide +kernel
theorem dX9_isJumpDecided_139 : decode cX9_isJumpDecided 139 = .ok (.invokevirtual 200, 3) := by decide +kernel
theorem dX9_isJumpDecided_142 : decode cX9_isJumpDecided 142 = .ok (.aload_n 0, 1) := by decide +kernel
theorem dX9_isJumpDecided_143 : decode cX9_isJumpDecided 143 = .ok (.getfield 14, 3) := by decide +kernel
theorem dX9_isJumpDecided_146 : decode cX9_isJumpDecided 146 = .ok (.iload_n 1, 1) := by decide +kernel
theorem dX9_isJumpDecided_147 : decode cX9_isJumpDecided 147 = .ok (.iconst 1, 1) := by decide +kernel
theorem dX9_isJumpDecided_148 : decode cX9_isJumpDecided 148 = .ok (.iadd, 1) := by decide +kernel
theorem dX9_isJumpDecided_149 : decode cX9_isJumpDecided 149 = .ok (.iload_n 2, 1) := by decide +kernel
theorem dX9_isJumpDecided_150 : decode cX9_isJumpDecided 150 = .ok (.iconst 1, 1) := by decide +kernel
theorem dX9_isJumpDecided_151 : decode cX9_isJumpDecided 151 = .ok (.isub, 1) := by decide +kernel
theorem dX9_isJumpDecided_152 : decode cX9_isJumpDecided 152 = .ok (.invokevirtual 176, 3) := by decide +kernel
theorem dX9_isJumpDecided_155 : decode cX9_isJumpDecided 155 = .ok (.goto 12, 3) := by decide +kernel
theorem dX9_isJumpDecided_158 : decode cX9_isJumpDecided 158 = .ok (.aload_n 0, 1) := by decide +kernel
theorem dX9_isJumpDecided_159 : decode cX9_isJumpDecided 159 = .ok (.getfield 14, 3) := by decide +kernel
theorem dX9_isJumpDecided_162 : decode cX9_isJumpDecided 162 = .ok (.iload_n 1, 1) := by decide +kernel
theorem dX9_isJumpDecided_163 : decode cX9_isJumpDecided 163 = .ok (.iload_n 2, 1) := by decide +kernel
theorem dX9_isJumpDecided_164 : decode cX9_isJumpDecided 164 = .ok (.invokevirtual 176, 3) := by decide +kernel
theorem dX9_isJumpDecided_167 : decode cX9_isJumpDecided 167 = .ok (.iconst 1, 1) := by decide +kernel
theorem dX9_isJumpDecided_168 : decode cX9_isJumpDecided 168 = .ok (.ireturn, 1) := by decide +kernel
theorem dX9_isNeutral_0 : decode cX9_isNeutral 0 = .ok (.aload_n 0, 1) := by decide +kernel
theorem dX9_isNeutral_1 : decode cX9_isNeutral 1 = .ok (.getfield 14, 3) := by decide +kernel
theorem dX9_isNeutral_4 : decode cX9_isNeutral 4 = .ok (.iload_n 1, 1) := by decide +kernel
theorem dX9_isNeutral_5 : decode cX9_isNeutral 5 = .ok (.iconst 1, 1) := by decide +kernel
theorem dX9_isNeutral_6 : decode cX9_isNeutral 6 = .ok (.iadd, 1) := by decide +kernel
theorem dX9_isNeutral_7 : decode cX9_isNeutral 7 = .ok (.invokevirtual 71, 3) := by decide +kernel
theorem dX9_isNeutral_10 : decode cX9_isNeutral 10 = .ok (.istore_n 2, 1) := by decide +kernel
theorem dX9_isNeutral_11 : decode cX9_isNeutral 11 = .ok (.aload_n 0, 1) := by decide +kernel
theorem dX9_isNeutral_12 : decode cX9_isNeutral 12 = .ok (.iload_n 1, 1) := by decide +kernel
theorem dX9_isNeutral_13 : decode cX9_isNeutral 13 = .ok (.invokevirtual 207, 3) := by decide +kernel
theorem dX9_isNeutral_16 : decode cX9_isNeutral 16 = .ok (.istore_n 3, 1) := by decide +kernel
theorem dX9_isNeutral_17 : decode cX9_isNeutral 17 = .ok (.iload_n 3, 1) := by decide +kernel
theorem dX9_isNeutral_18 : decode cX9_isNeutral 18 = .ok (.ifCond .eq 21, 3) := by decide +kernel
theorem dX9_isNeutral_21 : decode cX9_isNeutral 21 = .ok (.iload_n 2, 1) := by decide +kernel
theorem dX9_isNeutral_22 : decode cX9_isNeutral 22 = .ok (.invokestatic 204, 3) := by decide +kernel
theorem dX9_isNeutral_25 : decode cX9_isNeutral 25 = .ok (.ifCond .eq 14, 3) := by decide +kernel
theorem dX9_isNeutral_28 : decode cX9_isNeutral 28 = .ok (.iload_n 3, 1) := by decide +kernel
theorem dX9_isNeutral_29 : decode cX9_isNeutral 29 = .ok (.iload_n 2, 1) := by decide +kernel
theorem dX9_isNeutral_30 : decode cX9_isNeutral 30 = .ok (.invokestatic 210, 3) := by decide +kernel
theorem dX9_isNeutral_33 : decode cX9_isNeutral 33 = .ok (.bipush 15, 2) := by decide +kernel
theorem dX9_isNeutral_35 : decode cX9_isNeutral 35 = .ok (.iand, 1) := by decide +kernel
theorem dX9_isNeutral_36 : decode cX9_isNeutral 36 = .ok (.if_icmp .eq 5, 3) := by decide +kernel
theorem dX9_isNeutral_39 : decode cX9_isNeutral 39 = .ok (.iconst 0, 1) := by decide +kernel
theorem dX9_isNeutral_40 : decode cX9_isNeutral 40 = .ok (.ireturn, 1) := by decide +kernel
theorem dX9_isNeutral_41 : decode cX9_isNeutral 41 = .ok (.iload_n 2, 1) := by decide +kernel
theorem dX9_isNeutral_42 : decode cX9_isNeutral 42 = .ok (.tableswitch 217 96 131 #[158, 158, 217, 217, 158, 158, 217, 217, 177, 177, 217, 217, 177, 177, 217, 217, 217, 217, 217, 217, 217, 217, 217, 217, 217, 217, 217, 217, 217, 217, 196, 196, 158, 158, 158, 158], 158) := by decide +kernel
theorem dX9_isNeutral_200 : decode cX9_isNeutral 200 = .ok (.aload_n 0, 1) := by decide +kernel
theorem dX9_isNeutral_201 : decode cX9_isNeutral 201 = .ok (.getfield 14, 3) := by decide +kernel
theorem dX9_isNeutral_204 : decode cX9_isNeutral 204 = .ok (.iload_n 1, 1) := by decide +kernel
theorem dX9_isNeutral_205 : decode cX9_isNeutral 205 = .ok (.invokevirtual 74, 3) := by decide +kernel
theorem dX9_isNeutral_208 : decode cX9_isNeutral 208 = .ok (.lconst 0, 1) := by decide +kernel
theorem dX9_isNeutral_209 : decode cX9_isNeutral 209 = .ok (.lcmp, 1) := by decide +kernel
theorem dX9_isNeutral_210 : decode cX9_isNeutral 210 = .ok (.ifCond .ne 7, 3) := by decide +kernel
theorem dX9_isNeutral_213 : decode cX9_isNeutral 213 = .ok (.iconst 1, 1) := by decide +kernel
theorem dX9_isNeutral_214 : decode cX9_isNeutral 214 = .ok (.goto 4, 3) := by decide +kernel
theorem dX9_isNeutral_217 : decode cX9_isNeutral 217 = .ok (.iconst 0, 1) := by decide +kernel
theorem dX9_isNeutral_218 : decode cX9_isNeutral 218 = .ok (.ireturn, 1) := by decide +kernel
theorem dX9_isNeutral_219 : decode cX9_isNeutral 219 = .ok (.aload_n 0, 1) := by decide +kernel
theorem dX9_isNeutral_220 : decode cX9_isNeutral 220 = .ok (.getfield 14, 3) := by decide +kernel
theorem dX9_isNeutral_223 : decode cX9_isNeutral 223 = .ok (.iload_n 1, 1) := by decide +kernel
theorem dX9_isNeutral_224 : decode cX9_isNeutral 224 = .ok (.invokevirtual 74, 3) := by decide +kernel
theorem dX9_isNeutral_227 : decode cX9_isNeutral 227 = .ok (.lconst 1, 1) := by decide +kernel
theorem dX9_isNeutral_228 : decode cX9_isNeutral 228 = .ok (.lcmp, 1) := by decide +kernel
theorem dX9_isNeutral_229 : decode cX9_isNeutral 229 = .ok (.ifCond .ne 7, 3) := by decide +kernel
theorem dX9_isNeutral_232 : decode cX9_isNeutral 232 = .ok (.iconst 1, 1) := by decide +kernel
theorem dX9_isNeutral_233 : decode cX9_isNeutral 233 = .ok (.goto 4, 3) := by decide +kernel
theorem dX9_isNeutral_236 : decode cX9_isNeutral 236 = .ok (.iconst 0, 1) := by decide +kernel
theorem dX9_isNeutral_237 : decode cX9_isNeutral 237 = .ok (.ireturn, 1) := by decide +kernel
theorem dX9_isNeutral_238 : decode cX9_isNeutral 238 = .ok (.aload_n 0, 1) := by decide +kernel
theorem dX9_isNeutral_239 : decode cX9_isNeutral 239 = .ok (.getfield 14, 3) := by decide +kernel
theorem dX9_isNeutral_242 : decode cX9_isNeutral 242 = .ok (.iload_n 1, 1) := by decide +kernel
theorem dX9_isNeutral_243 : decode cX9_isNeutral 243 = .ok (.invokevirtual 74, 3) := by decide +kernel
theorem dX9_isNeutral_246 : decode cX9_isNeutral 246 = .ok (.ldc2_w 237, 3) := by decide +kernel
theorem dX9_isNeutral_249 : decode cX9_isNeutral 249 = .ok (.lcmp, 1) := by decide +kernel
theorem dX9_isNeutral_250 : decode cX9_isNeutral 250 = .ok (.ifCond .ne 7, 3) := by decide +kernel
theorem dX9_isNeutral_253 : decode cX9_isNeutral 253 = .ok (.iconst 1, 1) := by decide +kernel
theorem dX9_isNeutral_254 : decode cX9_isNeutral 254 = .ok (.goto 4, 3) := by decide +kernel
theorem dX9_isNeutral_257 : decode cX9_isNeutral 257 = .ok (.iconst 0, 1) := by decide +kernel
theorem dX9_isNeutral_258 : decode cX9_isNeutral 258 = .ok (.ireturn, 1) := by decide +kernel
theorem dX9_isNeutral_259 : decode cX9_isNeutral 259 = .ok (.iload_n 2, 1) := by decide +kernel
theorem dX9_isNeutral_260 : decode cX9_isNeutral 260 = .ok (.invokestatic 239, 3) := by decide +kernel
theorem dX9_isNeutral_263 : decode cX9_isNeutral 263 = .ok (.ifCond .eq 20, 3) := by decide +kernel
theorem dX9_isNeutral_266 : decode cX9_isNeutral 266 = .ok (.aload_n 0, 1) := by decide +kernel
theorem dX9_isNeutral_267 : decode cX9_isNeutral 267 = .ok (.getfield 14, 3) := by decide +kernel
theorem dX9_isNeutral_270 : decode cX9_isNeutral 270 = .ok (.iload_n 1, 1) := by decide +kernel
theorem dX9_isNeutral_271 : decode cX9_isNeutral 271 = .ok (.invokevirtual 74, 3) := by decide +kernel
theorem dX9_isNeutral_274 : decode cX9_isNeutral 274 = .ok (.lconst 0, 1) := by decide +kernel
theorem dX9_isNeutral_275 : decode cX9_isNeutral 275 = .ok (.lcmp, 1) := by decide +kernel
theorem dX9_isNeutral_276 : decode cX9_isNeutral 276 = .ok (.ifCond .ne 7, 3) := by decide +kernel
theorem dX9_isNeutral_279 : decode cX9_isNeutral 279 = .ok (.iconst 1, 1) := by decide +kernel
theorem dX9_isNeutral_280 : decode cX9_isNeutral 280 = .ok (.goto 4, 3) := by decide +kernel
theorem dX9_isNeutral_283 : decode cX9_isNeutral 283 = .ok (.iconst 0, 1) := by decide +kernel
theorem dX9_isNeutral_284 : decode cX9_isNeutral 284 = .ok (.ireturn, 1) := by decide +kernel
theorem dX9_isNewlyReached_0 : decode cX9_isNewlyReached 0 = .ok (.iload_n 1, 1) := by decide +kernel
theorem dX9_isNewlyReached_1 : decode cX9_isNewlyReached 1 = .ok (.ifCond .lt 23, 3) := by decide +kernel
theorem dX9_isNewlyReached_4 : decode cX9_isNewlyReached 4 = .ok (.iload_n 1, 1) := by decide +kernel
theorem dX9_isNewlyReached_5 : decode cX9_isNewlyReached 5 = .ok (.aload_n 0, 1) := by decide +kernel
theorem dX9_isNewlyReached_6 : decode cX9_isNewlyReached 6 = .ok (.getfield 14, 3) := by decide +kernel
theorem dX9_isNewlyReached_9 : decode cX9_isNewlyReached 9 = .ok (.getfield 54, 3) := by decide +kernel
theorem dX9_isNewlyReached_12 : decode cX9_isNewlyReached 12 = .ok (.if_icmp .ge 12, 3) := by decide +kernel
theorem dX9_isNewlyReached_15 : decode cX9_isNewlyReached 15 = .ok (.aload_n 0, 1) := by decide +kernel
theorem dX9_isNewlyReached_16 : decode cX9_isNewlyReached 16 = .ok (.getfield 28, 3) := by decide +kernel
theorem dX9_isNewlyReached_19 : decode cX9_isNewlyReached 19 = .ok (.iload_n 1, 1) := by decide +kernel
theorem dX9_isNewlyReached_20 : decode cX9_isNewlyReached 20 = .ok (.baload, 1) := by decide +kernel
theorem dX9_isNewlyReached_21 : decode cX9_isNewlyReached 21 = .ok (.ifCond .eq 5, 3) := by decide +kernel
theorem dX9_isNewlyReached_24 : decode cX9_isNewlyReached 24 = .ok (.iconst 0, 1) := by decide +kernel
theorem dX9_isNewlyReached_25 : decode cX9_isNewlyReached 25 = .ok (.ireturn, 1) := by decide +kernel
theorem dX9_isNewlyReached_26 : decode cX9_isNewlyReached 26 = .ok (.aload_n 0, 1) := by decide +kernel
theorem dX9_isNewlyReached_27 : decode cX9_isNewlyReached 27 = .ok (.getfield 28, 3) := by decide +kernel
theorem dX9_isNewlyReached_30 : decode cX9_isNewlyReached 30 = .ok (.iload_n 1, 1) := by decide +kernel
theorem dX9_isNewlyReached_31 : decode cX9_isNewlyReached 31 = .ok (.iconst 1, 1) := by decide +kernel
theorem dX9_isNewlyReached_32 : decode cX9_isNewlyReached 32 = .ok (.bastore, 1) := by decide +kernel
theorem dX9_isNewlyReached_33 : decode cX9_isNewlyReached 33 = .ok (.iconst 1, 1) := by decide +kernel
theorem dX9_isNewlyReached_34 : decode cX9_isNewlyReached 34 = .ok (.ireturn, 1) := by decide +kernel
theorem dX9_isPassedOn_0 : decode cX9_isPassedOn 0 = .ok (.aload_n 0, 1) := by decide +kernel
theorem dX9_isPassedOn_1 : decode cX9_isPassedOn 1 = .ok (.getfield 14, 3) := by decide +kernel
theorem dX9_isPassedOn_4 : decode cX9_isPassedOn 4 = .ok (.iload_n 1, 1) := by decide +kernel
theorem dX9_isPassedOn_5 : decode cX9_isPassedOn 5 = .ok (.invokevirtual 71, 3) := by decide +kernel
theorem dX9_isPassedOn_8 : decode cX9_isPassedOn 8 = .ok (.istore_n 2, 1) := by decide +kernel
theorem dX9_isPassedOn_9 : decode cX9_isPassedOn 9 = .ok (.aload_n 0, 1) := by decide +kernel
theorem dX9_isPassedOn_10 : decode cX9_isPassedOn 10 = .ok (.getfield 14, 3) := by decide +kernel
theorem dX9_isPassedOn_13 : decode cX9_isPassedOn 13 = .ok (.iload_n 1, 1) := by decide +kernel
theorem dX9_isPassedOn_14 : decode cX9_isPassedOn 14 = .ok (.iconst 1, 1) := by decide +kernel
theorem dX9_isPassedOn_15 : decode cX9_isPassedOn 15 = .ok (.iadd, 1) := by decide +kernel
theorem dX9_isPassedOn_16 : decode cX9_isPassedOn 16 = .ok (.invokevirtual 71, 3) := by decide +kernel
theorem dX9_isPassedOn_19 : decode cX9_isPassedOn 19 = .ok (.istore_n 3, 1) := by decide +kernel
theorem dX9_isPassedOn_20 : decode cX9_isPassedOn 20 = .ok (.iload_n 2, 1) := by decide +kernel
theorem dX9_isPassedOn_21 : decode cX9_isPassedOn 21 = .ok (.bipush 54, 2) := by decide +kernel
theorem dX9_isPassedOn_23 : decode cX9_isPassedOn 23 = .ok (.if_icmp .ne 9, 3) := by decide +kernel
theorem dX9_isPassedOn_26 : decode cX9_isPassedOn 26 = .ok (.iload_n 3, 1) := by decide +kernel
theorem dX9_isPassedOn_27 : decode cX9_isPassedOn 27 = .ok (.bipush 21, 2) := by decide +kernel
theorem dX9_isPassedOn_29 : decode cX9_isPassedOn 29 = .ok (.if_icmp .eq 27, 3) := by decide +kernel
theorem dX9_isPassedOn_32 : decode cX9_isPassedOn 32 = .ok (.iload_n 2, 1) := by decide +kernel
theorem dX9_isPassedOn_33 : decode cX9_isPassedOn 33 = .ok (.bipush 55, 2) := by decide +kernel
theorem dX9_isPassedOn_35 : decode cX9_isPassedOn 35 = .ok (.if_icmp .ne 9, 3) := by decide +kernel
theorem dX9_isPassedOn_38 : decode cX9_isPassedOn 38 = .ok (.iload_n 3, 1) := by decide +kernel
theorem dX9_isPassedOn_39 : decode cX9_isPassedOn 39 = .ok (.bipush 22, 2) := by decide +kernel
theorem dX9_isPassedOn_41 : decode cX9_isPassedOn 41 = .ok (.if_icmp .eq 15, 3) := by decide +kernel
theorem dX9_isPassedOn_44 : decode cX9_isPassedOn 44 = .ok (.iload_n 2, 1) := by decide +kernel
theorem dX9_isPassedOn_45 : decode cX9_isPassedOn 45 = .ok (.bipush 58, 2) := by decide +kernel
theorem dX9_isPassedOn_47 : decode cX9_isPassedOn 47 = .ok (.if_icmp .ne 13, 3) := by decide +kernel
theorem dX9_isPassedOn_50 : decode cX9_isPassedOn 50 = .ok (.iload_n 3, 1) := by decide +kernel
theorem dX9_isPassedOn_51 : decode cX9_isPassedOn 51 = .ok (.bipush 25, 2) := by decide +kernel
theorem dX9_isPassedOn_53 : decode cX9_isPassedOn 53 = .ok (.if_icmp .ne 7, 3) := by decide +kernel
theorem dX9_isPassedOn_56 : decode cX9_isPassedOn 56 = .ok (.iconst 1, 1) := by decide +kernel
theorem dX9_isPassedOn_57 : decode cX9_isPassedOn 57 = .ok (.goto 4, 3) := by decide +kernel
theorem dX9_isPassedOn_60 : decode cX9_isPassedOn 60 = .ok (.iconst 0, 1) := by decide +kernel
theorem dX9_isPassedOn_61 : decode cX9_isPassedOn 61 = .ok (.istore 4, 2) := by decide +kernel
theorem dX9_isPassedOn_63 : decode cX9_isPassedOn 63 = .ok (.iload 4, 2) := by decide +kernel
theorem dX9_isPassedOn_65 : decode cX9_isPassedOn 65 = .ok (.ifCond .eq 44, 3) := by decide +kernel
theorem dX9_isPassedOn_68 : decode cX9_isPassedOn 68 = .ok (.aload_n 0, 1) := by decide +kernel
theorem dX9_isPassedOn_69 : decode cX9_isPassedOn 69 = .ok (.getfield 14, 3) := by decide +kernel
theorem dX9_isPassedOn_72 : decode cX9_isPassedOn 72 = .ok (.iload_n 1, 1) := by decide +kernel
theorem dX9_isPassedOn_73 : decode cX9_isPassedOn 73 = .ok (.invokevirtual 248, 3) := by decide +kernel
theorem dX9_isPassedOn_76 : decode cX9_isPassedOn 76 = .ok (.aload_n 0, 1) := by decide +kernel
theorem dX9_isPassedOn_77 : decode cX9_isPassedOn 77 = .ok (.getfield 14, 3) := by decide +kernel
theorem dX9_isPassedOn_80 : decode cX9_isPassedOn 80 = .ok (.iload_n 1, 1) := by decide +kernel

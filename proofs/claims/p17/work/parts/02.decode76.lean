theorem dX8_addCatch_46 : decode cX8_addCatch 46 = .ok (.aload_n 0, 1) := by decide +kernel
theorem dX8_addCatch_47 : decode cX8_addCatch 47 = .ok (.getfield 49, 3) := by decide +kernel
theorem dX8_addCatch_50 : decode cX8_addCatch 50 = .ok (.iload 4, 2) := by decide +kernel
theorem dX8_addCatch_52 : decode cX8_addCatch 52 = .ok (.iastore, 1) := by decide +kernel
theorem dX8_addCatch_53 : decode cX8_addCatch 53 = .ok (.aload_n 0, 1) := by decide +kernel
theorem dX8_addCatch_54 : decode cX8_addCatch 54 = .ok (.dup, 1) := by decide +kernel
theorem dX8_addCatch_55 : decode cX8_addCatch 55 = .ok (.getfield 49, 3) := by decide +kernel
theorem dX8_addCatch_58 : decode cX8_addCatch 58 = .ok (.iconst 1, 1) := by decide +kernel
theorem dX8_addCatch_59 : decode cX8_addCatch 59 = .ok (.iadd, 1) := by decide +kernel
theorem dX8_addCatch_60 : decode cX8_addCatch 60 = .ok (.putfield 49, 3) := by decide +kernel
theorem dX8_addCatch_63 : decode cX8_addCatch 63 = .ok (.return_, 1) := by decide +kernel
theorem dX8_addToTable_0 : decode cX8_addToTable 0 = .ok (.aload_n 0, 1) := by decide +kernel
theorem dX8_addToTable_1 : decode cX8_addToTable 1 = .ok (.getfield 38, 3) := by decide +kernel
theorem dX8_addToTable_4 : decode cX8_addToTable 4 = .ok (.aload_n 0, 1) := by decide +kernel
theorem dX8_addToTable_5 : decode cX8_addToTable 5 = .ok (.getfield 19, 3) := by decide +kernel
theorem dX8_addToTable_8 : decode cX8_addToTable 8 = .ok (.arraylength, 1) := by decide +kernel
theorem dX8_addToTable_9 : decode cX8_addToTable 9 = .ok (.if_icmp .ge 23, 3) := by decide +kernel
theorem dX8_addToTable_12 : decode cX8_addToTable 12 = .ok (.aload_n 0, 1) := by decide +kernel
theorem dX8_addToTable_13 : decode cX8_addToTable 13 = .ok (.getfield 19, 3) := by decide +kernel
theorem dX8_addToTable_16 : decode cX8_addToTable 16 = .ok (.aload_n 0, 1) := by decide +kernel
theorem dX8_addToTable_17 : decode cX8_addToTable 17 = .ok (.getfield 38, 3) := by decide +kernel
theorem dX8_addToTable_20 : decode cX8_addToTable 20 = .ok (.iload_n 1, 1) := by decide +kernel
theorem dX8_addToTable_21 : decode cX8_addToTable 21 = .ok (.iastore, 1) := by decide +kernel
theorem dX8_addToTable_22 : decode cX8_addToTable 22 = .ok (.aload_n 0, 1) := by decide +kernel
theorem dX8_addToTable_23 : decode cX8_addToTable 23 = .ok (.dup, 1) := by decide +kernel
theorem dX8_addToTable_24 : decode cX8_addToTable 24 = .ok (.getfield 38, 3) := by decide +kernel
theorem dX8_addToTable_27 : decode cX8_addToTable 27 = .ok (.iconst 1, 1) := by decide +kernel
theorem dX8_addToTable_28 : decode cX8_addToTable 28 = .ok (.iadd, 1) := by decide +kernel
theorem dX8_addToTable_29 : decode cX8_addToTable 29 = .ok (.putfield 38, 3) := by decide +kernel
theorem dX8_addToTable_32 : decode cX8_addToTable 32 = .ok (.return_, 1) := by decide +kernel
theorem dX8_argAt_0 : decode cX8_argAt 0 = .ok (.iload_n 1, 1) := by decide +kernel
theorem dX8_argAt_1 : decode cX8_argAt 1 = .ok (.ifCond .lt 11, 3) := by decide +kernel
theorem dX8_argAt_4 : decode cX8_argAt 4 = .ok (.iload_n 1, 1) := by decide +kernel
theorem dX8_argAt_5 : decode cX8_argAt 5 = .ok (.aload_n 0, 1) := by decide +kernel
theorem dX8_argAt_6 : decode cX8_argAt 6 = .ok (.getfield 34, 3) := by decide +kernel
theorem dX8_argAt_9 : decode cX8_argAt 9 = .ok (.if_icmp .lt 7, 3) := by decide +kernel
theorem dX8_argAt_12 : decode cX8_argAt 12 = .ok (.lconst 0, 1) := by decide +kernel
theorem dX8_argAt_13 : decode cX8_argAt 13 = .ok (.goto 9, 3) := by decide +kernel
theorem dX8_argAt_16 : decode cX8_argAt 16 = .ok (.aload_n 0, 1) := by decide +kernel
theorem dX8_argAt_17 : decode cX8_argAt 17 = .ok (.getfield 15, 3) := by decide +kernel
theorem dX8_argAt_20 : decode cX8_argAt 20 = .ok (.iload_n 1, 1) := by decide +kernel
theorem dX8_argAt_21 : decode cX8_argAt 21 = .ok (.laload, 1) := by decide +kernel
theorem dX8_argAt_22 : decode cX8_argAt 22 = .ok (.lreturn, 1) := by decide +kernel
theorem dX8_behindRemoved_0 : decode cX8_behindRemoved 0 = .ok (.iload_n 0, 1) := by decide +kernel
theorem dX8_behindRemoved_1 : decode cX8_behindRemoved 1 = .ok (.iload_n 1, 1) := by decide +kernel
theorem dX8_behindRemoved_2 : decode cX8_behindRemoved 2 = .ok (.if_icmp .gt 7, 3) := by decide +kernel
theorem dX8_behindRemoved_5 : decode cX8_behindRemoved 5 = .ok (.iload_n 0, 1) := by decide +kernel
theorem dX8_behindRemoved_6 : decode cX8_behindRemoved 6 = .ok (.goto 10, 3) := by decide +kernel
theorem dX8_behindRemoved_9 : decode cX8_behindRemoved 9 = .ok (.iload_n 1, 1) := by decide +kernel
theorem dX8_behindRemoved_10 : decode cX8_behindRemoved 10 = .ok (.iload_n 0, 1) := by decide +kernel
theorem dX8_behindRemoved_11 : decode cX8_behindRemoved 11 = .ok (.iload_n 2, 1) := by decide +kernel
theorem dX8_behindRemoved_12 : decode cX8_behindRemoved 12 = .ok (.isub, 1) := by decide +kernel
theorem dX8_behindRemoved_13 : decode cX8_behindRemoved 13 = .ok (.invokestatic 112, 3) := by decide +kernel
theorem dX8_behindRemoved_16 : decode cX8_behindRemoved 16 = .ok (.ireturn, 1) := by decide +kernel
theorem dX8_catchHas_0 : decode cX8_catchHas 0 = .ok (.iload_n 1, 1) := by decide +kernel
theorem dX8_catchHas_1 : decode cX8_catchHas 1 = .ok (.ifCond .lt 35, 3) := by decide +kernel
theorem dX8_catchHas_4 : decode cX8_catchHas 4 = .ok (.iload_n 1, 1) := by decide +kernel
theorem dX8_catchHas_5 : decode cX8_catchHas 5 = .ok (.aload_n 0, 1) := by decide +kernel
theorem dX8_catchHas_6 : decode cX8_catchHas 6 = .ok (.getfield 49, 3) := by decide +kernel
theorem dX8_catchHas_9 : decode cX8_catchHas 9 = .ok (.if_icmp .ge 27, 3) := by decide +kernel
theorem dX8_catchHas_12 : decode cX8_catchHas 12 = .ok (.aload_n 0, 1) := by decide +kernel
theorem dX8_catchHas_13 : decode cX8_catchHas 13 = .ok (.getfield 22, 3) := by decide +kernel
theorem dX8_catchHas_16 : decode cX8_catchHas 16 = .ok (.iload_n 1, 1) := by decide +kernel
theorem dX8_catchHas_17 : decode cX8_catchHas 17 = .ok (.iaload, 1) := by decide +kernel
theorem dX8_catchHas_18 : decode cX8_catchHas 18 = .ok (.iload_n 2, 1) := by decide +kernel
theorem dX8_catchHas_19 : decode cX8_catchHas 19 = .ok (.if_icmp .gt 17, 3) := by decide +kernel
theorem dX8_catchHas_22 : decode cX8_catchHas 22 = .ok (.iload_n 2, 1) := by decide +kernel
theorem dX8_catchHas_23 : decode cX8_catchHas 23 = .ok (.aload_n 0, 1) := by decide +kernel
theorem dX8_catchHas_24 : decode cX8_catchHas 24 = .ok (.getfield 25, 3) := by decide +kernel
theorem dX8_catchHas_27 : decode cX8_catchHas 27 = .ok (.iload_n 1, 1) := by decide +kernel
theorem dX8_catchHas_28 : decode cX8_catchHas 28 = .ok (.iaload, 1) := by decide +kernel
theorem dX8_catchHas_29 : decode cX8_catchHas 29 = .ok (.if_icmp .ge 7, 3) := by decide +kernel
theorem dX8_catchHas_32 : decode cX8_catchHas 32 = .ok (.iconst 1, 1) := by decide +kernel
theorem dX8_catchHas_33 : decode cX8_catchHas 33 = .ok (.goto 4, 3) := by decide +kernel
theorem dX8_catchHas_36 : decode cX8_catchHas 36 = .ok (.iconst 0, 1) := by decide +kernel
theorem dX8_catchHas_37 : decode cX8_catchHas 37 = .ok (.ireturn, 1) := by decide +kernel
theorem dX8_copyFrom_0 : decode cX8_copyFrom 0 = .ok (.aload_n 0, 1) := by decide +kernel
theorem dX8_copyFrom_1 : decode cX8_copyFrom 1 = .ok (.aload_n 1, 1) := by decide +kernel
theorem dX8_copyFrom_2 : decode cX8_copyFrom 2 = .ok (.getfield 82, 3) := by decide +kernel
theorem dX8_copyFrom_5 : decode cX8_copyFrom 5 = .ok (.putfield 82, 3) := by decide +kernel
theorem dX8_copyFrom_8 : decode cX8_copyFrom 8 = .ok (.aload_n 0, 1) := by decide +kernel
theorem dX8_copyFrom_9 : decode cX8_copyFrom 9 = .ok (.iconst 0, 1) := by decide +kernel
theorem dX8_copyFrom_10 : decode cX8_copyFrom 10 = .ok (.putfield 34, 3) := by decide +kernel
theorem dX8_copyFrom_13 : decode cX8_copyFrom 13 = .ok (.iconst 0, 1) := by decide +kernel
theorem dX8_copyFrom_14 : decode cX8_copyFrom 14 = .ok (.istore_n 2, 1) := by decide +kernel
theorem dX8_copyFrom_15 : decode cX8_copyFrom 15 = .ok (.iload_n 2, 1) := by decide +kernel
theorem dX8_copyFrom_16 : decode cX8_copyFrom 16 = .ok (.aload_n 1, 1) := by decide +kernel
theorem dX8_copyFrom_17 : decode cX8_copyFrom 17 = .ok (.getfield 34, 3) := by decide +kernel
theorem dX8_copyFrom_20 : decode cX8_copyFrom 20 = .ok (.if_icmp .ge 25, 3) := by decide +kernel
theorem dX8_copyFrom_23 : decode cX8_copyFrom 23 = .ok (.aload_n 0, 1) := by decide +kernel
theorem dX8_copyFrom_24 : decode cX8_copyFrom 24 = .ok (.aload_n 1, 1) := by decide +kernel
theorem dX8_copyFrom_25 : decode cX8_copyFrom 25 = .ok (.getfield 9, 3) := by decide +kernel
theorem dX8_copyFrom_28 : decode cX8_copyFrom 28 = .ok (.iload_n 2, 1) := by decide +kernel
theorem dX8_copyFrom_29 : decode cX8_copyFrom 29 = .ok (.iaload, 1) := by decide +kernel
theorem dX8_copyFrom_30 : decode cX8_copyFrom 30 = .ok (.aload_n 1, 1) := by decide +kernel
theorem dX8_copyFrom_31 : decode cX8_copyFrom 31 = .ok (.getfield 15, 3) := by decide +kernel
theorem dX8_copyFrom_34 : decode cX8_copyFrom 34 = .ok (.iload_n 2, 1) := by decide +kernel
theorem dX8_copyFrom_35 : decode cX8_copyFrom 35 = .ok (.laload, 1) := by decide +kernel
theorem dX8_copyFrom_36 : decode cX8_copyFrom 36 = .ok (.invokevirtual 85, 3) := by decide +kernel
theorem dX8_copyFrom_39 : decode cX8_copyFrom 39 = .ok (.iinc 2 1, 3) := by decide +kernel
theorem dX8_copyFrom_42 : decode cX8_copyFrom 42 = .ok (.goto (-27), 3) := by decide +kernel
theorem dX8_copyFrom_45 : decode cX8_copyFrom 45 = .ok (.aload_n 0, 1) := by decide +kernel
theorem dX8_copyFrom_46 : decode cX8_copyFrom 46 = .ok (.iconst 0, 1) := by decide +kernel
theorem dX8_copyFrom_47 : decode cX8_copyFrom 47 = .ok (.putfield 38, 3) := by decide +kernel
theorem dX8_copyFrom_50 : decode cX8_copyFrom 50 = .ok (.iconst 0, 1) := by decide +kernel
theorem dX8_copyFrom_51 : decode cX8_copyFrom 51 = .ok (.istore_n 2, 1) := by decide +kernel
theorem dX8_copyFrom_52 : decode cX8_copyFrom 52 = .ok (.iload_n 2, 1) := by decide +kernel
theorem dX8_copyFrom_53 : decode cX8_copyFrom 53 = .ok (.aload_n 1, 1) := by decide +kernel
theorem dX8_copyFrom_54 : decode cX8_copyFrom 54 = .ok (.getfield 38, 3) := by decide +kernel
theorem dX8_copyFrom_57 : decode cX8_copyFrom 57 = .ok (.if_icmp .ge 19, 3) := by decide +kernel
theorem dX8_copyFrom_60 : decode cX8_copyFrom 60 = .ok (.aload_n 0, 1) := by decide +kernel
theorem dX8_copyFrom_61 : decode cX8_copyFrom 61 = .ok (.aload_n 1, 1) := by decide +kernel
theorem dX8_copyFrom_62 : decode cX8_copyFrom 62 = .ok (.getfield 19, 3) := by decide +kernel
theorem dX8_copyFrom_65 : decode cX8_copyFrom 65 = .ok (.iload_n 2, 1) := by decide +kernel
theorem dX8_copyFrom_66 : decode cX8_copyFrom 66 = .ok (.iaload, 1) := by decide +kernel
theorem dX8_copyFrom_67 : decode cX8_copyFrom 67 = .ok (.invokevirtual 89, 3) := by decide +kernel
theorem dX8_copyFrom_70 : decode cX8_copyFrom 70 = .ok (.iinc 2 1, 3) := by decide +kernel
theorem dX8_copyFrom_73 : decode cX8_copyFrom 73 = .ok (.goto (-21), 3) := by decide +kernel
theorem dX8_copyFrom_76 : decode cX8_copyFrom 76 = .ok (.aload_n 0, 1) := by decide +kernel
theorem dX8_copyFrom_77 : decode cX8_copyFrom 77 = .ok (.iconst 0, 1) := by decide +kernel
theorem dX8_copyFrom_78 : decode cX8_copyFrom 78 = .ok (.putfield 49, 3) := by decide +kernel
theorem dX8_copyFrom_81 : decode cX8_copyFrom 81 = .ok (.iconst 0, 1) := by decide +kernel
theorem dX8_copyFrom_82 : decode cX8_copyFrom 82 = .ok (.istore_n 2, 1) := by decide +kernel
theorem dX8_copyFrom_83 : decode cX8_copyFrom 83 = .ok (.iload_n 2, 1) := by decide +kernel
theorem dX8_copyFrom_84 : decode cX8_copyFrom 84 = .ok (.aload_n 1, 1) := by decide +kernel
theorem dX8_copyFrom_85 : decode cX8_copyFrom 85 = .ok (.getfield 49, 3) := by decide +kernel
theorem dX8_copyFrom_88 : decode cX8_copyFrom 88 = .ok (.if_icmp .ge 37, 3) := by decide +kernel
theorem dX8_copyFrom_91 : decode cX8_copyFrom 91 = .ok (.aload_n 0, 1) := by decide +kernel
theorem dX8_copyFrom_92 : decode cX8_copyFrom 92 = .ok (.aload_n 1, 1) := by decide +kernel
theorem dX8_copyFrom_93 : decode cX8_copyFrom 93 = .ok (.getfield 22, 3) := by decide +kernel
theorem dX8_copyFrom_96 : decode cX8_copyFrom 96 = .ok (.iload_n 2, 1) := by decide +kernel
theorem dX8_copyFrom_97 : decode cX8_copyFrom 97 = .ok (.iaload, 1) := by decide +kernel
theorem dX8_copyFrom_98 : decode cX8_copyFrom 98 = .ok (.aload_n 1, 1) := by decide +kernel
theorem dX8_copyFrom_99 : decode cX8_copyFrom 99 = .ok (.getfield 25, 3) := by decide +kernel
theorem dX8_copyFrom_102 : decode cX8_copyFrom 102 = .ok (.iload_n 2, 1) := by decide +kernel
theorem dX8_copyFrom_103 : decode cX8_copyFrom 103 = .ok (.iaload, 1) := by decide +kernel
theorem dX8_copyFrom_104 : decode cX8_copyFrom 104 = .ok (.aload_n 1, 1) := by decide +kernel
theorem dX8_copyFrom_105 : decode cX8_copyFrom 105 = .ok (.getfield 28, 3) := by decide +kernel
theorem dX8_copyFrom_108 : decode cX8_copyFrom 108 = .ok (.iload_n 2, 1) := by decide +kernel
theorem dX8_copyFrom_109 : decode cX8_copyFrom 109 = .ok (.iaload, 1) := by decide +kernel
theorem dX8_copyFrom_110 : decode cX8_copyFrom 110 = .ok (.aload_n 1, 1) := by decide +kernel
theorem dX8_copyFrom_111 : decode cX8_copyFrom 111 = .ok (.getfield 31, 3) := by decide +kernel
theorem dX8_copyFrom_114 : decode cX8_copyFrom 114 = .ok (.iload_n 2, 1) := by decide +kernel
theorem dX8_copyFrom_115 : decode cX8_copyFrom 115 = .ok (.iaload, 1) := by decide +kernel
theorem dX8_copyFrom_116 : decode cX8_copyFrom 116 = .ok (.invokevirtual 93, 3) := by decide +kernel
theorem dX8_copyFrom_119 : decode cX8_copyFrom 119 = .ok (.iinc 2 1, 3) := by decide +kernel
theorem dX8_copyFrom_122 : decode cX8_copyFrom 122 = .ok (.goto (-39), 3) := by decide +kernel
theorem dX8_copyFrom_125 : decode cX8_copyFrom 125 = .ok (.return_, 1) := by decide +kernel
theorem dX8_heightAt_0 : decode cX8_heightAt 0 = .ok (.aload_n 0, 1) := by decide +kernel
theorem dX8_heightAt_1 : decode cX8_heightAt 1 = .ok (.getfield 72, 3) := by decide +kernel

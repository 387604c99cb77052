theorem dX9_reachFrom_72 : decode cX9_reachFrom 72 = .ok (.istore 4, 2) := by decide +kernel
theorem dX9_reachFrom_74 : decode cX9_reachFrom 74 = .ok (.iload 4, 2) := by decide +kernel
theorem dX9_reachFrom_76 : decode cX9_reachFrom 76 = .ok (.aload_n 0, 1) := by decide +kernel
theorem dX9_reachFrom_77 : decode cX9_reachFrom 77 = .ok (.getfield 14, 3) := by decide +kernel
theorem dX9_reachFrom_80 : decode cX9_reachFrom 80 = .ok (.getfield 106, 3) := by decide +kernel
theorem dX9_reachFrom_83 : decode cX9_reachFrom 83 = .ok (.if_icmp .ge 47, 3) := by decide +kernel
theorem dX9_reachFrom_86 : decode cX9_reachFrom 86 = .ok (.iload_n 2, 1) := by decide +kernel
theorem dX9_reachFrom_87 : decode cX9_reachFrom 87 = .ok (.aload_n 0, 1) := by decide +kernel
theorem dX9_reachFrom_88 : decode cX9_reachFrom 88 = .ok (.getfield 14, 3) := by decide +kernel
theorem dX9_reachFrom_91 : decode cX9_reachFrom 91 = .ok (.iload 4, 2) := by decide +kernel
theorem dX9_reachFrom_93 : decode cX9_reachFrom 93 = .ok (.iload_n 1, 1) := by decide +kernel
theorem dX9_reachFrom_94 : decode cX9_reachFrom 94 = .ok (.invokevirtual 194, 3) := by decide +kernel
theorem dX9_reachFrom_97 : decode cX9_reachFrom 97 = .ok (.ifCond .eq 24, 3) := by decide +kernel
theorem dX9_reachFrom_100 : decode cX9_reachFrom 100 = .ok (.aload_n 0, 1) := by decide +kernel
theorem dX9_reachFrom_101 : decode cX9_reachFrom 101 = .ok (.aload_n 0, 1) := by decide +kernel
theorem dX9_reachFrom_102 : decode cX9_reachFrom 102 = .ok (.getfield 14, 3) := by decide +kernel
theorem dX9_reachFrom_105 : decode cX9_reachFrom 105 = .ok (.getfield 115, 3) := by decide +kernel
theorem dX9_reachFrom_108 : decode cX9_reachFrom 108 = .ok (.iload 4, 2) := by decide +kernel
theorem dX9_reachFrom_110 : decode cX9_reachFrom 110 = .ok (.iaload, 1) := by decide +kernel
theorem dX9_reachFrom_111 : decode cX9_reachFrom 111 = .ok (.invokevirtual 191, 3) := by decide +kernel
theorem dX9_reachFrom_114 : decode cX9_reachFrom 114 = .ok (.ifCond .eq 7, 3) := by decide +kernel
theorem dX9_reachFrom_117 : decode cX9_reachFrom 117 = .ok (.iconst 1, 1) := by decide +kernel
theorem dX9_reachFrom_118 : decode cX9_reachFrom 118 = .ok (.goto 4, 3) := by decide +kernel
theorem dX9_reachFrom_121 : decode cX9_reachFrom 121 = .ok (.iconst 0, 1) := by decide +kernel
theorem dX9_reachFrom_122 : decode cX9_reachFrom 122 = .ok (.ior, 1) := by decide +kernel
theorem dX9_reachFrom_123 : decode cX9_reachFrom 123 = .ok (.istore_n 2, 1) := by decide +kernel
theorem dX9_reachFrom_124 : decode cX9_reachFrom 124 = .ok (.iinc 4 1, 3) := by decide +kernel
theorem dX9_reachFrom_127 : decode cX9_reachFrom 127 = .ok (.goto (-53), 3) := by decide +kernel
theorem dX9_reachFrom_130 : decode cX9_reachFrom 130 = .ok (.iload_n 2, 1) := by decide +kernel
theorem dX9_reachFrom_131 : decode cX9_reachFrom 131 = .ok (.ireturn, 1) := by decide +kernel

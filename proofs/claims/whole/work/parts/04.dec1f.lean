theorem d1_count_70 : decode c1_count 70 = .ok (.iconst 2, 1) := by decide +kernel
theorem d1_count_71 : decode c1_count 71 = .ok (.if_icmp .ne 39, 3) := by decide +kernel
theorem d1_count_74 : decode c1_count 74 = .ok (.iload_n 3, 1) := by decide +kernel
theorem d1_count_75 : decode c1_count 75 = .ok (.istore_n 2, 1) := by decide +kernel
theorem d1_count_76 : decode c1_count 76 = .ok (.iconst 0, 1) := by decide +kernel
theorem d1_count_77 : decode c1_count 77 = .ok (.istore 4, 2) := by decide +kernel
theorem d1_count_79 : decode c1_count 79 = .ok (.iload 4, 2) := by decide +kernel
theorem d1_count_81 : decode c1_count 81 = .ok (.aload_n 0, 1) := by decide +kernel
theorem d1_count_82 : decode c1_count 82 = .ok (.getfield 62, 3) := by decide +kernel
theorem d1_count_85 : decode c1_count 85 = .ok (.if_icmp .ge 23, 3) := by decide +kernel
theorem d1_count_88 : decode c1_count 88 = .ok (.aload_n 0, 1) := by decide +kernel
theorem d1_count_89 : decode c1_count 89 = .ok (.getfield 44, 3) := by decide +kernel
theorem d1_count_92 : decode c1_count 92 = .ok (.iload 4, 2) := by decide +kernel
theorem d1_count_94 : decode c1_count 94 = .ok (.iaload, 1) := by decide +kernel
theorem d1_count_95 : decode c1_count 95 = .ok (.iload_n 3, 1) := by decide +kernel
theorem d1_count_96 : decode c1_count 96 = .ok (.if_icmp .gt 6, 3) := by decide +kernel
theorem d1_count_99 : decode c1_count 99 = .ok (.iinc 2 (-1), 3) := by decide +kernel
theorem d1_count_102 : decode c1_count 102 = .ok (.iinc 4 1, 3) := by decide +kernel
theorem d1_count_105 : decode c1_count 105 = .ok (.goto (-26), 3) := by decide +kernel
theorem d1_count_108 : decode c1_count 108 = .ok (.iload_n 2, 1) := by decide +kernel
theorem d1_count_109 : decode c1_count 109 = .ok (.ireturn, 1) := by decide +kernel
theorem d1_count_110 : decode c1_count 110 = .ok (.iconst 0, 1) := by decide +kernel
theorem d1_count_111 : decode c1_count 111 = .ok (.istore 4, 2) := by decide +kernel
theorem d1_count_113 : decode c1_count 113 = .ok (.iload 4, 2) := by decide +kernel
theorem d1_count_115 : decode c1_count 115 = .ok (.aload_n 0, 1) := by decide +kernel
theorem d1_count_116 : decode c1_count 116 = .ok (.getfield 62, 3) := by decide +kernel
theorem d1_count_119 : decode c1_count 119 = .ok (.if_icmp .ge 22, 3) := by decide +kernel
theorem d1_count_122 : decode c1_count 122 = .ok (.aload_n 0, 1) := by decide +kernel
theorem d1_count_123 : decode c1_count 123 = .ok (.getfield 29, 3) := by decide +kernel
theorem d1_count_126 : decode c1_count 126 = .ok (.iload 4, 2) := by decide +kernel
theorem d1_count_128 : decode c1_count 128 = .ok (.baload, 1) := by decide +kernel
theorem d1_count_129 : decode c1_count 129 = .ok (.ifCond .eq 6, 3) := by decide +kernel
theorem d1_count_132 : decode c1_count 132 = .ok (.iinc 2 1, 3) := by decide +kernel
theorem d1_count_135 : decode c1_count 135 = .ok (.iinc 4 1, 3) := by decide +kernel
theorem d1_count_138 : decode c1_count 138 = .ok (.goto (-25), 3) := by decide +kernel
theorem d1_count_141 : decode c1_count 141 = .ok (.iload_n 2, 1) := by decide +kernel
theorem d1_count_142 : decode c1_count 142 = .ok (.ireturn, 1) := by decide +kernel

theorem d0_workOut_97 : decode c0_workOut 97 = .ok (.iconst 1, 1) := by decide +kernel
theorem d0_workOut_98 : decode c0_workOut 98 = .ok (.isub, 1) := by decide +kernel
theorem d0_workOut_99 : decode c0_workOut 99 = .ok (.iastore, 1) := by decide +kernel
theorem d0_workOut_100 : decode c0_workOut 100 = .ok (.aload_n 0, 1) := by decide +kernel
theorem d0_workOut_101 : decode c0_workOut 101 = .ok (.getfield 34, 3) := by decide +kernel
theorem d0_workOut_104 : decode c0_workOut 104 = .ok (.iconst 3, 1) := by decide +kernel
theorem d0_workOut_105 : decode c0_workOut 105 = .ok (.aaload, 1) := by decide +kernel
theorem d0_workOut_106 : decode c0_workOut 106 = .ok (.iload_n 1, 1) := by decide +kernel
theorem d0_workOut_107 : decode c0_workOut 107 = .ok (.aload_n 0, 1) := by decide +kernel
theorem d0_workOut_108 : decode c0_workOut 108 = .ok (.getfield 34, 3) := by decide +kernel
theorem d0_workOut_111 : decode c0_workOut 111 = .ok (.iconst 5, 1) := by decide +kernel
theorem d0_workOut_112 : decode c0_workOut 112 = .ok (.aaload, 1) := by decide +kernel
theorem d0_workOut_113 : decode c0_workOut 113 = .ok (.iload_n 1, 1) := by decide +kernel
theorem d0_workOut_114 : decode c0_workOut 114 = .ok (.iaload, 1) := by decide +kernel
theorem d0_workOut_115 : decode c0_workOut 115 = .ok (.iconst 1, 1) := by decide +kernel
theorem d0_workOut_116 : decode c0_workOut 116 = .ok (.iadd, 1) := by decide +kernel
theorem d0_workOut_117 : decode c0_workOut 117 = .ok (.aload_n 0, 1) := by decide +kernel
theorem d0_workOut_118 : decode c0_workOut 118 = .ok (.iconst 4, 1) := by decide +kernel
theorem d0_workOut_119 : decode c0_workOut 119 = .ok (.iload_n 1, 1) := by decide +kernel
theorem d0_workOut_120 : decode c0_workOut 120 = .ok (.invokevirtual 118, 3) := by decide +kernel
theorem d0_workOut_123 : decode c0_workOut 123 = .ok (.invokestatic 121, 3) := by decide +kernel
theorem d0_workOut_126 : decode c0_workOut 126 = .ok (.aload_n 0, 1) := by decide +kernel
theorem d0_workOut_127 : decode c0_workOut 127 = .ok (.aload_n 0, 1) := by decide +kernel
theorem d0_workOut_128 : decode c0_workOut 128 = .ok (.getfield 19, 3) := by decide +kernel
theorem d0_workOut_131 : decode c0_workOut 131 = .ok (.iload_n 1, 1) := by decide +kernel
theorem d0_workOut_132 : decode c0_workOut 132 = .ok (.iaload, 1) := by decide +kernel
theorem d0_workOut_133 : decode c0_workOut 133 = .ok (.invokevirtual 129, 3) := by decide +kernel
theorem d0_workOut_136 : decode c0_workOut 136 = .ok (.invokestatic 121, 3) := by decide +kernel
theorem d0_workOut_139 : decode c0_workOut 139 = .ok (.iastore, 1) := by decide +kernel
theorem d0_workOut_140 : decode c0_workOut 140 = .ok (.aload_n 0, 1) := by decide +kernel
theorem d0_workOut_141 : decode c0_workOut 141 = .ok (.getfield 34, 3) := by decide +kernel
theorem d0_workOut_144 : decode c0_workOut 144 = .ok (.bipush 6, 2) := by decide +kernel
theorem d0_workOut_146 : decode c0_workOut 146 = .ok (.aaload, 1) := by decide +kernel
theorem d0_workOut_147 : decode c0_workOut 147 = .ok (.iload_n 1, 1) := by decide +kernel
theorem d0_workOut_148 : decode c0_workOut 148 = .ok (.aload_n 0, 1) := by decide +kernel
theorem d0_workOut_149 : decode c0_workOut 149 = .ok (.getfield 34, 3) := by decide +kernel
theorem d0_workOut_152 : decode c0_workOut 152 = .ok (.iconst 3, 1) := by decide +kernel
theorem d0_workOut_153 : decode c0_workOut 153 = .ok (.aaload, 1) := by decide +kernel
theorem d0_workOut_154 : decode c0_workOut 154 = .ok (.iload_n 1, 1) := by decide +kernel
theorem d0_workOut_155 : decode c0_workOut 155 = .ok (.iaload, 1) := by decide +kernel
theorem d0_workOut_156 : decode c0_workOut 156 = .ok (.aload_n 0, 1) := by decide +kernel
theorem d0_workOut_157 : decode c0_workOut 157 = .ok (.getfield 26, 3) := by decide +kernel
theorem d0_workOut_160 : decode c0_workOut 160 = .ok (.iload_n 1, 1) := by decide +kernel
theorem d0_workOut_161 : decode c0_workOut 161 = .ok (.iaload, 1) := by decide +kernel
theorem d0_workOut_162 : decode c0_workOut 162 = .ok (.iadd, 1) := by decide +kernel
theorem d0_workOut_163 : decode c0_workOut 163 = .ok (.iastore, 1) := by decide +kernel
theorem d0_workOut_164 : decode c0_workOut 164 = .ok (.aload_n 0, 1) := by decide +kernel
theorem d0_workOut_165 : decode c0_workOut 165 = .ok (.getfield 34, 3) := by decide +kernel
theorem d0_workOut_168 : decode c0_workOut 168 = .ok (.iconst 4, 1) := by decide +kernel
theorem d0_workOut_169 : decode c0_workOut 169 = .ok (.aaload, 1) := by decide +kernel
theorem d0_workOut_170 : decode c0_workOut 170 = .ok (.iload_n 1, 1) := by decide +kernel
theorem d0_workOut_171 : decode c0_workOut 171 = .ok (.aload_n 0, 1) := by decide +kernel
theorem d0_workOut_172 : decode c0_workOut 172 = .ok (.getfield 34, 3) := by decide +kernel
theorem d0_workOut_175 : decode c0_workOut 175 = .ok (.bipush 6, 2) := by decide +kernel
theorem d0_workOut_177 : decode c0_workOut 177 = .ok (.aaload, 1) := by decide +kernel
theorem d0_workOut_178 : decode c0_workOut 178 = .ok (.iload_n 1, 1) := by decide +kernel
theorem d0_workOut_179 : decode c0_workOut 179 = .ok (.iaload, 1) := by decide +kernel
theorem d0_workOut_180 : decode c0_workOut 180 = .ok (.iconst 1, 1) := by decide +kernel
theorem d0_workOut_181 : decode c0_workOut 181 = .ok (.iadd, 1) := by decide +kernel
theorem d0_workOut_182 : decode c0_workOut 182 = .ok (.iastore, 1) := by decide +kernel
theorem d0_workOut_183 : decode c0_workOut 183 = .ok (.return_, 1) := by decide +kernel
theorem d0_firstCycleInF_0 : decode c0_firstCycleInF 0 = .ok (.iload_n 1, 1) := by decide +kernel
theorem d0_firstCycleInF_1 : decode c0_firstCycleInF 1 = .ok (.ifCond .ne 5, 3) := by decide +kernel
theorem d0_firstCycleInF_4 : decode c0_firstCycleInF 4 = .ok (.iconst 1, 1) := by decide +kernel
theorem d0_firstCycleInF_5 : decode c0_firstCycleInF 5 = .ok (.ireturn, 1) := by decide +kernel
theorem d0_firstCycleInF_6 : decode c0_firstCycleInF 6 = .ok (.aload_n 0, 1) := by decide +kernel
theorem d0_firstCycleInF_7 : decode c0_firstCycleInF 7 = .ok (.getfield 29, 3) := by decide +kernel
theorem d0_firstCycleInF_10 : decode c0_firstCycleInF 10 = .ok (.iload_n 1, 1) := by decide +kernel
theorem d0_firstCycleInF_11 : decode c0_firstCycleInF 11 = .ok (.iconst 1, 1) := by decide +kernel
theorem d0_firstCycleInF_12 : decode c0_firstCycleInF 12 = .ok (.isub, 1) := by decide +kernel
theorem d0_firstCycleInF_13 : decode c0_firstCycleInF 13 = .ok (.baload, 1) := by decide +kernel
theorem d0_firstCycleInF_14 : decode c0_firstCycleInF 14 = .ok (.ifCond .eq 18, 3) := by decide +kernel
theorem d0_firstCycleInF_17 : decode c0_firstCycleInF 17 = .ok (.aload_n 0, 1) := by decide +kernel
theorem d0_firstCycleInF_18 : decode c0_firstCycleInF 18 = .ok (.getfield 34, 3) := by decide +kernel
theorem d0_firstCycleInF_21 : decode c0_firstCycleInF 21 = .ok (.iconst 5, 1) := by decide +kernel
theorem d0_firstCycleInF_22 : decode c0_firstCycleInF 22 = .ok (.aaload, 1) := by decide +kernel
theorem d0_firstCycleInF_23 : decode c0_firstCycleInF 23 = .ok (.iload_n 1, 1) := by decide +kernel
theorem d0_firstCycleInF_24 : decode c0_firstCycleInF 24 = .ok (.iconst 1, 1) := by decide +kernel
theorem d0_firstCycleInF_25 : decode c0_firstCycleInF 25 = .ok (.isub, 1) := by decide +kernel
theorem d0_firstCycleInF_26 : decode c0_firstCycleInF 26 = .ok (.iaload, 1) := by decide +kernel
theorem d0_firstCycleInF_27 : decode c0_firstCycleInF 27 = .ok (.iconst 1, 1) := by decide +kernel
theorem d0_firstCycleInF_28 : decode c0_firstCycleInF 28 = .ok (.iadd, 1) := by decide +kernel
theorem d0_firstCycleInF_29 : decode c0_firstCycleInF 29 = .ok (.goto 13, 3) := by decide +kernel
theorem d0_firstCycleInF_32 : decode c0_firstCycleInF 32 = .ok (.aload_n 0, 1) := by decide +kernel
theorem d0_firstCycleInF_33 : decode c0_firstCycleInF 33 = .ok (.getfield 34, 3) := by decide +kernel
theorem d0_firstCycleInF_36 : decode c0_firstCycleInF 36 = .ok (.iconst 1, 1) := by decide +kernel
theorem d0_firstCycleInF_37 : decode c0_firstCycleInF 37 = .ok (.aaload, 1) := by decide +kernel
theorem d0_firstCycleInF_38 : decode c0_firstCycleInF 38 = .ok (.iload_n 1, 1) := by decide +kernel
theorem d0_firstCycleInF_39 : decode c0_firstCycleInF 39 = .ok (.iconst 1, 1) := by decide +kernel
theorem d0_firstCycleInF_40 : decode c0_firstCycleInF 40 = .ok (.isub, 1) := by decide +kernel
theorem d0_firstCycleInF_41 : decode c0_firstCycleInF 41 = .ok (.iaload, 1) := by decide +kernel
theorem d0_firstCycleInF_42 : decode c0_firstCycleInF 42 = .ok (.ireturn, 1) := by decide +kernel
theorem d0_timeOfPrevious_0 : decode c0_timeOfPrevious 0 = .ok (.iload_n 2, 1) := by decide +kernel
theorem d0_timeOfPrevious_1 : decode c0_timeOfPrevious 1 = .ok (.ifCond .ne 7, 3) := by decide +kernel
theorem d0_timeOfPrevious_4 : decode c0_timeOfPrevious 4 = .ok (.iconst 0, 1) := by decide +kernel
theorem d0_timeOfPrevious_5 : decode c0_timeOfPrevious 5 = .ok (.goto 13, 3) := by decide +kernel
theorem d0_timeOfPrevious_8 : decode c0_timeOfPrevious 8 = .ok (.aload_n 0, 1) := by decide +kernel
theorem d0_timeOfPrevious_9 : decode c0_timeOfPrevious 9 = .ok (.getfield 34, 3) := by decide +kernel
theorem d0_timeOfPrevious_12 : decode c0_timeOfPrevious 12 = .ok (.iload_n 1, 1) := by decide +kernel
theorem d0_timeOfPrevious_13 : decode c0_timeOfPrevious 13 = .ok (.aaload, 1) := by decide +kernel
theorem d0_timeOfPrevious_14 : decode c0_timeOfPrevious 14 = .ok (.iload_n 2, 1) := by decide +kernel
theorem d0_timeOfPrevious_15 : decode c0_timeOfPrevious 15 = .ok (.iconst 1, 1) := by decide +kernel
theorem d0_timeOfPrevious_16 : decode c0_timeOfPrevious 16 = .ok (.isub, 1) := by decide +kernel
theorem d0_timeOfPrevious_17 : decode c0_timeOfPrevious 17 = .ok (.iaload, 1) := by decide +kernel
theorem d0_timeOfPrevious_18 : decode c0_timeOfPrevious 18 = .ok (.ireturn, 1) := by decide +kernel
theorem d0_readsReady_0 : decode c0_readsReady 0 = .ok (.iconst 0, 1) := by decide +kernel
theorem d0_readsReady_1 : decode c0_readsReady 1 = .ok (.istore_n 2, 1) := by decide +kernel
theorem d0_readsReady_2 : decode c0_readsReady 2 = .ok (.iconst 1, 1) := by decide +kernel
theorem d0_readsReady_3 : decode c0_readsReady 3 = .ok (.istore_n 3, 1) := by decide +kernel
theorem d0_readsReady_4 : decode c0_readsReady 4 = .ok (.iload_n 3, 1) := by decide +kernel
theorem d0_readsReady_5 : decode c0_readsReady 5 = .ok (.bipush 15, 2) := by decide +kernel
theorem d0_readsReady_7 : decode c0_readsReady 7 = .ok (.if_icmp .gt 33, 3) := by decide +kernel
theorem d0_readsReady_10 : decode c0_readsReady 10 = .ok (.aload_n 0, 1) := by decide +kernel
theorem d0_readsReady_11 : decode c0_readsReady 11 = .ok (.getfield 16, 3) := by decide +kernel
theorem d0_readsReady_14 : decode c0_readsReady 14 = .ok (.iload_n 1, 1) := by decide +kernel
theorem d0_readsReady_15 : decode c0_readsReady 15 = .ok (.iaload, 1) := by decide +kernel
theorem d0_readsReady_16 : decode c0_readsReady 16 = .ok (.iload_n 3, 1) := by decide +kernel
theorem d0_readsReady_17 : decode c0_readsReady 17 = .ok (.ishr, 1) := by decide +kernel
theorem d0_readsReady_18 : decode c0_readsReady 18 = .ok (.iconst 1, 1) := by decide +kernel
theorem d0_readsReady_19 : decode c0_readsReady 19 = .ok (.iand, 1) := by decide +kernel
theorem d0_readsReady_20 : decode c0_readsReady 20 = .ok (.iconst 1, 1) := by decide +kernel
theorem d0_readsReady_21 : decode c0_readsReady 21 = .ok (.if_icmp .ne 13, 3) := by decide +kernel
theorem d0_readsReady_24 : decode c0_readsReady 24 = .ok (.iload_n 2, 1) := by decide +kernel
theorem d0_readsReady_25 : decode c0_readsReady 25 = .ok (.aload_n 0, 1) := by decide +kernel
theorem d0_readsReady_26 : decode c0_readsReady 26 = .ok (.iload_n 3, 1) := by decide +kernel
theorem d0_readsReady_27 : decode c0_readsReady 27 = .ok (.invokevirtual 129, 3) := by decide +kernel
theorem d0_readsReady_30 : decode c0_readsReady 30 = .ok (.invokestatic 121, 3) := by decide +kernel
theorem d0_readsReady_33 : decode c0_readsReady 33 = .ok (.istore_n 2, 1) := by decide +kernel
theorem d0_readsReady_34 : decode c0_readsReady 34 = .ok (.iinc 3 1, 3) := by decide +kernel
theorem d0_readsReady_37 : decode c0_readsReady 37 = .ok (.goto (-33), 3) := by decide +kernel
theorem d0_readsReady_40 : decode c0_readsReady 40 = .ok (.iload_n 2, 1) := by decide +kernel
theorem d0_readsReady_41 : decode c0_readsReady 41 = .ok (.ireturn, 1) := by decide +kernel
theorem d0_afterReady_0 : decode c0_afterReady 0 = .ok (.aload_n 0, 1) := by decide +kernel
theorem d0_afterReady_1 : decode c0_afterReady 1 = .ok (.getfield 37, 3) := by decide +kernel
theorem d0_afterReady_4 : decode c0_afterReady 4 = .ok (.iload_n 1, 1) := by decide +kernel
theorem d0_afterReady_5 : decode c0_afterReady 5 = .ok (.iaload, 1) := by decide +kernel
theorem d0_afterReady_6 : decode c0_afterReady 6 = .ok (.istore_n 2, 1) := by decide +kernel
theorem d0_afterReady_7 : decode c0_afterReady 7 = .ok (.iload_n 2, 1) := by decide +kernel
theorem d0_afterReady_8 : decode c0_afterReady 8 = .ok (.iconst (-1), 1) := by decide +kernel
theorem d0_afterReady_9 : decode c0_afterReady 9 = .ok (.if_icmp .ne 5, 3) := by decide +kernel
theorem d0_afterReady_12 : decode c0_afterReady 12 = .ok (.iconst 0, 1) := by decide +kernel
theorem d0_afterReady_13 : decode c0_afterReady 13 = .ok (.ireturn, 1) := by decide +kernel
theorem d0_afterReady_14 : decode c0_afterReady 14 = .ok (.aload_n 0, 1) := by decide +kernel
theorem d0_afterReady_15 : decode c0_afterReady 15 = .ok (.getfield 22, 3) := by decide +kernel
theorem d0_afterReady_18 : decode c0_afterReady 18 = .ok (.iload_n 2, 1) := by decide +kernel
theorem d0_afterReady_19 : decode c0_afterReady 19 = .ok (.baload, 1) := by decide +kernel
theorem d0_afterReady_20 : decode c0_afterReady 20 = .ok (.ifCond .eq 15, 3) := by decide +kernel
theorem d0_afterReady_23 : decode c0_afterReady 23 = .ok (.aload_n 0, 1) := by decide +kernel
theorem d0_afterReady_24 : decode c0_afterReady 24 = .ok (.getfield 34, 3) := by decide +kernel
theorem d0_afterReady_27 : decode c0_afterReady 27 = .ok (.bipush 6, 2) := by decide +kernel

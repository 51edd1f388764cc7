theorem d0_afterReady_29 : decode c0_afterReady 29 = .ok (.aaload, 1) := by decide +kernel
theorem d0_afterReady_30 : decode c0_afterReady 30 = .ok (.iload_n 2, 1) := by decide +kernel
theorem d0_afterReady_31 : decode c0_afterReady 31 = .ok (.iaload, 1) := by decide +kernel
theorem d0_afterReady_32 : decode c0_afterReady 32 = .ok (.goto 11, 3) := by decide +kernel
theorem d0_afterReady_35 : decode c0_afterReady 35 = .ok (.aload_n 0, 1) := by decide +kernel
theorem d0_afterReady_36 : decode c0_afterReady 36 = .ok (.getfield 34, 3) := by decide +kernel
theorem d0_afterReady_39 : decode c0_afterReady 39 = .ok (.iconst 5, 1) := by decide +kernel
theorem d0_afterReady_40 : decode c0_afterReady 40 = .ok (.aaload, 1) := by decide +kernel
theorem d0_afterReady_41 : decode c0_afterReady 41 = .ok (.iload_n 2, 1) := by decide +kernel
theorem d0_afterReady_42 : decode c0_afterReady 42 = .ok (.iaload, 1) := by decide +kernel
theorem d0_afterReady_43 : decode c0_afterReady 43 = .ok (.iconst 1, 1) := by decide +kernel
theorem d0_afterReady_44 : decode c0_afterReady 44 = .ok (.iadd, 1) := by decide +kernel
theorem d0_afterReady_45 : decode c0_afterReady 45 = .ok (.ireturn, 1) := by decide +kernel
theorem d0_lastCycleIn_0 : decode c0_lastCycleIn 0 = .ok (.iload_n 1, 1) := by decide +kernel
theorem d0_lastCycleIn_1 : decode c0_lastCycleIn 1 = .ok (.iconst 4, 1) := by decide +kernel
theorem d0_lastCycleIn_2 : decode c0_lastCycleIn 2 = .ok (.if_icmp .ne 14, 3) := by decide +kernel
theorem d0_lastCycleIn_5 : decode c0_lastCycleIn 5 = .ok (.aload_n 0, 1) := by decide +kernel
theorem d0_lastCycleIn_6 : decode c0_lastCycleIn 6 = .ok (.getfield 34, 3) := by decide +kernel
theorem d0_lastCycleIn_9 : decode c0_lastCycleIn 9 = .ok (.iconst 4, 1) := by decide +kernel
theorem d0_lastCycleIn_10 : decode c0_lastCycleIn 10 = .ok (.aaload, 1) := by decide +kernel
theorem d0_lastCycleIn_11 : decode c0_lastCycleIn 11 = .ok (.iload_n 2, 1) := by decide +kernel
theorem d0_lastCycleIn_12 : decode c0_lastCycleIn 12 = .ok (.iaload, 1) := by decide +kernel
theorem d0_lastCycleIn_13 : decode c0_lastCycleIn 13 = .ok (.goto 15, 3) := by decide +kernel
theorem d0_lastCycleIn_16 : decode c0_lastCycleIn 16 = .ok (.aload_n 0, 1) := by decide +kernel
theorem d0_lastCycleIn_17 : decode c0_lastCycleIn 17 = .ok (.getfield 34, 3) := by decide +kernel
theorem d0_lastCycleIn_20 : decode c0_lastCycleIn 20 = .ok (.iload_n 1, 1) := by decide +kernel
theorem d0_lastCycleIn_21 : decode c0_lastCycleIn 21 = .ok (.iconst 1, 1) := by decide +kernel
theorem d0_lastCycleIn_22 : decode c0_lastCycleIn 22 = .ok (.iadd, 1) := by decide +kernel
theorem d0_lastCycleIn_23 : decode c0_lastCycleIn 23 = .ok (.aaload, 1) := by decide +kernel
theorem d0_lastCycleIn_24 : decode c0_lastCycleIn 24 = .ok (.iload_n 2, 1) := by decide +kernel
theorem d0_lastCycleIn_25 : decode c0_lastCycleIn 25 = .ok (.iaload, 1) := by decide +kernel
theorem d0_lastCycleIn_26 : decode c0_lastCycleIn 26 = .ok (.iconst 1, 1) := by decide +kernel
theorem d0_lastCycleIn_27 : decode c0_lastCycleIn 27 = .ok (.isub, 1) := by decide +kernel
theorem d0_lastCycleIn_28 : decode c0_lastCycleIn 28 = .ok (.ireturn, 1) := by decide +kernel
theorem d0_lastW_0 : decode c0_lastW 0 = .ok (.aload_n 0, 1) := by decide +kernel
theorem d0_lastW_1 : decode c0_lastW 1 = .ok (.getfield 40, 3) := by decide +kernel
theorem d0_lastW_4 : decode c0_lastW 4 = .ok (.ifCond .ne 7, 3) := by decide +kernel
theorem d0_lastW_7 : decode c0_lastW 7 = .ok (.iconst 0, 1) := by decide +kernel
theorem d0_lastW_8 : decode c0_lastW 8 = .ok (.goto 16, 3) := by decide +kernel
theorem d0_lastW_11 : decode c0_lastW 11 = .ok (.aload_n 0, 1) := by decide +kernel
theorem d0_lastW_12 : decode c0_lastW 12 = .ok (.getfield 34, 3) := by decide +kernel
theorem d0_lastW_15 : decode c0_lastW 15 = .ok (.iconst 4, 1) := by decide +kernel
theorem d0_lastW_16 : decode c0_lastW 16 = .ok (.aaload, 1) := by decide +kernel
theorem d0_lastW_17 : decode c0_lastW 17 = .ok (.aload_n 0, 1) := by decide +kernel
theorem d0_lastW_18 : decode c0_lastW 18 = .ok (.getfield 40, 3) := by decide +kernel
theorem d0_lastW_21 : decode c0_lastW 21 = .ok (.iconst 1, 1) := by decide +kernel
theorem d0_lastW_22 : decode c0_lastW 22 = .ok (.isub, 1) := by decide +kernel
theorem d0_lastW_23 : decode c0_lastW 23 = .ok (.iaload, 1) := by decide +kernel
theorem d0_lastW_24 : decode c0_lastW 24 = .ok (.ireturn, 1) := by decide +kernel
theorem d0_countWrong_0 : decode c0_countWrong 0 = .ok (.iconst 0, 1) := by decide +kernel
theorem d0_countWrong_1 : decode c0_countWrong 1 = .ok (.istore_n 1, 1) := by decide +kernel
theorem d0_countWrong_2 : decode c0_countWrong 2 = .ok (.iconst 0, 1) := by decide +kernel
theorem d0_countWrong_3 : decode c0_countWrong 3 = .ok (.istore_n 2, 1) := by decide +kernel
theorem d0_countWrong_4 : decode c0_countWrong 4 = .ok (.iload_n 2, 1) := by decide +kernel
theorem d0_countWrong_5 : decode c0_countWrong 5 = .ok (.aload_n 0, 1) := by decide +kernel
theorem d0_countWrong_6 : decode c0_countWrong 6 = .ok (.getfield 40, 3) := by decide +kernel
theorem d0_countWrong_9 : decode c0_countWrong 9 = .ok (.if_icmp .ge 21, 3) := by decide +kernel
theorem d0_countWrong_12 : decode c0_countWrong 12 = .ok (.aload_n 0, 1) := by decide +kernel
theorem d0_countWrong_13 : decode c0_countWrong 13 = .ok (.getfield 29, 3) := by decide +kernel
theorem d0_countWrong_16 : decode c0_countWrong 16 = .ok (.iload_n 2, 1) := by decide +kernel
theorem d0_countWrong_17 : decode c0_countWrong 17 = .ok (.baload, 1) := by decide +kernel
theorem d0_countWrong_18 : decode c0_countWrong 18 = .ok (.ifCond .eq 6, 3) := by decide +kernel
theorem d0_countWrong_21 : decode c0_countWrong 21 = .ok (.iinc 1 1, 3) := by decide +kernel
theorem d0_countWrong_24 : decode c0_countWrong 24 = .ok (.iinc 2 1, 3) := by decide +kernel
theorem d0_countWrong_27 : decode c0_countWrong 27 = .ok (.goto (-23), 3) := by decide +kernel
theorem d0_countWrong_30 : decode c0_countWrong 30 = .ok (.iload_n 1, 1) := by decide +kernel
theorem d0_countWrong_31 : decode c0_countWrong 31 = .ok (.ireturn, 1) := by decide +kernel
theorem dH_max_0 : decode cH_max 0 = .ok (.iload_n 0, 1) := by decide +kernel
theorem dH_max_1 : decode cH_max 1 = .ok (.iload_n 1, 1) := by decide +kernel
theorem dH_max_2 : decode cH_max 2 = .ok (.if_icmp .lt 7, 3) := by decide +kernel
theorem dH_max_5 : decode cH_max 5 = .ok (.iload_n 0, 1) := by decide +kernel
theorem dH_max_6 : decode cH_max 6 = .ok (.goto 4, 3) := by decide +kernel
theorem dH_max_9 : decode cH_max 9 = .ok (.iload_n 1, 1) := by decide +kernel
theorem dH_max_10 : decode cH_max 10 = .ok (.ireturn, 1) := by decide +kernel
theorem dA_fill_0 : decode cA_fill 0 = .ok (.iconst 0, 1) := by decide +kernel
theorem dA_fill_1 : decode cA_fill 1 = .ok (.istore_n 2, 1) := by decide +kernel
theorem dA_fill_2 : decode cA_fill 2 = .ok (.aload_n 0, 1) := by decide +kernel
theorem dA_fill_3 : decode cA_fill 3 = .ok (.arraylength, 1) := by decide +kernel
theorem dA_fill_4 : decode cA_fill 4 = .ok (.istore_n 3, 1) := by decide +kernel
theorem dA_fill_5 : decode cA_fill 5 = .ok (.iload_n 2, 1) := by decide +kernel
theorem dA_fill_6 : decode cA_fill 6 = .ok (.iload_n 3, 1) := by decide +kernel
theorem dA_fill_7 : decode cA_fill 7 = .ok (.if_icmp .ge 13, 3) := by decide +kernel
theorem dA_fill_10 : decode cA_fill 10 = .ok (.aload_n 0, 1) := by decide +kernel
theorem dA_fill_11 : decode cA_fill 11 = .ok (.iload_n 2, 1) := by decide +kernel
theorem dA_fill_12 : decode cA_fill 12 = .ok (.iload_n 1, 1) := by decide +kernel
theorem dA_fill_13 : decode cA_fill 13 = .ok (.iastore, 1) := by decide +kernel
theorem dA_fill_14 : decode cA_fill 14 = .ok (.iinc 2 1, 3) := by decide +kernel
theorem dA_fill_17 : decode cA_fill 17 = .ok (.goto (-12), 3) := by decide +kernel
theorem dA_fill_20 : decode cA_fill 20 = .ok (.return_, 1) := by decide +kernel

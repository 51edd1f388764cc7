theorem d0_requireInstruction_18 : decode c0_requireInstruction 18 = .ok (.invokespecial 101, 3) := by decide +kernel
theorem d0_requireInstruction_21 : decode c0_requireInstruction 21 = .ok (.athrow, 1) := by decide +kernel
theorem d0_requireInstruction_22 : decode c0_requireInstruction 22 = .ok (.return_, 1) := by decide +kernel
theorem d0_setRegisters_0 : decode c0_setRegisters 0 = .ok (.aload_n 0, 1) := by decide +kernel
theorem d0_setRegisters_1 : decode c0_setRegisters 1 = .ok (.getfield 13, 3) := by decide +kernel
theorem d0_setRegisters_4 : decode c0_setRegisters 4 = .ok (.iload_n 1, 1) := by decide +kernel
theorem d0_setRegisters_5 : decode c0_setRegisters 5 = .ok (.iload_n 2, 1) := by decide +kernel
theorem d0_setRegisters_6 : decode c0_setRegisters 6 = .ok (.iastore, 1) := by decide +kernel
theorem d0_setRegisters_7 : decode c0_setRegisters 7 = .ok (.aload_n 0, 1) := by decide +kernel
theorem d0_setRegisters_8 : decode c0_setRegisters 8 = .ok (.getfield 16, 3) := by decide +kernel
theorem d0_setRegisters_11 : decode c0_setRegisters 11 = .ok (.iload_n 1, 1) := by decide +kernel
theorem d0_setRegisters_12 : decode c0_setRegisters 12 = .ok (.iload_n 3, 1) := by decide +kernel
theorem d0_setRegisters_13 : decode c0_setRegisters 13 = .ok (.iastore, 1) := by decide +kernel
theorem d0_setRegisters_14 : decode c0_setRegisters 14 = .ok (.aload_n 0, 1) := by decide +kernel
theorem d0_setRegisters_15 : decode c0_setRegisters 15 = .ok (.getfield 19, 3) := by decide +kernel
theorem d0_setRegisters_18 : decode c0_setRegisters 18 = .ok (.iload_n 1, 1) := by decide +kernel
theorem d0_setRegisters_19 : decode c0_setRegisters 19 = .ok (.iload 4, 2) := by decide +kernel
theorem d0_setRegisters_21 : decode c0_setRegisters 21 = .ok (.iastore, 1) := by decide +kernel
theorem d0_setRegisters_22 : decode c0_setRegisters 22 = .ok (.return_, 1) := by decide +kernel
theorem d0_setPace_0 : decode c0_setPace 0 = .ok (.aload_n 0, 1) := by decide +kernel
theorem d0_setPace_1 : decode c0_setPace 1 = .ok (.getfield 9, 3) := by decide +kernel
theorem d0_setPace_4 : decode c0_setPace 4 = .ok (.iload_n 1, 1) := by decide +kernel
theorem d0_setPace_5 : decode c0_setPace 5 = .ok (.iload_n 2, 1) := by decide +kernel
theorem d0_setPace_6 : decode c0_setPace 6 = .ok (.iastore, 1) := by decide +kernel
theorem d0_setPace_7 : decode c0_setPace 7 = .ok (.aload_n 0, 1) := by decide +kernel
theorem d0_setPace_8 : decode c0_setPace 8 = .ok (.getfield 22, 3) := by decide +kernel
theorem d0_setPace_11 : decode c0_setPace 11 = .ok (.iload_n 1, 1) := by decide +kernel
theorem d0_setPace_12 : decode c0_setPace 12 = .ok (.iload_n 3, 1) := by decide +kernel
theorem d0_setPace_13 : decode c0_setPace 13 = .ok (.bastore, 1) := by decide +kernel
theorem d0_setPace_14 : decode c0_setPace 14 = .ok (.aload_n 0, 1) := by decide +kernel
theorem d0_setPace_15 : decode c0_setPace 15 = .ok (.getfield 26, 3) := by decide +kernel
theorem d0_setPace_18 : decode c0_setPace 18 = .ok (.iload_n 1, 1) := by decide +kernel
theorem d0_setPace_19 : decode c0_setPace 19 = .ok (.iload 4, 2) := by decide +kernel
theorem d0_setPace_21 : decode c0_setPace 21 = .ok (.iastore, 1) := by decide +kernel
theorem d0_setPace_22 : decode c0_setPace 22 = .ok (.aload_n 0, 1) := by decide +kernel
theorem d0_setPace_23 : decode c0_setPace 23 = .ok (.getfield 29, 3) := by decide +kernel
theorem d0_setPace_26 : decode c0_setPace 26 = .ok (.iload_n 1, 1) := by decide +kernel
theorem d0_setPace_27 : decode c0_setPace 27 = .ok (.iload 5, 2) := by decide +kernel
theorem d0_setPace_29 : decode c0_setPace 29 = .ok (.bastore, 1) := by decide +kernel
theorem d0_setPace_30 : decode c0_setPace 30 = .ok (.return_, 1) := by decide +kernel
theorem d0_workOutFrom_0 : decode c0_workOutFrom 0 = .ok (.aload_n 0, 1) := by decide +kernel
theorem d0_workOutFrom_1 : decode c0_workOutFrom 1 = .ok (.getfield 37, 3) := by decide +kernel
theorem d0_workOutFrom_4 : decode c0_workOutFrom 4 = .ok (.iconst (-1), 1) := by decide +kernel
theorem d0_workOutFrom_5 : decode c0_workOutFrom 5 = .ok (.invokestatic 102, 3) := by decide +kernel
theorem d0_workOutFrom_8 : decode c0_workOutFrom 8 = .ok (.iconst 0, 1) := by decide +kernel
theorem d0_workOutFrom_9 : decode c0_workOutFrom 9 = .ok (.istore_n 2, 1) := by decide +kernel
theorem d0_workOutFrom_10 : decode c0_workOutFrom 10 = .ok (.iload_n 2, 1) := by decide +kernel
theorem d0_workOutFrom_11 : decode c0_workOutFrom 11 = .ok (.iload_n 1, 1) := by decide +kernel
theorem d0_workOutFrom_12 : decode c0_workOutFrom 12 = .ok (.if_icmp .ge 14, 3) := by decide +kernel
theorem d0_workOutFrom_15 : decode c0_workOutFrom 15 = .ok (.aload_n 0, 1) := by decide +kernel
theorem d0_workOutFrom_16 : decode c0_workOutFrom 16 = .ok (.iload_n 2, 1) := by decide +kernel
theorem d0_workOutFrom_17 : decode c0_workOutFrom 17 = .ok (.invokevirtual 108, 3) := by decide +kernel
theorem d0_workOutFrom_20 : decode c0_workOutFrom 20 = .ok (.iinc 2 1, 3) := by decide +kernel
theorem d0_workOutFrom_23 : decode c0_workOutFrom 23 = .ok (.goto (-13), 3) := by decide +kernel
theorem d0_workOutFrom_26 : decode c0_workOutFrom 26 = .ok (.iload_n 1, 1) := by decide +kernel
theorem d0_workOutFrom_27 : decode c0_workOutFrom 27 = .ok (.istore_n 2, 1) := by decide +kernel
theorem d0_workOutFrom_28 : decode c0_workOutFrom 28 = .ok (.iload_n 2, 1) := by decide +kernel
theorem d0_workOutFrom_29 : decode c0_workOutFrom 29 = .ok (.aload_n 0, 1) := by decide +kernel
theorem d0_workOutFrom_30 : decode c0_workOutFrom 30 = .ok (.getfield 40, 3) := by decide +kernel
theorem d0_workOutFrom_33 : decode c0_workOutFrom 33 = .ok (.if_icmp .ge 19, 3) := by decide +kernel
theorem d0_workOutFrom_36 : decode c0_workOutFrom 36 = .ok (.aload_n 0, 1) := by decide +kernel
theorem d0_workOutFrom_37 : decode c0_workOutFrom 37 = .ok (.iload_n 2, 1) := by decide +kernel
theorem d0_workOutFrom_38 : decode c0_workOutFrom 38 = .ok (.invokevirtual 111, 3) := by decide +kernel
theorem d0_workOutFrom_41 : decode c0_workOutFrom 41 = .ok (.aload_n 0, 1) := by decide +kernel
theorem d0_workOutFrom_42 : decode c0_workOutFrom 42 = .ok (.iload_n 2, 1) := by decide +kernel
theorem d0_workOutFrom_43 : decode c0_workOutFrom 43 = .ok (.invokevirtual 108, 3) := by decide +kernel
theorem d0_workOutFrom_46 : decode c0_workOutFrom 46 = .ok (.iinc 2 1, 3) := by decide +kernel
theorem d0_workOutFrom_49 : decode c0_workOutFrom 49 = .ok (.goto (-21), 3) := by decide +kernel
theorem d0_workOutFrom_52 : decode c0_workOutFrom 52 = .ok (.return_, 1) := by decide +kernel
theorem d0_noteGiver_0 : decode c0_noteGiver 0 = .ok (.aload_n 0, 1) := by decide +kernel
theorem d0_noteGiver_1 : decode c0_noteGiver 1 = .ok (.getfield 13, 3) := by decide +kernel
theorem d0_noteGiver_4 : decode c0_noteGiver 4 = .ok (.iload_n 1, 1) := by decide +kernel
theorem d0_noteGiver_5 : decode c0_noteGiver 5 = .ok (.iaload, 1) := by decide +kernel
theorem d0_noteGiver_6 : decode c0_noteGiver 6 = .ok (.ifCond .eq 15, 3) := by decide +kernel
theorem d0_noteGiver_9 : decode c0_noteGiver 9 = .ok (.aload_n 0, 1) := by decide +kernel
theorem d0_noteGiver_10 : decode c0_noteGiver 10 = .ok (.getfield 37, 3) := by decide +kernel
theorem d0_noteGiver_13 : decode c0_noteGiver 13 = .ok (.aload_n 0, 1) := by decide +kernel
theorem d0_noteGiver_14 : decode c0_noteGiver 14 = .ok (.getfield 13, 3) := by decide +kernel
theorem d0_noteGiver_17 : decode c0_noteGiver 17 = .ok (.iload_n 1, 1) := by decide +kernel
theorem d0_noteGiver_18 : decode c0_noteGiver 18 = .ok (.iaload, 1) := by decide +kernel
theorem d0_noteGiver_19 : decode c0_noteGiver 19 = .ok (.iload_n 1, 1) := by decide +kernel
theorem d0_noteGiver_20 : decode c0_noteGiver 20 = .ok (.iastore, 1) := by decide +kernel
theorem d0_noteGiver_21 : decode c0_noteGiver 21 = .ok (.return_, 1) := by decide +kernel
theorem d0_workOut_0 : decode c0_workOut 0 = .ok (.aload_n 0, 1) := by decide +kernel
theorem d0_workOut_1 : decode c0_workOut 1 = .ok (.getfield 34, 3) := by decide +kernel
theorem d0_workOut_4 : decode c0_workOut 4 = .ok (.iconst 0, 1) := by decide +kernel
theorem d0_workOut_5 : decode c0_workOut 5 = .ok (.aaload, 1) := by decide +kernel
theorem d0_workOut_6 : decode c0_workOut 6 = .ok (.iload_n 1, 1) := by decide +kernel
theorem d0_workOut_7 : decode c0_workOut 7 = .ok (.aload_n 0, 1) := by decide +kernel
theorem d0_workOut_8 : decode c0_workOut 8 = .ok (.iload_n 1, 1) := by decide +kernel
theorem d0_workOut_9 : decode c0_workOut 9 = .ok (.invokevirtual 114, 3) := by decide +kernel
theorem d0_workOut_12 : decode c0_workOut 12 = .ok (.iastore, 1) := by decide +kernel
theorem d0_workOut_13 : decode c0_workOut 13 = .ok (.aload_n 0, 1) := by decide +kernel
theorem d0_workOut_14 : decode c0_workOut 14 = .ok (.getfield 34, 3) := by decide +kernel
theorem d0_workOut_17 : decode c0_workOut 17 = .ok (.iconst 1, 1) := by decide +kernel
theorem d0_workOut_18 : decode c0_workOut 18 = .ok (.aaload, 1) := by decide +kernel
theorem d0_workOut_19 : decode c0_workOut 19 = .ok (.iload_n 1, 1) := by decide +kernel
theorem d0_workOut_20 : decode c0_workOut 20 = .ok (.aload_n 0, 1) := by decide +kernel
theorem d0_workOut_21 : decode c0_workOut 21 = .ok (.getfield 34, 3) := by decide +kernel
theorem d0_workOut_24 : decode c0_workOut 24 = .ok (.iconst 0, 1) := by decide +kernel
theorem d0_workOut_25 : decode c0_workOut 25 = .ok (.aaload, 1) := by decide +kernel
theorem d0_workOut_26 : decode c0_workOut 26 = .ok (.iload_n 1, 1) := by decide +kernel
theorem d0_workOut_27 : decode c0_workOut 27 = .ok (.iaload, 1) := by decide +kernel
theorem d0_workOut_28 : decode c0_workOut 28 = .ok (.iconst 1, 1) := by decide +kernel
theorem d0_workOut_29 : decode c0_workOut 29 = .ok (.iadd, 1) := by decide +kernel
theorem d0_workOut_30 : decode c0_workOut 30 = .ok (.aload_n 0, 1) := by decide +kernel
theorem d0_workOut_31 : decode c0_workOut 31 = .ok (.iconst 2, 1) := by decide +kernel
theorem d0_workOut_32 : decode c0_workOut 32 = .ok (.iload_n 1, 1) := by decide +kernel
theorem d0_workOut_33 : decode c0_workOut 33 = .ok (.invokevirtual 118, 3) := by decide +kernel
theorem d0_workOut_36 : decode c0_workOut 36 = .ok (.invokestatic 121, 3) := by decide +kernel
theorem d0_workOut_39 : decode c0_workOut 39 = .ok (.iastore, 1) := by decide +kernel
theorem d0_workOut_40 : decode c0_workOut 40 = .ok (.aload_n 0, 1) := by decide +kernel
theorem d0_workOut_41 : decode c0_workOut 41 = .ok (.getfield 34, 3) := by decide +kernel
theorem d0_workOut_44 : decode c0_workOut 44 = .ok (.iconst 2, 1) := by decide +kernel
theorem d0_workOut_45 : decode c0_workOut 45 = .ok (.aaload, 1) := by decide +kernel
theorem d0_workOut_46 : decode c0_workOut 46 = .ok (.iload_n 1, 1) := by decide +kernel
theorem d0_workOut_47 : decode c0_workOut 47 = .ok (.aload_n 0, 1) := by decide +kernel
theorem d0_workOut_48 : decode c0_workOut 48 = .ok (.getfield 34, 3) := by decide +kernel
theorem d0_workOut_51 : decode c0_workOut 51 = .ok (.iconst 1, 1) := by decide +kernel
theorem d0_workOut_52 : decode c0_workOut 52 = .ok (.aaload, 1) := by decide +kernel
theorem d0_workOut_53 : decode c0_workOut 53 = .ok (.iload_n 1, 1) := by decide +kernel
theorem d0_workOut_54 : decode c0_workOut 54 = .ok (.iaload, 1) := by decide +kernel
theorem d0_workOut_55 : decode c0_workOut 55 = .ok (.iconst 1, 1) := by decide +kernel
theorem d0_workOut_56 : decode c0_workOut 56 = .ok (.iadd, 1) := by decide +kernel
theorem d0_workOut_57 : decode c0_workOut 57 = .ok (.aload_n 0, 1) := by decide +kernel
theorem d0_workOut_58 : decode c0_workOut 58 = .ok (.iconst 3, 1) := by decide +kernel
theorem d0_workOut_59 : decode c0_workOut 59 = .ok (.iload_n 1, 1) := by decide +kernel
theorem d0_workOut_60 : decode c0_workOut 60 = .ok (.invokevirtual 118, 3) := by decide +kernel
theorem d0_workOut_63 : decode c0_workOut 63 = .ok (.invokestatic 121, 3) := by decide +kernel
theorem d0_workOut_66 : decode c0_workOut 66 = .ok (.aload_n 0, 1) := by decide +kernel
theorem d0_workOut_67 : decode c0_workOut 67 = .ok (.iload_n 1, 1) := by decide +kernel
theorem d0_workOut_68 : decode c0_workOut 68 = .ok (.invokevirtual 126, 3) := by decide +kernel
theorem d0_workOut_71 : decode c0_workOut 71 = .ok (.invokestatic 121, 3) := by decide +kernel
theorem d0_workOut_74 : decode c0_workOut 74 = .ok (.iastore, 1) := by decide +kernel
theorem d0_workOut_75 : decode c0_workOut 75 = .ok (.aload_n 0, 1) := by decide +kernel
theorem d0_workOut_76 : decode c0_workOut 76 = .ok (.getfield 34, 3) := by decide +kernel
theorem d0_workOut_79 : decode c0_workOut 79 = .ok (.iconst 5, 1) := by decide +kernel
theorem d0_workOut_80 : decode c0_workOut 80 = .ok (.aaload, 1) := by decide +kernel
theorem d0_workOut_81 : decode c0_workOut 81 = .ok (.iload_n 1, 1) := by decide +kernel
theorem d0_workOut_82 : decode c0_workOut 82 = .ok (.aload_n 0, 1) := by decide +kernel
theorem d0_workOut_83 : decode c0_workOut 83 = .ok (.getfield 34, 3) := by decide +kernel
theorem d0_workOut_86 : decode c0_workOut 86 = .ok (.iconst 2, 1) := by decide +kernel
theorem d0_workOut_87 : decode c0_workOut 87 = .ok (.aaload, 1) := by decide +kernel
theorem d0_workOut_88 : decode c0_workOut 88 = .ok (.iload_n 1, 1) := by decide +kernel
theorem d0_workOut_89 : decode c0_workOut 89 = .ok (.iaload, 1) := by decide +kernel
theorem d0_workOut_90 : decode c0_workOut 90 = .ok (.aload_n 0, 1) := by decide +kernel
theorem d0_workOut_91 : decode c0_workOut 91 = .ok (.getfield 9, 3) := by decide +kernel
theorem d0_workOut_94 : decode c0_workOut 94 = .ok (.iload_n 1, 1) := by decide +kernel
theorem d0_workOut_95 : decode c0_workOut 95 = .ok (.iaload, 1) := by decide +kernel
theorem d0_workOut_96 : decode c0_workOut 96 = .ok (.iadd, 1) := by decide +kernel

theorem d0_in_0 : decode c0_in 0 = .ok (.iload_n 1, 1) := by decide +kernel
theorem d0_in_1 : decode c0_in 1 = .ok (.ifCond .lt 8, 3) := by decide +kernel
theorem d0_in_4 : decode c0_in 4 = .ok (.iload_n 1, 1) := by decide +kernel
theorem d0_in_5 : decode c0_in 5 = .ok (.iconst 4, 1) := by decide +kernel
theorem d0_in_6 : decode c0_in 6 = .ok (.if_icmp .le 13, 3) := by decide +kernel
theorem d0_in_9 : decode c0_in 9 = .ok (.new 69, 3) := by decide +kernel
theorem d0_in_12 : decode c0_in 12 = .ok (.dup, 1) := by decide +kernel
theorem d0_in_13 : decode c0_in 13 = .ok (.ldc 76, 2) := by decide +kernel
theorem d0_in_15 : decode c0_in 15 = .ok (.invokespecial 73, 3) := by decide +kernel
theorem d0_in_18 : decode c0_in 18 = .ok (.athrow, 1) := by decide +kernel
theorem d0_in_19 : decode c0_in 19 = .ok (.iconst 0, 1) := by decide +kernel
theorem d0_in_20 : decode c0_in 20 = .ok (.istore_n 3, 1) := by decide +kernel
theorem d0_in_21 : decode c0_in 21 = .ok (.iload_n 3, 1) := by decide +kernel
theorem d0_in_22 : decode c0_in 22 = .ok (.aload_n 0, 1) := by decide +kernel
theorem d0_in_23 : decode c0_in 23 = .ok (.getfield 40, 3) := by decide +kernel
theorem d0_in_26 : decode c0_in 26 = .ok (.if_icmp .ge 33, 3) := by decide +kernel
theorem d0_in_29 : decode c0_in 29 = .ok (.aload_n 0, 1) := by decide +kernel
theorem d0_in_30 : decode c0_in 30 = .ok (.getfield 34, 3) := by decide +kernel
theorem d0_in_33 : decode c0_in 33 = .ok (.iload_n 1, 1) := by decide +kernel
theorem d0_in_34 : decode c0_in 34 = .ok (.aaload, 1) := by decide +kernel
theorem d0_in_35 : decode c0_in 35 = .ok (.iload_n 3, 1) := by decide +kernel
theorem d0_in_36 : decode c0_in 36 = .ok (.iaload, 1) := by decide +kernel
theorem d0_in_37 : decode c0_in 37 = .ok (.iload_n 2, 1) := by decide +kernel
theorem d0_in_38 : decode c0_in 38 = .ok (.if_icmp .gt 15, 3) := by decide +kernel
theorem d0_in_41 : decode c0_in 41 = .ok (.iload_n 2, 1) := by decide +kernel
theorem d0_in_42 : decode c0_in 42 = .ok (.aload_n 0, 1) := by decide +kernel
theorem d0_in_43 : decode c0_in 43 = .ok (.iload_n 1, 1) := by decide +kernel
theorem d0_in_44 : decode c0_in 44 = .ok (.iload_n 3, 1) := by decide +kernel
theorem d0_in_45 : decode c0_in 45 = .ok (.invokevirtual 78, 3) := by decide +kernel
theorem d0_in_48 : decode c0_in 48 = .ok (.if_icmp .gt 5, 3) := by decide +kernel
theorem d0_in_51 : decode c0_in 51 = .ok (.iload_n 3, 1) := by decide +kernel
theorem d0_in_52 : decode c0_in 52 = .ok (.ireturn, 1) := by decide +kernel
theorem d0_in_53 : decode c0_in 53 = .ok (.iinc 3 1, 3) := by decide +kernel
theorem d0_in_56 : decode c0_in 56 = .ok (.goto (-35), 3) := by decide +kernel
theorem d0_in_59 : decode c0_in 59 = .ok (.iconst (-1), 1) := by decide +kernel
theorem d0_in_60 : decode c0_in 60 = .ok (.ireturn, 1) := by decide +kernel
theorem d0_held_0 : decode c0_held 0 = .ok (.aload_n 0, 1) := by decide +kernel
theorem d0_held_1 : decode c0_held 1 = .ok (.iload_n 1, 1) := by decide +kernel
theorem d0_held_2 : decode c0_held 2 = .ok (.invokevirtual 66, 3) := by decide +kernel
theorem d0_held_5 : decode c0_held 5 = .ok (.aload_n 0, 1) := by decide +kernel
theorem d0_held_6 : decode c0_held 6 = .ok (.getfield 34, 3) := by decide +kernel
theorem d0_held_9 : decode c0_held 9 = .ok (.iconst 2, 1) := by decide +kernel
theorem d0_held_10 : decode c0_held 10 = .ok (.aaload, 1) := by decide +kernel
theorem d0_held_11 : decode c0_held 11 = .ok (.iload_n 1, 1) := by decide +kernel
theorem d0_held_12 : decode c0_held 12 = .ok (.iaload, 1) := by decide +kernel
theorem d0_held_13 : decode c0_held 13 = .ok (.aload_n 0, 1) := by decide +kernel
theorem d0_held_14 : decode c0_held 14 = .ok (.getfield 34, 3) := by decide +kernel
theorem d0_held_17 : decode c0_held 17 = .ok (.iconst 1, 1) := by decide +kernel
theorem d0_held_18 : decode c0_held 18 = .ok (.aaload, 1) := by decide +kernel
theorem d0_held_19 : decode c0_held 19 = .ok (.iload_n 1, 1) := by decide +kernel
theorem d0_held_20 : decode c0_held 20 = .ok (.iaload, 1) := by decide +kernel
theorem d0_held_21 : decode c0_held 21 = .ok (.iconst 1, 1) := by decide +kernel
theorem d0_held_22 : decode c0_held 22 = .ok (.iadd, 1) := by decide +kernel
theorem d0_held_23 : decode c0_held 23 = .ok (.isub, 1) := by decide +kernel
theorem d0_held_24 : decode c0_held 24 = .ok (.ireturn, 1) := by decide +kernel
theorem d0_giver_0 : decode c0_giver 0 = .ok (.iload_n 2, 1) := by decide +kernel
theorem d0_giver_1 : decode c0_giver 1 = .ok (.iconst 1, 1) := by decide +kernel
theorem d0_giver_2 : decode c0_giver 2 = .ok (.if_icmp .lt 9, 3) := by decide +kernel
theorem d0_giver_5 : decode c0_giver 5 = .ok (.iload_n 2, 1) := by decide +kernel
theorem d0_giver_6 : decode c0_giver 6 = .ok (.bipush 15, 2) := by decide +kernel
theorem d0_giver_8 : decode c0_giver 8 = .ok (.if_icmp .le 13, 3) := by decide +kernel
theorem d0_giver_11 : decode c0_giver 11 = .ok (.new 69, 3) := by decide +kernel
theorem d0_giver_14 : decode c0_giver 14 = .ok (.dup, 1) := by decide +kernel
theorem d0_giver_15 : decode c0_giver 15 = .ok (.ldc 82, 2) := by decide +kernel
theorem d0_giver_17 : decode c0_giver 17 = .ok (.invokespecial 73, 3) := by decide +kernel
theorem d0_giver_20 : decode c0_giver 20 = .ok (.athrow, 1) := by decide +kernel
theorem d0_giver_21 : decode c0_giver 21 = .ok (.aload_n 0, 1) := by decide +kernel
theorem d0_giver_22 : decode c0_giver 22 = .ok (.iload_n 1, 1) := by decide +kernel
theorem d0_giver_23 : decode c0_giver 23 = .ok (.invokevirtual 66, 3) := by decide +kernel
theorem d0_giver_26 : decode c0_giver 26 = .ok (.iload_n 1, 1) := by decide +kernel
theorem d0_giver_27 : decode c0_giver 27 = .ok (.iconst 1, 1) := by decide +kernel
theorem d0_giver_28 : decode c0_giver 28 = .ok (.isub, 1) := by decide +kernel
theorem d0_giver_29 : decode c0_giver 29 = .ok (.istore_n 3, 1) := by decide +kernel
theorem d0_giver_30 : decode c0_giver 30 = .ok (.iload_n 3, 1) := by decide +kernel
theorem d0_giver_31 : decode c0_giver 31 = .ok (.ifCond .lt 21, 3) := by decide +kernel
theorem d0_giver_34 : decode c0_giver 34 = .ok (.aload_n 0, 1) := by decide +kernel
theorem d0_giver_35 : decode c0_giver 35 = .ok (.getfield 13, 3) := by decide +kernel
theorem d0_giver_38 : decode c0_giver 38 = .ok (.iload_n 3, 1) := by decide +kernel
theorem d0_giver_39 : decode c0_giver 39 = .ok (.iaload, 1) := by decide +kernel
theorem d0_giver_40 : decode c0_giver 40 = .ok (.iload_n 2, 1) := by decide +kernel
theorem d0_giver_41 : decode c0_giver 41 = .ok (.if_icmp .ne 5, 3) := by decide +kernel
theorem d0_giver_44 : decode c0_giver 44 = .ok (.iload_n 3, 1) := by decide +kernel
theorem d0_giver_45 : decode c0_giver 45 = .ok (.ireturn, 1) := by decide +kernel
theorem d0_giver_46 : decode c0_giver 46 = .ok (.iinc 3 (-1), 3) := by decide +kernel
theorem d0_giver_49 : decode c0_giver 49 = .ok (.goto (-19), 3) := by decide +kernel
theorem d0_giver_52 : decode c0_giver 52 = .ok (.iconst (-1), 1) := by decide +kernel
theorem d0_giver_53 : decode c0_giver 53 = .ok (.ireturn, 1) := by decide +kernel
theorem d0_count_0 : decode c0_count 0 = .ok (.iload_n 1, 1) := by decide +kernel
theorem d0_count_1 : decode c0_count 1 = .ok (.tableswitch 56 0 3 #[31, 36, 41, 51], 31) := by decide +kernel
theorem d0_count_32 : decode c0_count 32 = .ok (.aload_n 0, 1) := by decide +kernel
theorem d0_count_33 : decode c0_count 33 = .ok (.getfield 40, 3) := by decide +kernel
theorem d0_count_36 : decode c0_count 36 = .ok (.ireturn, 1) := by decide +kernel
theorem d0_count_37 : decode c0_count 37 = .ok (.aload_n 0, 1) := by decide +kernel
theorem d0_count_38 : decode c0_count 38 = .ok (.invokevirtual 84, 3) := by decide +kernel
theorem d0_count_41 : decode c0_count 41 = .ok (.ireturn, 1) := by decide +kernel
theorem d0_count_42 : decode c0_count 42 = .ok (.aload_n 0, 1) := by decide +kernel
theorem d0_count_43 : decode c0_count 43 = .ok (.invokevirtual 84, 3) := by decide +kernel
theorem d0_count_46 : decode c0_count 46 = .ok (.aload_n 0, 1) := by decide +kernel
theorem d0_count_47 : decode c0_count 47 = .ok (.getfield 40, 3) := by decide +kernel
theorem d0_count_50 : decode c0_count 50 = .ok (.isub, 1) := by decide +kernel
theorem d0_count_51 : decode c0_count 51 = .ok (.ireturn, 1) := by decide +kernel
theorem d0_count_52 : decode c0_count 52 = .ok (.aload_n 0, 1) := by decide +kernel
theorem d0_count_53 : decode c0_count 53 = .ok (.invokevirtual 88, 3) := by decide +kernel
theorem d0_count_56 : decode c0_count 56 = .ok (.ireturn, 1) := by decide +kernel
theorem d0_count_57 : decode c0_count 57 = .ok (.new 69, 3) := by decide +kernel
theorem d0_count_60 : decode c0_count 60 = .ok (.dup, 1) := by decide +kernel
theorem d0_count_61 : decode c0_count 61 = .ok (.ldc 91, 2) := by decide +kernel
theorem d0_count_63 : decode c0_count 63 = .ok (.invokespecial 73, 3) := by decide +kernel
theorem d0_count_66 : decode c0_count 66 = .ok (.athrow, 1) := by decide +kernel
theorem d0_requireFitting_0 : decode c0_requireFitting 0 = .ok (.iload_n 1, 1) := by decide +kernel
theorem d0_requireFitting_1 : decode c0_requireFitting 1 = .ok (.iconst 1, 1) := by decide +kernel
theorem d0_requireFitting_2 : decode c0_requireFitting 2 = .ok (.if_icmp .lt 21, 3) := by decide +kernel
theorem d0_requireFitting_5 : decode c0_requireFitting 5 = .ok (.iload_n 1, 1) := by decide +kernel
theorem d0_requireFitting_6 : decode c0_requireFitting 6 = .ok (.bipush 12, 2) := by decide +kernel
theorem d0_requireFitting_8 : decode c0_requireFitting 8 = .ok (.if_icmp .gt 15, 3) := by decide +kernel
theorem d0_requireFitting_11 : decode c0_requireFitting 11 = .ok (.iload 4, 2) := by decide +kernel
theorem d0_requireFitting_13 : decode c0_requireFitting 13 = .ok (.ifCond .lt 10, 3) := by decide +kernel
theorem d0_requireFitting_16 : decode c0_requireFitting 16 = .ok (.iload 4, 2) := by decide +kernel
theorem d0_requireFitting_18 : decode c0_requireFitting 18 = .ok (.bipush 8, 2) := by decide +kernel
theorem d0_requireFitting_20 : decode c0_requireFitting 20 = .ok (.if_icmp .le 13, 3) := by decide +kernel
theorem d0_requireFitting_23 : decode c0_requireFitting 23 = .ok (.new 69, 3) := by decide +kernel
theorem d0_requireFitting_26 : decode c0_requireFitting 26 = .ok (.dup, 1) := by decide +kernel
theorem d0_requireFitting_27 : decode c0_requireFitting 27 = .ok (.ldc 93, 2) := by decide +kernel
theorem d0_requireFitting_29 : decode c0_requireFitting 29 = .ok (.invokespecial 73, 3) := by decide +kernel
theorem d0_requireFitting_32 : decode c0_requireFitting 32 = .ok (.athrow, 1) := by decide +kernel
theorem d0_requireFitting_33 : decode c0_requireFitting 33 = .ok (.iload_n 2, 1) := by decide +kernel
theorem d0_requireFitting_34 : decode c0_requireFitting 34 = .ok (.ifCond .lt 19, 3) := by decide +kernel
theorem d0_requireFitting_37 : decode c0_requireFitting 37 = .ok (.iload_n 2, 1) := by decide +kernel
theorem d0_requireFitting_38 : decode c0_requireFitting 38 = .ok (.bipush 15, 2) := by decide +kernel
theorem d0_requireFitting_40 : decode c0_requireFitting 40 = .ok (.if_icmp .gt 13, 3) := by decide +kernel
theorem d0_requireFitting_43 : decode c0_requireFitting 43 = .ok (.iload_n 3, 1) := by decide +kernel
theorem d0_requireFitting_44 : decode c0_requireFitting 44 = .ok (.ifCond .lt 9, 3) := by decide +kernel
theorem d0_requireFitting_47 : decode c0_requireFitting 47 = .ok (.iload_n 3, 1) := by decide +kernel
theorem d0_requireFitting_48 : decode c0_requireFitting 48 = .ok (.bipush 15, 2) := by decide +kernel
theorem d0_requireFitting_50 : decode c0_requireFitting 50 = .ok (.if_icmp .le 13, 3) := by decide +kernel
theorem d0_requireFitting_53 : decode c0_requireFitting 53 = .ok (.new 69, 3) := by decide +kernel
theorem d0_requireFitting_56 : decode c0_requireFitting 56 = .ok (.dup, 1) := by decide +kernel
theorem d0_requireFitting_57 : decode c0_requireFitting 57 = .ok (.ldc 95, 2) := by decide +kernel
theorem d0_requireFitting_59 : decode c0_requireFitting 59 = .ok (.invokespecial 73, 3) := by decide +kernel
theorem d0_requireFitting_62 : decode c0_requireFitting 62 = .ok (.athrow, 1) := by decide +kernel
theorem d0_requireFitting_63 : decode c0_requireFitting 63 = .ok (.return_, 1) := by decide +kernel
theorem d0_requireInstruction_0 : decode c0_requireInstruction 0 = .ok (.iload_n 1, 1) := by decide +kernel
theorem d0_requireInstruction_1 : decode c0_requireInstruction 1 = .ok (.ifCond .lt 11, 3) := by decide +kernel
theorem d0_requireInstruction_4 : decode c0_requireInstruction 4 = .ok (.iload_n 1, 1) := by decide +kernel
theorem d0_requireInstruction_5 : decode c0_requireInstruction 5 = .ok (.aload_n 0, 1) := by decide +kernel
theorem d0_requireInstruction_6 : decode c0_requireInstruction 6 = .ok (.getfield 40, 3) := by decide +kernel
theorem d0_requireInstruction_9 : decode c0_requireInstruction 9 = .ok (.if_icmp .lt 13, 3) := by decide +kernel
theorem d0_requireInstruction_12 : decode c0_requireInstruction 12 = .ok (.new 97, 3) := by decide +kernel
theorem d0_requireInstruction_15 : decode c0_requireInstruction 15 = .ok (.dup, 1) := by decide +kernel
theorem d0_requireInstruction_16 : decode c0_requireInstruction 16 = .ok (.ldc 99, 2) := by decide +kernel

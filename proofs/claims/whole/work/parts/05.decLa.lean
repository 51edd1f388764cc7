theorem dL_add_0 : decode cL_add 0 = .ok (.aload 8, 2) := by decide +kernel
theorem dL_add_2 : decode cL_add 2 = .ok (.iconst 0, 1) := by decide +kernel
theorem dL_add_3 : decode cL_add 3 = .ok (.aload_n 0, 1) := by decide +kernel
theorem dL_add_4 : decode cL_add 4 = .ok (.iload_n 1, 1) := by decide +kernel
theorem dL_add_5 : decode cL_add 5 = .ok (.iload_n 2, 1) := by decide +kernel
theorem dL_add_6 : decode cL_add 6 = .ok (.iload_n 3, 1) := by decide +kernel
theorem dL_add_7 : decode cL_add 7 = .ok (.iload 4, 2) := by decide +kernel
theorem dL_add_9 : decode cL_add 9 = .ok (.iload 5, 2) := by decide +kernel
theorem dL_add_11 : decode cL_add 11 = .ok (.iload 6, 2) := by decide +kernel
theorem dL_add_13 : decode cL_add 13 = .ok (.iload 7, 2) := by decide +kernel
theorem dL_add_15 : decode cL_add 15 = .ok (.invokevirtual 7, 3) := by decide +kernel
theorem dL_add_18 : decode cL_add 18 = .ok (.i2l, 1) := by decide +kernel
theorem dL_add_19 : decode cL_add 19 = .ok (.lastore, 1) := by decide +kernel
theorem dL_add_20 : decode cL_add 20 = .ok (.goto 11, 3) := by decide +kernel
theorem dL_add_23 : decode cL_add 23 = .ok (.astore 9, 2) := by decide +kernel
theorem dL_add_25 : decode cL_add 25 = .ok (.iconst 1, 1) := by decide +kernel
theorem dL_add_26 : decode cL_add 26 = .ok (.ireturn, 1) := by decide +kernel
theorem dL_add_27 : decode cL_add 27 = .ok (.astore 9, 2) := by decide +kernel
theorem dL_add_29 : decode cL_add 29 = .ok (.iconst 2, 1) := by decide +kernel
theorem dL_add_30 : decode cL_add 30 = .ok (.ireturn, 1) := by decide +kernel
theorem dL_add_31 : decode cL_add 31 = .ok (.iconst 0, 1) := by decide +kernel
theorem dL_add_32 : decode cL_add 32 = .ok (.ireturn, 1) := by decide +kernel
theorem dL_change_0 : decode cL_change 0 = .ok (.aload_n 0, 1) := by decide +kernel
theorem dL_change_1 : decode cL_change 1 = .ok (.iload_n 1, 1) := by decide +kernel
theorem dL_change_2 : decode cL_change 2 = .ok (.iload_n 2, 1) := by decide +kernel
theorem dL_change_3 : decode cL_change 3 = .ok (.iload_n 3, 1) := by decide +kernel
theorem dL_change_4 : decode cL_change 4 = .ok (.iload 4, 2) := by decide +kernel
theorem dL_change_6 : decode cL_change 6 = .ok (.iload 5, 2) := by decide +kernel
theorem dL_change_8 : decode cL_change 8 = .ok (.iload 6, 2) := by decide +kernel
theorem dL_change_10 : decode cL_change 10 = .ok (.iload 7, 2) := by decide +kernel
theorem dL_change_12 : decode cL_change 12 = .ok (.iload 8, 2) := by decide +kernel
theorem dL_change_14 : decode cL_change 14 = .ok (.invokevirtual 17, 3) := by decide +kernel
theorem dL_change_17 : decode cL_change 17 = .ok (.goto 11, 3) := by decide +kernel
theorem dL_change_20 : decode cL_change 20 = .ok (.astore 9, 2) := by decide +kernel
theorem dL_change_22 : decode cL_change 22 = .ok (.iconst 1, 1) := by decide +kernel
theorem dL_change_23 : decode cL_change 23 = .ok (.ireturn, 1) := by decide +kernel
theorem dL_change_24 : decode cL_change 24 = .ok (.astore 9, 2) := by decide +kernel
theorem dL_change_26 : decode cL_change 26 = .ok (.iconst 2, 1) := by decide +kernel
theorem dL_change_27 : decode cL_change 27 = .ok (.ireturn, 1) := by decide +kernel
theorem dL_change_28 : decode cL_change 28 = .ok (.iconst 0, 1) := by decide +kernel
theorem dL_change_29 : decode cL_change 29 = .ok (.ireturn, 1) := by decide +kernel
theorem dL_cut_0 : decode cL_cut 0 = .ok (.aload_n 2, 1) := by decide +kernel
theorem dL_cut_1 : decode cL_cut 1 = .ok (.iconst 0, 1) := by decide +kernel
theorem dL_cut_2 : decode cL_cut 2 = .ok (.aload_n 0, 1) := by decide +kernel
theorem dL_cut_3 : decode cL_cut 3 = .ok (.iload_n 1, 1) := by decide +kernel
theorem dL_cut_4 : decode cL_cut 4 = .ok (.invokevirtual 23, 3) := by decide +kernel
theorem dL_cut_7 : decode cL_cut 7 = .ok (.i2l, 1) := by decide +kernel
theorem dL_cut_8 : decode cL_cut 8 = .ok (.lastore, 1) := by decide +kernel
theorem dL_cut_9 : decode cL_cut 9 = .ok (.goto 6, 3) := by decide +kernel
theorem dL_cut_12 : decode cL_cut 12 = .ok (.astore_n 3, 1) := by decide +kernel
theorem dL_cut_13 : decode cL_cut 13 = .ok (.iconst 1, 1) := by decide +kernel
theorem dL_cut_14 : decode cL_cut 14 = .ok (.ireturn, 1) := by decide +kernel
theorem dL_cut_15 : decode cL_cut 15 = .ok (.iconst 0, 1) := by decide +kernel
theorem dL_cut_16 : decode cL_cut 16 = .ok (.ireturn, 1) := by decide +kernel
theorem dL_when_0 : decode cL_when 0 = .ok (.aload_n 3, 1) := by decide +kernel
theorem dL_when_1 : decode cL_when 1 = .ok (.iconst 0, 1) := by decide +kernel
theorem dL_when_2 : decode cL_when 2 = .ok (.aload_n 0, 1) := by decide +kernel
theorem dL_when_3 : decode cL_when 3 = .ok (.iload_n 1, 1) := by decide +kernel
theorem dL_when_4 : decode cL_when 4 = .ok (.iload_n 2, 1) := by decide +kernel
theorem dL_when_5 : decode cL_when 5 = .ok (.invokevirtual 27, 3) := by decide +kernel
theorem dL_when_8 : decode cL_when 8 = .ok (.i2l, 1) := by decide +kernel
theorem dL_when_9 : decode cL_when 9 = .ok (.lastore, 1) := by decide +kernel
theorem dL_when_10 : decode cL_when 10 = .ok (.goto 11, 3) := by decide +kernel
theorem dL_when_13 : decode cL_when 13 = .ok (.astore 4, 2) := by decide +kernel
theorem dL_when_15 : decode cL_when 15 = .ok (.iconst 1, 1) := by decide +kernel
theorem dL_when_16 : decode cL_when 16 = .ok (.ireturn, 1) := by decide +kernel
theorem dL_when_17 : decode cL_when 17 = .ok (.astore 4, 2) := by decide +kernel
theorem dL_when_19 : decode cL_when 19 = .ok (.iconst 2, 1) := by decide +kernel
theorem dL_when_20 : decode cL_when 20 = .ok (.ireturn, 1) := by decide +kernel
theorem dL_when_21 : decode cL_when 21 = .ok (.iconst 0, 1) := by decide +kernel
theorem dL_when_22 : decode cL_when 22 = .ok (.ireturn, 1) := by decide +kernel
theorem dL_in_0 : decode cL_in 0 = .ok (.aload_n 3, 1) := by decide +kernel
theorem dL_in_1 : decode cL_in 1 = .ok (.iconst 0, 1) := by decide +kernel
theorem dL_in_2 : decode cL_in 2 = .ok (.aload_n 0, 1) := by decide +kernel
theorem dL_in_3 : decode cL_in 3 = .ok (.iload_n 1, 1) := by decide +kernel
theorem dL_in_4 : decode cL_in 4 = .ok (.iload_n 2, 1) := by decide +kernel
theorem dL_in_5 : decode cL_in 5 = .ok (.invokevirtual 31, 3) := by decide +kernel
theorem dL_in_8 : decode cL_in 8 = .ok (.i2l, 1) := by decide +kernel
theorem dL_in_9 : decode cL_in 9 = .ok (.lastore, 1) := by decide +kernel
theorem dL_in_10 : decode cL_in 10 = .ok (.goto 7, 3) := by decide +kernel
theorem dL_in_13 : decode cL_in 13 = .ok (.astore 4, 2) := by decide +kernel
theorem dL_in_15 : decode cL_in 15 = .ok (.iconst 1, 1) := by decide +kernel
theorem dL_in_16 : decode cL_in 16 = .ok (.ireturn, 1) := by decide +kernel
theorem dL_in_17 : decode cL_in 17 = .ok (.iconst 0, 1) := by decide +kernel
theorem dL_in_18 : decode cL_in 18 = .ok (.ireturn, 1) := by decide +kernel
theorem dL_held_0 : decode cL_held 0 = .ok (.aload_n 2, 1) := by decide +kernel
theorem dL_held_1 : decode cL_held 1 = .ok (.iconst 0, 1) := by decide +kernel
theorem dL_held_2 : decode cL_held 2 = .ok (.aload_n 0, 1) := by decide +kernel
theorem dL_held_3 : decode cL_held 3 = .ok (.iload_n 1, 1) := by decide +kernel
theorem dL_held_4 : decode cL_held 4 = .ok (.invokevirtual 34, 3) := by decide +kernel
theorem dL_held_7 : decode cL_held 7 = .ok (.i2l, 1) := by decide +kernel
theorem dL_held_8 : decode cL_held 8 = .ok (.lastore, 1) := by decide +kernel
theorem dL_held_9 : decode cL_held 9 = .ok (.goto 6, 3) := by decide +kernel
theorem dL_held_12 : decode cL_held 12 = .ok (.astore_n 3, 1) := by decide +kernel
theorem dL_held_13 : decode cL_held 13 = .ok (.iconst 1, 1) := by decide +kernel
theorem dL_held_14 : decode cL_held 14 = .ok (.ireturn, 1) := by decide +kernel
theorem dL_held_15 : decode cL_held 15 = .ok (.iconst 0, 1) := by decide +kernel
theorem dL_held_16 : decode cL_held 16 = .ok (.ireturn, 1) := by decide +kernel
theorem dL_giver_0 : decode cL_giver 0 = .ok (.aload_n 3, 1) := by decide +kernel
theorem dL_giver_1 : decode cL_giver 1 = .ok (.iconst 0, 1) := by decide +kernel
theorem dL_giver_2 : decode cL_giver 2 = .ok (.aload_n 0, 1) := by decide +kernel
theorem dL_giver_3 : decode cL_giver 3 = .ok (.iload_n 1, 1) := by decide +kernel
theorem dL_giver_4 : decode cL_giver 4 = .ok (.iload_n 2, 1) := by decide +kernel
theorem dL_giver_5 : decode cL_giver 5 = .ok (.invokevirtual 37, 3) := by decide +kernel
theorem dL_giver_8 : decode cL_giver 8 = .ok (.i2l, 1) := by decide +kernel
theorem dL_giver_9 : decode cL_giver 9 = .ok (.lastore, 1) := by decide +kernel
theorem dL_giver_10 : decode cL_giver 10 = .ok (.goto 11, 3) := by decide +kernel
theorem dL_giver_13 : decode cL_giver 13 = .ok (.astore 4, 2) := by decide +kernel
theorem dL_giver_15 : decode cL_giver 15 = .ok (.iconst 1, 1) := by decide +kernel
theorem dL_giver_16 : decode cL_giver 16 = .ok (.ireturn, 1) := by decide +kernel
theorem dL_giver_17 : decode cL_giver 17 = .ok (.astore 4, 2) := by decide +kernel
theorem dL_giver_19 : decode cL_giver 19 = .ok (.iconst 2, 1) := by decide +kernel
theorem dL_giver_20 : decode cL_giver 20 = .ok (.ireturn, 1) := by decide +kernel
theorem dL_giver_21 : decode cL_giver 21 = .ok (.iconst 0, 1) := by decide +kernel
theorem dL_giver_22 : decode cL_giver 22 = .ok (.ireturn, 1) := by decide +kernel
theorem dL_count_0 : decode cL_count 0 = .ok (.aload_n 2, 1) := by decide +kernel
theorem dL_count_1 : decode cL_count 1 = .ok (.iconst 0, 1) := by decide +kernel
theorem dL_count_2 : decode cL_count 2 = .ok (.aload_n 0, 1) := by decide +kernel
theorem dL_count_3 : decode cL_count 3 = .ok (.iload_n 1, 1) := by decide +kernel
theorem dL_count_4 : decode cL_count 4 = .ok (.invokevirtual 40, 3) := by decide +kernel
theorem dL_count_7 : decode cL_count 7 = .ok (.i2l, 1) := by decide +kernel
theorem dL_count_8 : decode cL_count 8 = .ok (.lastore, 1) := by decide +kernel
theorem dL_count_9 : decode cL_count 9 = .ok (.goto 6, 3) := by decide +kernel
theorem dL_count_12 : decode cL_count 12 = .ok (.astore_n 3, 1) := by decide +kernel
theorem dL_count_13 : decode cL_count 13 = .ok (.iconst 1, 1) := by decide +kernel
theorem dL_count_14 : decode cL_count 14 = .ok (.ireturn, 1) := by decide +kernel
theorem dL_count_15 : decode cL_count 15 = .ok (.iconst 0, 1) := by decide +kernel
theorem dL_count_16 : decode cL_count 16 = .ok (.ireturn, 1) := by decide +kernel
theorem dL_law_0 : decode cL_law 0 = .ok (.new 8, 3) := by decide +kernel
theorem dL_law_3 : decode cL_law 3 = .ok (.dup, 1) := by decide +kernel
theorem dL_law_4 : decode cL_law 4 = .ok (.invokespecial 43, 3) := by decide +kernel
theorem dL_law_7 : decode cL_law 7 = .ok (.astore_n 1, 1) := by decide +kernel
theorem dL_law_8 : decode cL_law 8 = .ok (.new 44, 3) := by decide +kernel
theorem dL_law_11 : decode cL_law 11 = .ok (.dup, 1) := by decide +kernel
theorem dL_law_12 : decode cL_law 12 = .ok (.invokespecial 46, 3) := by decide +kernel
theorem dL_law_15 : decode cL_law 15 = .ok (.astore_n 2, 1) := by decide +kernel
theorem dL_law_16 : decode cL_law 16 = .ok (.iconst 1, 1) := by decide +kernel
theorem dL_law_17 : decode cL_law 17 = .ok (.newarray .long, 2) := by decide +kernel
theorem dL_law_19 : decode cL_law 19 = .ok (.astore_n 3, 1) := by decide +kernel
theorem dL_law_20 : decode cL_law 20 = .ok (.iconst 0, 1) := by decide +kernel
theorem dL_law_21 : decode cL_law 21 = .ok (.istore 4, 2) := by decide +kernel
theorem dL_law_23 : decode cL_law 23 = .ok (.iload 4, 2) := by decide +kernel
theorem dL_law_25 : decode cL_law 25 = .ok (.aload_n 0, 1) := by decide +kernel
theorem dL_law_26 : decode cL_law 26 = .ok (.arraylength, 1) := by decide +kernel
theorem dL_law_27 : decode cL_law 27 = .ok (.bipush 9, 2) := by decide +kernel
theorem dL_law_29 : decode cL_law 29 = .ok (.isub, 1) := by decide +kernel
theorem dL_law_30 : decode cL_law 30 = .ok (.if_icmp .gt 758, 3) := by decide +kernel
theorem dL_law_33 : decode cL_law 33 = .ok (.aload_n 0, 1) := by decide +kernel
theorem dL_law_34 : decode cL_law 34 = .ok (.iload 4, 2) := by decide +kernel
theorem dL_law_36 : decode cL_law 36 = .ok (.iaload, 1) := by decide +kernel

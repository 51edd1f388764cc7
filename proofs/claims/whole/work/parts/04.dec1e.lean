theorem d1_from_76 : decode c1_from 76 = .ok (.iadd, 1) := by decide +kernel
theorem d1_from_77 : decode c1_from 77 = .ok (.ireturn, 1) := by decide +kernel
theorem d1_in_0 : decode c1_in 0 = .ok (.aload_n 0, 1) := by decide +kernel
theorem d1_in_1 : decode c1_in 1 = .ok (.iload_n 1, 1) := by decide +kernel
theorem d1_in_2 : decode c1_in 2 = .ok (.ifCond .lt 8, 3) := by decide +kernel
theorem d1_in_5 : decode c1_in 5 = .ok (.iload_n 1, 1) := by decide +kernel
theorem d1_in_6 : decode c1_in 6 = .ok (.iconst 4, 1) := by decide +kernel
theorem d1_in_7 : decode c1_in 7 = .ok (.if_icmp .le 7, 3) := by decide +kernel
theorem d1_in_10 : decode c1_in 10 = .ok (.iconst 1, 1) := by decide +kernel
theorem d1_in_11 : decode c1_in 11 = .ok (.goto 4, 3) := by decide +kernel
theorem d1_in_14 : decode c1_in 14 = .ok (.iconst 0, 1) := by decide +kernel
theorem d1_in_15 : decode c1_in 15 = .ok (.iconst 1, 1) := by decide +kernel
theorem d1_in_16 : decode c1_in 16 = .ok (.invokevirtual 58, 3) := by decide +kernel
theorem d1_in_19 : decode c1_in 19 = .ok (.ifCond .eq 5, 3) := by decide +kernel
theorem d1_in_22 : decode c1_in 22 = .ok (.iconst 0, 1) := by decide +kernel
theorem d1_in_23 : decode c1_in 23 = .ok (.ireturn, 1) := by decide +kernel
theorem d1_in_24 : decode c1_in 24 = .ok (.aload_n 0, 1) := by decide +kernel
theorem d1_in_25 : decode c1_in 25 = .ok (.invokevirtual 86, 3) := by decide +kernel
theorem d1_in_28 : decode c1_in 28 = .ok (.iconst 0, 1) := by decide +kernel
theorem d1_in_29 : decode c1_in 29 = .ok (.istore_n 3, 1) := by decide +kernel
theorem d1_in_30 : decode c1_in 30 = .ok (.iload_n 3, 1) := by decide +kernel
theorem d1_in_31 : decode c1_in 31 = .ok (.aload_n 0, 1) := by decide +kernel
theorem d1_in_32 : decode c1_in 32 = .ok (.getfield 62, 3) := by decide +kernel
theorem d1_in_35 : decode c1_in 35 = .ok (.if_icmp .ge 33, 3) := by decide +kernel
theorem d1_in_38 : decode c1_in 38 = .ok (.iload_n 2, 1) := by decide +kernel
theorem d1_in_39 : decode c1_in 39 = .ok (.aload_n 0, 1) := by decide +kernel
theorem d1_in_40 : decode c1_in 40 = .ok (.iload_n 3, 1) := by decide +kernel
theorem d1_in_41 : decode c1_in 41 = .ok (.iload_n 1, 1) := by decide +kernel
theorem d1_in_42 : decode c1_in 42 = .ok (.invokevirtual 89, 3) := by decide +kernel
theorem d1_in_45 : decode c1_in 45 = .ok (.if_icmp .lt 17, 3) := by decide +kernel
theorem d1_in_48 : decode c1_in 48 = .ok (.iload_n 2, 1) := by decide +kernel
theorem d1_in_49 : decode c1_in 49 = .ok (.aload_n 0, 1) := by decide +kernel
theorem d1_in_50 : decode c1_in 50 = .ok (.iload_n 3, 1) := by decide +kernel
theorem d1_in_51 : decode c1_in 51 = .ok (.iload_n 1, 1) := by decide +kernel
theorem d1_in_52 : decode c1_in 52 = .ok (.iconst 1, 1) := by decide +kernel
theorem d1_in_53 : decode c1_in 53 = .ok (.iadd, 1) := by decide +kernel
theorem d1_in_54 : decode c1_in 54 = .ok (.invokevirtual 89, 3) := by decide +kernel
theorem d1_in_57 : decode c1_in 57 = .ok (.if_icmp .ge 5, 3) := by decide +kernel
theorem d1_in_60 : decode c1_in 60 = .ok (.iload_n 3, 1) := by decide +kernel
theorem d1_in_61 : decode c1_in 61 = .ok (.ireturn, 1) := by decide +kernel
theorem d1_in_62 : decode c1_in 62 = .ok (.iinc 3 1, 3) := by decide +kernel
theorem d1_in_65 : decode c1_in 65 = .ok (.goto (-35), 3) := by decide +kernel
theorem d1_in_68 : decode c1_in 68 = .ok (.iconst (-1), 1) := by decide +kernel
theorem d1_in_69 : decode c1_in 69 = .ok (.ireturn, 1) := by decide +kernel
theorem d1_held_0 : decode c1_held 0 = .ok (.aload_n 0, 1) := by decide +kernel
theorem d1_held_1 : decode c1_held 1 = .ok (.iload_n 1, 1) := by decide +kernel
theorem d1_held_2 : decode c1_held 2 = .ok (.ifCond .lt 11, 3) := by decide +kernel
theorem d1_held_5 : decode c1_held 5 = .ok (.iload_n 1, 1) := by decide +kernel
theorem d1_held_6 : decode c1_held 6 = .ok (.aload_n 0, 1) := by decide +kernel
theorem d1_held_7 : decode c1_held 7 = .ok (.getfield 62, 3) := by decide +kernel
theorem d1_held_10 : decode c1_held 10 = .ok (.if_icmp .lt 7, 3) := by decide +kernel
theorem d1_held_13 : decode c1_held 13 = .ok (.iconst 1, 1) := by decide +kernel
theorem d1_held_14 : decode c1_held 14 = .ok (.goto 4, 3) := by decide +kernel
theorem d1_held_17 : decode c1_held 17 = .ok (.iconst 0, 1) := by decide +kernel
theorem d1_held_18 : decode c1_held 18 = .ok (.iconst 1, 1) := by decide +kernel
theorem d1_held_19 : decode c1_held 19 = .ok (.invokevirtual 58, 3) := by decide +kernel
theorem d1_held_22 : decode c1_held 22 = .ok (.ifCond .eq 5, 3) := by decide +kernel
theorem d1_held_25 : decode c1_held 25 = .ok (.iconst 0, 1) := by decide +kernel
theorem d1_held_26 : decode c1_held 26 = .ok (.ireturn, 1) := by decide +kernel
theorem d1_held_27 : decode c1_held 27 = .ok (.aload_n 0, 1) := by decide +kernel
theorem d1_held_28 : decode c1_held 28 = .ok (.invokevirtual 86, 3) := by decide +kernel
theorem d1_held_31 : decode c1_held 31 = .ok (.aload_n 0, 1) := by decide +kernel
theorem d1_held_32 : decode c1_held 32 = .ok (.getfield 38, 3) := by decide +kernel
theorem d1_held_35 : decode c1_held 35 = .ok (.iload_n 1, 1) := by decide +kernel
theorem d1_held_36 : decode c1_held 36 = .ok (.iaload, 1) := by decide +kernel
theorem d1_held_37 : decode c1_held 37 = .ok (.aload_n 0, 1) := by decide +kernel
theorem d1_held_38 : decode c1_held 38 = .ok (.getfield 35, 3) := by decide +kernel
theorem d1_held_41 : decode c1_held 41 = .ok (.iload_n 1, 1) := by decide +kernel
theorem d1_held_42 : decode c1_held 42 = .ok (.iaload, 1) := by decide +kernel
theorem d1_held_43 : decode c1_held 43 = .ok (.isub, 1) := by decide +kernel
theorem d1_held_44 : decode c1_held 44 = .ok (.iconst 1, 1) := by decide +kernel
theorem d1_held_45 : decode c1_held 45 = .ok (.isub, 1) := by decide +kernel
theorem d1_held_46 : decode c1_held 46 = .ok (.ireturn, 1) := by decide +kernel
theorem d1_giver_0 : decode c1_giver 0 = .ok (.aload_n 0, 1) := by decide +kernel
theorem d1_giver_1 : decode c1_giver 1 = .ok (.iload_n 2, 1) := by decide +kernel
theorem d1_giver_2 : decode c1_giver 2 = .ok (.iconst 1, 1) := by decide +kernel
theorem d1_giver_3 : decode c1_giver 3 = .ok (.if_icmp .lt 9, 3) := by decide +kernel
theorem d1_giver_6 : decode c1_giver 6 = .ok (.iload_n 2, 1) := by decide +kernel
theorem d1_giver_7 : decode c1_giver 7 = .ok (.bipush 15, 2) := by decide +kernel
theorem d1_giver_9 : decode c1_giver 9 = .ok (.if_icmp .le 7, 3) := by decide +kernel
theorem d1_giver_12 : decode c1_giver 12 = .ok (.iconst 1, 1) := by decide +kernel
theorem d1_giver_13 : decode c1_giver 13 = .ok (.goto 4, 3) := by decide +kernel
theorem d1_giver_16 : decode c1_giver 16 = .ok (.iconst 0, 1) := by decide +kernel
theorem d1_giver_17 : decode c1_giver 17 = .ok (.iconst 1, 1) := by decide +kernel
theorem d1_giver_18 : decode c1_giver 18 = .ok (.invokevirtual 58, 3) := by decide +kernel
theorem d1_giver_21 : decode c1_giver 21 = .ok (.ifCond .eq 5, 3) := by decide +kernel
theorem d1_giver_24 : decode c1_giver 24 = .ok (.iconst 0, 1) := by decide +kernel
theorem d1_giver_25 : decode c1_giver 25 = .ok (.ireturn, 1) := by decide +kernel
theorem d1_giver_26 : decode c1_giver 26 = .ok (.aload_n 0, 1) := by decide +kernel
theorem d1_giver_27 : decode c1_giver 27 = .ok (.iload_n 1, 1) := by decide +kernel
theorem d1_giver_28 : decode c1_giver 28 = .ok (.ifCond .lt 11, 3) := by decide +kernel
theorem d1_giver_31 : decode c1_giver 31 = .ok (.iload_n 1, 1) := by decide +kernel
theorem d1_giver_32 : decode c1_giver 32 = .ok (.aload_n 0, 1) := by decide +kernel
theorem d1_giver_33 : decode c1_giver 33 = .ok (.getfield 62, 3) := by decide +kernel
theorem d1_giver_36 : decode c1_giver 36 = .ok (.if_icmp .lt 7, 3) := by decide +kernel
theorem d1_giver_39 : decode c1_giver 39 = .ok (.iconst 1, 1) := by decide +kernel
theorem d1_giver_40 : decode c1_giver 40 = .ok (.goto 4, 3) := by decide +kernel
theorem d1_giver_43 : decode c1_giver 43 = .ok (.iconst 0, 1) := by decide +kernel
theorem d1_giver_44 : decode c1_giver 44 = .ok (.iconst 2, 1) := by decide +kernel
theorem d1_giver_45 : decode c1_giver 45 = .ok (.invokevirtual 58, 3) := by decide +kernel
theorem d1_giver_48 : decode c1_giver 48 = .ok (.ifCond .eq 5, 3) := by decide +kernel
theorem d1_giver_51 : decode c1_giver 51 = .ok (.iconst 0, 1) := by decide +kernel
theorem d1_giver_52 : decode c1_giver 52 = .ok (.ireturn, 1) := by decide +kernel
theorem d1_giver_53 : decode c1_giver 53 = .ok (.aload_n 0, 1) := by decide +kernel
theorem d1_giver_54 : decode c1_giver 54 = .ok (.iload_n 1, 1) := by decide +kernel
theorem d1_giver_55 : decode c1_giver 55 = .ok (.iload_n 2, 1) := by decide +kernel
theorem d1_giver_56 : decode c1_giver 56 = .ok (.invokevirtual 69, 3) := by decide +kernel
theorem d1_giver_59 : decode c1_giver 59 = .ok (.ireturn, 1) := by decide +kernel
theorem d1_count_0 : decode c1_count 0 = .ok (.aload_n 0, 1) := by decide +kernel
theorem d1_count_1 : decode c1_count 1 = .ok (.iload_n 1, 1) := by decide +kernel
theorem d1_count_2 : decode c1_count 2 = .ok (.ifCond .lt 8, 3) := by decide +kernel
theorem d1_count_5 : decode c1_count 5 = .ok (.iload_n 1, 1) := by decide +kernel
theorem d1_count_6 : decode c1_count 6 = .ok (.iconst 3, 1) := by decide +kernel
theorem d1_count_7 : decode c1_count 7 = .ok (.if_icmp .le 7, 3) := by decide +kernel
theorem d1_count_10 : decode c1_count 10 = .ok (.iconst 1, 1) := by decide +kernel
theorem d1_count_11 : decode c1_count 11 = .ok (.goto 4, 3) := by decide +kernel
theorem d1_count_14 : decode c1_count 14 = .ok (.iconst 0, 1) := by decide +kernel
theorem d1_count_15 : decode c1_count 15 = .ok (.iconst 1, 1) := by decide +kernel
theorem d1_count_16 : decode c1_count 16 = .ok (.invokevirtual 58, 3) := by decide +kernel
theorem d1_count_19 : decode c1_count 19 = .ok (.ifCond .eq 5, 3) := by decide +kernel
theorem d1_count_22 : decode c1_count 22 = .ok (.iconst 0, 1) := by decide +kernel
theorem d1_count_23 : decode c1_count 23 = .ok (.ireturn, 1) := by decide +kernel
theorem d1_count_24 : decode c1_count 24 = .ok (.aload_n 0, 1) := by decide +kernel
theorem d1_count_25 : decode c1_count 25 = .ok (.invokevirtual 86, 3) := by decide +kernel
theorem d1_count_28 : decode c1_count 28 = .ok (.iconst 0, 1) := by decide +kernel
theorem d1_count_29 : decode c1_count 29 = .ok (.istore_n 2, 1) := by decide +kernel
theorem d1_count_30 : decode c1_count 30 = .ok (.aload_n 0, 1) := by decide +kernel
theorem d1_count_31 : decode c1_count 31 = .ok (.getfield 62, 3) := by decide +kernel
theorem d1_count_34 : decode c1_count 34 = .ok (.ifCond .ne 7, 3) := by decide +kernel
theorem d1_count_37 : decode c1_count 37 = .ok (.iconst 0, 1) := by decide +kernel
theorem d1_count_38 : decode c1_count 38 = .ok (.goto 14, 3) := by decide +kernel
theorem d1_count_41 : decode c1_count 41 = .ok (.aload_n 0, 1) := by decide +kernel
theorem d1_count_42 : decode c1_count 42 = .ok (.getfield 44, 3) := by decide +kernel
theorem d1_count_45 : decode c1_count 45 = .ok (.aload_n 0, 1) := by decide +kernel
theorem d1_count_46 : decode c1_count 46 = .ok (.getfield 62, 3) := by decide +kernel
theorem d1_count_49 : decode c1_count 49 = .ok (.iconst 1, 1) := by decide +kernel
theorem d1_count_50 : decode c1_count 50 = .ok (.isub, 1) := by decide +kernel
theorem d1_count_51 : decode c1_count 51 = .ok (.iaload, 1) := by decide +kernel
theorem d1_count_52 : decode c1_count 52 = .ok (.istore_n 3, 1) := by decide +kernel
theorem d1_count_53 : decode c1_count 53 = .ok (.iload_n 1, 1) := by decide +kernel
theorem d1_count_54 : decode c1_count 54 = .ok (.ifCond .ne 8, 3) := by decide +kernel
theorem d1_count_57 : decode c1_count 57 = .ok (.aload_n 0, 1) := by decide +kernel
theorem d1_count_58 : decode c1_count 58 = .ok (.getfield 62, 3) := by decide +kernel
theorem d1_count_61 : decode c1_count 61 = .ok (.ireturn, 1) := by decide +kernel
theorem d1_count_62 : decode c1_count 62 = .ok (.iload_n 1, 1) := by decide +kernel
theorem d1_count_63 : decode c1_count 63 = .ok (.iconst 1, 1) := by decide +kernel
theorem d1_count_64 : decode c1_count 64 = .ok (.if_icmp .ne 5, 3) := by decide +kernel
theorem d1_count_67 : decode c1_count 67 = .ok (.iload_n 3, 1) := by decide +kernel
theorem d1_count_68 : decode c1_count 68 = .ok (.ireturn, 1) := by decide +kernel
theorem d1_count_69 : decode c1_count 69 = .ok (.iload_n 1, 1) := by decide +kernel

theorem d1_add_43 : decode c1_add 43 = .ok (.ireturn, 1) := by decide +kernel
theorem d1_add_44 : decode c1_add 44 = .ok (.aload_n 0, 1) := by decide +kernel
theorem d1_add_45 : decode c1_add 45 = .ok (.aload_n 0, 1) := by decide +kernel
theorem d1_add_46 : decode c1_add 46 = .ok (.dup, 1) := by decide +kernel
theorem d1_add_47 : decode c1_add 47 = .ok (.getfield 62, 3) := by decide +kernel
theorem d1_add_50 : decode c1_add 50 = .ok (.dup_x1, 1) := by decide +kernel
theorem d1_add_51 : decode c1_add 51 = .ok (.iconst 1, 1) := by decide +kernel
theorem d1_add_52 : decode c1_add 52 = .ok (.iadd, 1) := by decide +kernel
theorem d1_add_53 : decode c1_add 53 = .ok (.putfield 62, 3) := by decide +kernel
theorem d1_add_56 : decode c1_add 56 = .ok (.iload_n 1, 1) := by decide +kernel
theorem d1_add_57 : decode c1_add 57 = .ok (.iload_n 2, 1) := by decide +kernel
theorem d1_add_58 : decode c1_add 58 = .ok (.iload_n 3, 1) := by decide +kernel
theorem d1_add_59 : decode c1_add 59 = .ok (.iload 4, 2) := by decide +kernel
theorem d1_add_61 : decode c1_add 61 = .ok (.iload 5, 2) := by decide +kernel
theorem d1_add_63 : decode c1_add 63 = .ok (.iload 6, 2) := by decide +kernel
theorem d1_add_65 : decode c1_add 65 = .ok (.iload 7, 2) := by decide +kernel
theorem d1_add_67 : decode c1_add 67 = .ok (.invokevirtual 65, 3) := by decide +kernel
theorem d1_add_70 : decode c1_add 70 = .ok (.aload_n 0, 1) := by decide +kernel
theorem d1_add_71 : decode c1_add 71 = .ok (.getfield 62, 3) := by decide +kernel
theorem d1_add_74 : decode c1_add 74 = .ok (.iconst 1, 1) := by decide +kernel
theorem d1_add_75 : decode c1_add 75 = .ok (.isub, 1) := by decide +kernel
theorem d1_add_76 : decode c1_add 76 = .ok (.ireturn, 1) := by decide +kernel
theorem d1_change_0 : decode c1_change 0 = .ok (.aload_n 0, 1) := by decide +kernel
theorem d1_change_1 : decode c1_change 1 = .ok (.iload_n 2, 1) := by decide +kernel
theorem d1_change_2 : decode c1_change 2 = .ok (.iload_n 3, 1) := by decide +kernel
theorem d1_change_3 : decode c1_change 3 = .ok (.iload 5, 2) := by decide +kernel
theorem d1_change_5 : decode c1_change 5 = .ok (.iload 7, 2) := by decide +kernel
theorem d1_change_7 : decode c1_change 7 = .ok (.invokestatic 54, 3) := by decide +kernel
theorem d1_change_10 : decode c1_change 10 = .ok (.iconst 1, 1) := by decide +kernel
theorem d1_change_11 : decode c1_change 11 = .ok (.invokevirtual 58, 3) := by decide +kernel
theorem d1_change_14 : decode c1_change 14 = .ok (.ifCond .eq 4, 3) := by decide +kernel
theorem d1_change_17 : decode c1_change 17 = .ok (.return_, 1) := by decide +kernel
theorem d1_change_18 : decode c1_change 18 = .ok (.aload_n 0, 1) := by decide +kernel
theorem d1_change_19 : decode c1_change 19 = .ok (.iload_n 1, 1) := by decide +kernel
theorem d1_change_20 : decode c1_change 20 = .ok (.ifCond .lt 11, 3) := by decide +kernel
theorem d1_change_23 : decode c1_change 23 = .ok (.iload_n 1, 1) := by decide +kernel
theorem d1_change_24 : decode c1_change 24 = .ok (.aload_n 0, 1) := by decide +kernel
theorem d1_change_25 : decode c1_change 25 = .ok (.getfield 62, 3) := by decide +kernel
theorem d1_change_28 : decode c1_change 28 = .ok (.if_icmp .lt 7, 3) := by decide +kernel
theorem d1_change_31 : decode c1_change 31 = .ok (.iconst 1, 1) := by decide +kernel
theorem d1_change_32 : decode c1_change 32 = .ok (.goto 4, 3) := by decide +kernel
theorem d1_change_35 : decode c1_change 35 = .ok (.iconst 0, 1) := by decide +kernel
theorem d1_change_36 : decode c1_change 36 = .ok (.iconst 2, 1) := by decide +kernel
theorem d1_change_37 : decode c1_change 37 = .ok (.invokevirtual 58, 3) := by decide +kernel
theorem d1_change_40 : decode c1_change 40 = .ok (.ifCond .eq 4, 3) := by decide +kernel
theorem d1_change_43 : decode c1_change 43 = .ok (.return_, 1) := by decide +kernel
theorem d1_change_44 : decode c1_change 44 = .ok (.aload_n 0, 1) := by decide +kernel
theorem d1_change_45 : decode c1_change 45 = .ok (.iload_n 1, 1) := by decide +kernel
theorem d1_change_46 : decode c1_change 46 = .ok (.iload_n 2, 1) := by decide +kernel
theorem d1_change_47 : decode c1_change 47 = .ok (.iload_n 3, 1) := by decide +kernel
theorem d1_change_48 : decode c1_change 48 = .ok (.iload 4, 2) := by decide +kernel
theorem d1_change_50 : decode c1_change 50 = .ok (.iload 5, 2) := by decide +kernel
theorem d1_change_52 : decode c1_change 52 = .ok (.iload 6, 2) := by decide +kernel
theorem d1_change_54 : decode c1_change 54 = .ok (.iload 7, 2) := by decide +kernel
theorem d1_change_56 : decode c1_change 56 = .ok (.iload 8, 2) := by decide +kernel
theorem d1_change_58 : decode c1_change 58 = .ok (.invokevirtual 65, 3) := by decide +kernel
theorem d1_change_61 : decode c1_change 61 = .ok (.return_, 1) := by decide +kernel
theorem d1_cut_0 : decode c1_cut 0 = .ok (.aload_n 0, 1) := by decide +kernel
theorem d1_cut_1 : decode c1_cut 1 = .ok (.iload_n 1, 1) := by decide +kernel
theorem d1_cut_2 : decode c1_cut 2 = .ok (.ifCond .lt 11, 3) := by decide +kernel
theorem d1_cut_5 : decode c1_cut 5 = .ok (.iload_n 1, 1) := by decide +kernel
theorem d1_cut_6 : decode c1_cut 6 = .ok (.aload_n 0, 1) := by decide +kernel
theorem d1_cut_7 : decode c1_cut 7 = .ok (.getfield 62, 3) := by decide +kernel
theorem d1_cut_10 : decode c1_cut 10 = .ok (.if_icmp .le 7, 3) := by decide +kernel
theorem d1_cut_13 : decode c1_cut 13 = .ok (.iconst 1, 1) := by decide +kernel
theorem d1_cut_14 : decode c1_cut 14 = .ok (.goto 4, 3) := by decide +kernel
theorem d1_cut_17 : decode c1_cut 17 = .ok (.iconst 0, 1) := by decide +kernel
theorem d1_cut_18 : decode c1_cut 18 = .ok (.iconst 1, 1) := by decide +kernel
theorem d1_cut_19 : decode c1_cut 19 = .ok (.invokevirtual 58, 3) := by decide +kernel
theorem d1_cut_22 : decode c1_cut 22 = .ok (.ifCond .eq 5, 3) := by decide +kernel
theorem d1_cut_25 : decode c1_cut 25 = .ok (.iconst 0, 1) := by decide +kernel
theorem d1_cut_26 : decode c1_cut 26 = .ok (.ireturn, 1) := by decide +kernel
theorem d1_cut_27 : decode c1_cut 27 = .ok (.aload_n 0, 1) := by decide +kernel
theorem d1_cut_28 : decode c1_cut 28 = .ok (.getfield 62, 3) := by decide +kernel
theorem d1_cut_31 : decode c1_cut 31 = .ok (.istore_n 2, 1) := by decide +kernel
theorem d1_cut_32 : decode c1_cut 32 = .ok (.aload_n 0, 1) := by decide +kernel
theorem d1_cut_33 : decode c1_cut 33 = .ok (.iload_n 1, 1) := by decide +kernel
theorem d1_cut_34 : decode c1_cut 34 = .ok (.putfield 62, 3) := by decide +kernel
theorem d1_cut_37 : decode c1_cut 37 = .ok (.aload_n 0, 1) := by decide +kernel
theorem d1_cut_38 : decode c1_cut 38 = .ok (.iconst 0, 1) := by decide +kernel
theorem d1_cut_39 : decode c1_cut 39 = .ok (.putfield 51, 3) := by decide +kernel
theorem d1_cut_42 : decode c1_cut 42 = .ok (.iload_n 2, 1) := by decide +kernel
theorem d1_cut_43 : decode c1_cut 43 = .ok (.ireturn, 1) := by decide +kernel
theorem d1_before_0 : decode c1_before 0 = .ok (.iload_n 1, 1) := by decide +kernel
theorem d1_before_1 : decode c1_before 1 = .ok (.iconst 1, 1) := by decide +kernel
theorem d1_before_2 : decode c1_before 2 = .ok (.isub, 1) := by decide +kernel
theorem d1_before_3 : decode c1_before 3 = .ok (.istore_n 3, 1) := by decide +kernel
theorem d1_before_4 : decode c1_before 4 = .ok (.iload_n 3, 1) := by decide +kernel
theorem d1_before_5 : decode c1_before 5 = .ok (.ifCond .lt 19, 3) := by decide +kernel
theorem d1_before_8 : decode c1_before 8 = .ok (.aload_n 0, 1) := by decide +kernel
theorem d1_before_9 : decode c1_before 9 = .ok (.getfield 13, 3) := by decide +kernel
theorem d1_before_12 : decode c1_before 12 = .ok (.iload_n 3, 1) := by decide +kernel
theorem d1_before_13 : decode c1_before 13 = .ok (.iaload, 1) := by decide +kernel
theorem d1_before_14 : decode c1_before 14 = .ok (.iload_n 2, 1) := by decide +kernel
theorem d1_before_15 : decode c1_before 15 = .ok (.if_icmp .eq 9, 3) := by decide +kernel
theorem d1_before_18 : decode c1_before 18 = .ok (.iinc 3 (-1), 3) := by decide +kernel
theorem d1_before_21 : decode c1_before 21 = .ok (.goto (-17), 3) := by decide +kernel
theorem d1_before_24 : decode c1_before 24 = .ok (.iload_n 3, 1) := by decide +kernel
theorem d1_before_25 : decode c1_before 25 = .ok (.ireturn, 1) := by decide +kernel
theorem d1_xe_0 : decode c1_xe 0 = .ok (.aload_n 0, 1) := by decide +kernel
theorem d1_xe_1 : decode c1_xe 1 = .ok (.getfield 38, 3) := by decide +kernel
theorem d1_xe_4 : decode c1_xe 4 = .ok (.iload_n 1, 1) := by decide +kernel
theorem d1_xe_5 : decode c1_xe 5 = .ok (.iaload, 1) := by decide +kernel
theorem d1_xe_6 : decode c1_xe 6 = .ok (.aload_n 0, 1) := by decide +kernel
theorem d1_xe_7 : decode c1_xe 7 = .ok (.getfield 7, 3) := by decide +kernel
theorem d1_xe_10 : decode c1_xe 10 = .ok (.iload_n 1, 1) := by decide +kernel
theorem d1_xe_11 : decode c1_xe 11 = .ok (.iaload, 1) := by decide +kernel
theorem d1_xe_12 : decode c1_xe 12 = .ok (.iadd, 1) := by decide +kernel
theorem d1_xe_13 : decode c1_xe 13 = .ok (.iconst 1, 1) := by decide +kernel
theorem d1_xe_14 : decode c1_xe 14 = .ok (.isub, 1) := by decide +kernel
theorem d1_xe_15 : decode c1_xe 15 = .ok (.ireturn, 1) := by decide +kernel
theorem d1_me_0 : decode c1_me 0 = .ok (.aload_n 0, 1) := by decide +kernel
theorem d1_me_1 : decode c1_me 1 = .ok (.getfield 41, 3) := by decide +kernel
theorem d1_me_4 : decode c1_me 4 = .ok (.iload_n 1, 1) := by decide +kernel
theorem d1_me_5 : decode c1_me 5 = .ok (.iaload, 1) := by decide +kernel
theorem d1_me_6 : decode c1_me 6 = .ok (.aload_n 0, 1) := by decide +kernel
theorem d1_me_7 : decode c1_me 7 = .ok (.getfield 22, 3) := by decide +kernel
theorem d1_me_10 : decode c1_me 10 = .ok (.iload_n 1, 1) := by decide +kernel
theorem d1_me_11 : decode c1_me 11 = .ok (.iaload, 1) := by decide +kernel
theorem d1_me_12 : decode c1_me 12 = .ok (.iadd, 1) := by decide +kernel
theorem d1_me_13 : decode c1_me 13 = .ok (.ireturn, 1) := by decide +kernel
theorem d1_behind_0 : decode c1_behind 0 = .ok (.aload_n 0, 1) := by decide +kernel
theorem d1_behind_1 : decode c1_behind 1 = .ok (.iload_n 1, 1) := by decide +kernel
theorem d1_behind_2 : decode c1_behind 2 = .ok (.iload_n 2, 1) := by decide +kernel
theorem d1_behind_3 : decode c1_behind 3 = .ok (.invokevirtual 69, 3) := by decide +kernel
theorem d1_behind_6 : decode c1_behind 6 = .ok (.istore_n 3, 1) := by decide +kernel
theorem d1_behind_7 : decode c1_behind 7 = .ok (.iload_n 3, 1) := by decide +kernel
theorem d1_behind_8 : decode c1_behind 8 = .ok (.ifCond .ge 7, 3) := by decide +kernel
theorem d1_behind_11 : decode c1_behind 11 = .ok (.iconst 0, 1) := by decide +kernel
theorem d1_behind_12 : decode c1_behind 12 = .ok (.goto 27, 3) := by decide +kernel
theorem d1_behind_15 : decode c1_behind 15 = .ok (.aload_n 0, 1) := by decide +kernel
theorem d1_behind_16 : decode c1_behind 16 = .ok (.getfield 25, 3) := by decide +kernel
theorem d1_behind_19 : decode c1_behind 19 = .ok (.iload_n 3, 1) := by decide +kernel
theorem d1_behind_20 : decode c1_behind 20 = .ok (.baload, 1) := by decide +kernel
theorem d1_behind_21 : decode c1_behind 21 = .ok (.ifCond .eq 11, 3) := by decide +kernel
theorem d1_behind_24 : decode c1_behind 24 = .ok (.aload_n 0, 1) := by decide +kernel
theorem d1_behind_25 : decode c1_behind 25 = .ok (.iload_n 3, 1) := by decide +kernel
theorem d1_behind_26 : decode c1_behind 26 = .ok (.invokevirtual 73, 3) := by decide +kernel
theorem d1_behind_29 : decode c1_behind 29 = .ok (.goto 8, 3) := by decide +kernel
theorem d1_behind_32 : decode c1_behind 32 = .ok (.aload_n 0, 1) := by decide +kernel
theorem d1_behind_33 : decode c1_behind 33 = .ok (.iload_n 3, 1) := by decide +kernel
theorem d1_behind_34 : decode c1_behind 34 = .ok (.invokevirtual 77, 3) := by decide +kernel
theorem d1_behind_37 : decode c1_behind 37 = .ok (.iconst 1, 1) := by decide +kernel
theorem d1_behind_38 : decode c1_behind 38 = .ok (.iadd, 1) := by decide +kernel
theorem d1_behind_39 : decode c1_behind 39 = .ok (.ireturn, 1) := by decide +kernel
theorem d1_more_0 : decode c1_more 0 = .ok (.iload_n 0, 1) := by decide +kernel
theorem d1_more_1 : decode c1_more 1 = .ok (.iload_n 1, 1) := by decide +kernel
theorem d1_more_2 : decode c1_more 2 = .ok (.if_icmp .le 7, 3) := by decide +kernel
theorem d1_more_5 : decode c1_more 5 = .ok (.iload_n 0, 1) := by decide +kernel
theorem d1_more_6 : decode c1_more 6 = .ok (.goto 4, 3) := by decide +kernel

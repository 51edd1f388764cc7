theorem d1_init_0 : decode c1_init 0 = .ok (.aload_n 0, 1) := by decide +kernel
theorem d1_init_1 : decode c1_init 1 = .ok (.invokespecial 1, 3) := by decide +kernel
theorem d1_init_4 : decode c1_init 4 = .ok (.aload_n 0, 1) := by decide +kernel
theorem d1_init_5 : decode c1_init 5 = .ok (.sipush 200, 3) := by decide +kernel
theorem d1_init_8 : decode c1_init 8 = .ok (.newarray .int, 2) := by decide +kernel
theorem d1_init_10 : decode c1_init 10 = .ok (.putfield 7, 3) := by decide +kernel
theorem d1_init_13 : decode c1_init 13 = .ok (.aload_n 0, 1) := by decide +kernel
theorem d1_init_14 : decode c1_init 14 = .ok (.sipush 200, 3) := by decide +kernel
theorem d1_init_17 : decode c1_init 17 = .ok (.newarray .int, 2) := by decide +kernel
theorem d1_init_19 : decode c1_init 19 = .ok (.putfield 13, 3) := by decide +kernel
theorem d1_init_22 : decode c1_init 22 = .ok (.aload_n 0, 1) := by decide +kernel
theorem d1_init_23 : decode c1_init 23 = .ok (.sipush 200, 3) := by decide +kernel
theorem d1_init_26 : decode c1_init 26 = .ok (.newarray .int, 2) := by decide +kernel
theorem d1_init_28 : decode c1_init 28 = .ok (.putfield 16, 3) := by decide +kernel
theorem d1_init_31 : decode c1_init 31 = .ok (.aload_n 0, 1) := by decide +kernel
theorem d1_init_32 : decode c1_init 32 = .ok (.sipush 200, 3) := by decide +kernel
theorem d1_init_35 : decode c1_init 35 = .ok (.newarray .int, 2) := by decide +kernel
theorem d1_init_37 : decode c1_init 37 = .ok (.putfield 19, 3) := by decide +kernel
theorem d1_init_40 : decode c1_init 40 = .ok (.aload_n 0, 1) := by decide +kernel
theorem d1_init_41 : decode c1_init 41 = .ok (.sipush 200, 3) := by decide +kernel
theorem d1_init_44 : decode c1_init 44 = .ok (.newarray .int, 2) := by decide +kernel
theorem d1_init_46 : decode c1_init 46 = .ok (.putfield 22, 3) := by decide +kernel
theorem d1_init_49 : decode c1_init 49 = .ok (.aload_n 0, 1) := by decide +kernel
theorem d1_init_50 : decode c1_init 50 = .ok (.sipush 200, 3) := by decide +kernel
theorem d1_init_53 : decode c1_init 53 = .ok (.newarray .boolean, 2) := by decide +kernel
theorem d1_init_55 : decode c1_init 55 = .ok (.putfield 25, 3) := by decide +kernel
theorem d1_init_58 : decode c1_init 58 = .ok (.aload_n 0, 1) := by decide +kernel
theorem d1_init_59 : decode c1_init 59 = .ok (.sipush 200, 3) := by decide +kernel
theorem d1_init_62 : decode c1_init 62 = .ok (.newarray .boolean, 2) := by decide +kernel
theorem d1_init_64 : decode c1_init 64 = .ok (.putfield 29, 3) := by decide +kernel
theorem d1_init_67 : decode c1_init 67 = .ok (.aload_n 0, 1) := by decide +kernel
theorem d1_init_68 : decode c1_init 68 = .ok (.sipush 200, 3) := by decide +kernel
theorem d1_init_71 : decode c1_init 71 = .ok (.newarray .int, 2) := by decide +kernel
theorem d1_init_73 : decode c1_init 73 = .ok (.putfield 32, 3) := by decide +kernel
theorem d1_init_76 : decode c1_init 76 = .ok (.aload_n 0, 1) := by decide +kernel
theorem d1_init_77 : decode c1_init 77 = .ok (.sipush 200, 3) := by decide +kernel
theorem d1_init_80 : decode c1_init 80 = .ok (.newarray .int, 2) := by decide +kernel
theorem d1_init_82 : decode c1_init 82 = .ok (.putfield 35, 3) := by decide +kernel
theorem d1_init_85 : decode c1_init 85 = .ok (.aload_n 0, 1) := by decide +kernel
theorem d1_init_86 : decode c1_init 86 = .ok (.sipush 200, 3) := by decide +kernel
theorem d1_init_89 : decode c1_init 89 = .ok (.newarray .int, 2) := by decide +kernel
theorem d1_init_91 : decode c1_init 91 = .ok (.putfield 38, 3) := by decide +kernel
theorem d1_init_94 : decode c1_init 94 = .ok (.aload_n 0, 1) := by decide +kernel
theorem d1_init_95 : decode c1_init 95 = .ok (.sipush 200, 3) := by decide +kernel
theorem d1_init_98 : decode c1_init 98 = .ok (.newarray .int, 2) := by decide +kernel
theorem d1_init_100 : decode c1_init 100 = .ok (.putfield 41, 3) := by decide +kernel
theorem d1_init_103 : decode c1_init 103 = .ok (.aload_n 0, 1) := by decide +kernel
theorem d1_init_104 : decode c1_init 104 = .ok (.sipush 200, 3) := by decide +kernel
theorem d1_init_107 : decode c1_init 107 = .ok (.newarray .int, 2) := by decide +kernel
theorem d1_init_109 : decode c1_init 109 = .ok (.putfield 44, 3) := by decide +kernel
theorem d1_init_112 : decode c1_init 112 = .ok (.return_, 1) := by decide +kernel
theorem d1_thrown_0 : decode c1_thrown 0 = .ok (.aload_n 0, 1) := by decide +kernel
theorem d1_thrown_1 : decode c1_thrown 1 = .ok (.getfield 47, 3) := by decide +kernel
theorem d1_thrown_4 : decode c1_thrown 4 = .ok (.ireturn, 1) := by decide +kernel
theorem d1_fails_0 : decode c1_fails 0 = .ok (.aload_n 0, 1) := by decide +kernel
theorem d1_fails_1 : decode c1_fails 1 = .ok (.iload_n 1, 1) := by decide +kernel
theorem d1_fails_2 : decode c1_fails 2 = .ok (.ifCond .eq 7, 3) := by decide +kernel
theorem d1_fails_5 : decode c1_fails 5 = .ok (.iload_n 2, 1) := by decide +kernel
theorem d1_fails_6 : decode c1_fails 6 = .ok (.goto 4, 3) := by decide +kernel
theorem d1_fails_9 : decode c1_fails 9 = .ok (.iconst 0, 1) := by decide +kernel
theorem d1_fails_10 : decode c1_fails 10 = .ok (.putfield 47, 3) := by decide +kernel
theorem d1_fails_13 : decode c1_fails 13 = .ok (.iload_n 1, 1) := by decide +kernel
theorem d1_fails_14 : decode c1_fails 14 = .ok (.ireturn, 1) := by decide +kernel
theorem d1_bad_0 : decode c1_bad 0 = .ok (.iload_n 0, 1) := by decide +kernel
theorem d1_bad_1 : decode c1_bad 1 = .ok (.iconst 1, 1) := by decide +kernel
theorem d1_bad_2 : decode c1_bad 2 = .ok (.if_icmp .lt 39, 3) := by decide +kernel
theorem d1_bad_5 : decode c1_bad 5 = .ok (.iload_n 0, 1) := by decide +kernel
theorem d1_bad_6 : decode c1_bad 6 = .ok (.bipush 12, 2) := by decide +kernel
theorem d1_bad_8 : decode c1_bad 8 = .ok (.if_icmp .gt 33, 3) := by decide +kernel
theorem d1_bad_11 : decode c1_bad 11 = .ok (.iload_n 1, 1) := by decide +kernel
theorem d1_bad_12 : decode c1_bad 12 = .ok (.ifCond .lt 29, 3) := by decide +kernel
theorem d1_bad_15 : decode c1_bad 15 = .ok (.iload_n 1, 1) := by decide +kernel
theorem d1_bad_16 : decode c1_bad 16 = .ok (.bipush 15, 2) := by decide +kernel
theorem d1_bad_18 : decode c1_bad 18 = .ok (.if_icmp .gt 23, 3) := by decide +kernel
theorem d1_bad_21 : decode c1_bad 21 = .ok (.iload_n 2, 1) := by decide +kernel
theorem d1_bad_22 : decode c1_bad 22 = .ok (.ifCond .lt 19, 3) := by decide +kernel
theorem d1_bad_25 : decode c1_bad 25 = .ok (.iload_n 2, 1) := by decide +kernel
theorem d1_bad_26 : decode c1_bad 26 = .ok (.bipush 15, 2) := by decide +kernel
theorem d1_bad_28 : decode c1_bad 28 = .ok (.if_icmp .gt 13, 3) := by decide +kernel
theorem d1_bad_31 : decode c1_bad 31 = .ok (.iload_n 3, 1) := by decide +kernel
theorem d1_bad_32 : decode c1_bad 32 = .ok (.ifCond .lt 9, 3) := by decide +kernel
theorem d1_bad_35 : decode c1_bad 35 = .ok (.iload_n 3, 1) := by decide +kernel
theorem d1_bad_36 : decode c1_bad 36 = .ok (.bipush 8, 2) := by decide +kernel
theorem d1_bad_38 : decode c1_bad 38 = .ok (.if_icmp .le 7, 3) := by decide +kernel
theorem d1_bad_41 : decode c1_bad 41 = .ok (.iconst 1, 1) := by decide +kernel
theorem d1_bad_42 : decode c1_bad 42 = .ok (.goto 4, 3) := by decide +kernel
theorem d1_bad_45 : decode c1_bad 45 = .ok (.iconst 0, 1) := by decide +kernel
theorem d1_bad_46 : decode c1_bad 46 = .ok (.ireturn, 1) := by decide +kernel
theorem d1_give_0 : decode c1_give 0 = .ok (.aload_n 0, 1) := by decide +kernel
theorem d1_give_1 : decode c1_give 1 = .ok (.getfield 7, 3) := by decide +kernel
theorem d1_give_4 : decode c1_give 4 = .ok (.iload_n 1, 1) := by decide +kernel
theorem d1_give_5 : decode c1_give 5 = .ok (.iload_n 2, 1) := by decide +kernel
theorem d1_give_6 : decode c1_give 6 = .ok (.iastore, 1) := by decide +kernel
theorem d1_give_7 : decode c1_give 7 = .ok (.aload_n 0, 1) := by decide +kernel
theorem d1_give_8 : decode c1_give 8 = .ok (.getfield 13, 3) := by decide +kernel
theorem d1_give_11 : decode c1_give 11 = .ok (.iload_n 1, 1) := by decide +kernel
theorem d1_give_12 : decode c1_give 12 = .ok (.iload_n 3, 1) := by decide +kernel
theorem d1_give_13 : decode c1_give 13 = .ok (.iastore, 1) := by decide +kernel
theorem d1_give_14 : decode c1_give 14 = .ok (.aload_n 0, 1) := by decide +kernel
theorem d1_give_15 : decode c1_give 15 = .ok (.getfield 16, 3) := by decide +kernel
theorem d1_give_18 : decode c1_give 18 = .ok (.iload_n 1, 1) := by decide +kernel
theorem d1_give_19 : decode c1_give 19 = .ok (.iload 4, 2) := by decide +kernel
theorem d1_give_21 : decode c1_give 21 = .ok (.iastore, 1) := by decide +kernel
theorem d1_give_22 : decode c1_give 22 = .ok (.aload_n 0, 1) := by decide +kernel
theorem d1_give_23 : decode c1_give 23 = .ok (.getfield 19, 3) := by decide +kernel
theorem d1_give_26 : decode c1_give 26 = .ok (.iload_n 1, 1) := by decide +kernel
theorem d1_give_27 : decode c1_give 27 = .ok (.iload 5, 2) := by decide +kernel
theorem d1_give_29 : decode c1_give 29 = .ok (.iastore, 1) := by decide +kernel
theorem d1_give_30 : decode c1_give 30 = .ok (.aload_n 0, 1) := by decide +kernel
theorem d1_give_31 : decode c1_give 31 = .ok (.getfield 25, 3) := by decide +kernel
theorem d1_give_34 : decode c1_give 34 = .ok (.iload_n 1, 1) := by decide +kernel
theorem d1_give_35 : decode c1_give 35 = .ok (.iload 6, 2) := by decide +kernel
theorem d1_give_37 : decode c1_give 37 = .ok (.bastore, 1) := by decide +kernel
theorem d1_give_38 : decode c1_give 38 = .ok (.aload_n 0, 1) := by decide +kernel
theorem d1_give_39 : decode c1_give 39 = .ok (.getfield 22, 3) := by decide +kernel
theorem d1_give_42 : decode c1_give 42 = .ok (.iload_n 1, 1) := by decide +kernel
theorem d1_give_43 : decode c1_give 43 = .ok (.iload 7, 2) := by decide +kernel
theorem d1_give_45 : decode c1_give 45 = .ok (.iastore, 1) := by decide +kernel
theorem d1_give_46 : decode c1_give 46 = .ok (.aload_n 0, 1) := by decide +kernel
theorem d1_give_47 : decode c1_give 47 = .ok (.getfield 29, 3) := by decide +kernel
theorem d1_give_50 : decode c1_give 50 = .ok (.iload_n 1, 1) := by decide +kernel
theorem d1_give_51 : decode c1_give 51 = .ok (.iload 8, 2) := by decide +kernel
theorem d1_give_53 : decode c1_give 53 = .ok (.bastore, 1) := by decide +kernel
theorem d1_give_54 : decode c1_give 54 = .ok (.aload_n 0, 1) := by decide +kernel
theorem d1_give_55 : decode c1_give 55 = .ok (.iconst 0, 1) := by decide +kernel
theorem d1_give_56 : decode c1_give 56 = .ok (.putfield 51, 3) := by decide +kernel
theorem d1_give_59 : decode c1_give 59 = .ok (.return_, 1) := by decide +kernel
theorem d1_add_0 : decode c1_add 0 = .ok (.aload_n 0, 1) := by decide +kernel
theorem d1_add_1 : decode c1_add 1 = .ok (.iload_n 1, 1) := by decide +kernel
theorem d1_add_2 : decode c1_add 2 = .ok (.iload_n 2, 1) := by decide +kernel
theorem d1_add_3 : decode c1_add 3 = .ok (.iload 4, 2) := by decide +kernel
theorem d1_add_5 : decode c1_add 5 = .ok (.iload 6, 2) := by decide +kernel
theorem d1_add_7 : decode c1_add 7 = .ok (.invokestatic 54, 3) := by decide +kernel
theorem d1_add_10 : decode c1_add 10 = .ok (.iconst 1, 1) := by decide +kernel
theorem d1_add_11 : decode c1_add 11 = .ok (.invokevirtual 58, 3) := by decide +kernel
theorem d1_add_14 : decode c1_add 14 = .ok (.ifCond .eq 5, 3) := by decide +kernel
theorem d1_add_17 : decode c1_add 17 = .ok (.iconst 0, 1) := by decide +kernel
theorem d1_add_18 : decode c1_add 18 = .ok (.ireturn, 1) := by decide +kernel
theorem d1_add_19 : decode c1_add 19 = .ok (.aload_n 0, 1) := by decide +kernel
theorem d1_add_20 : decode c1_add 20 = .ok (.aload_n 0, 1) := by decide +kernel
theorem d1_add_21 : decode c1_add 21 = .ok (.getfield 62, 3) := by decide +kernel
theorem d1_add_24 : decode c1_add 24 = .ok (.sipush 200, 3) := by decide +kernel
theorem d1_add_27 : decode c1_add 27 = .ok (.if_icmp .ne 7, 3) := by decide +kernel
theorem d1_add_30 : decode c1_add 30 = .ok (.iconst 1, 1) := by decide +kernel
theorem d1_add_31 : decode c1_add 31 = .ok (.goto 4, 3) := by decide +kernel
theorem d1_add_34 : decode c1_add 34 = .ok (.iconst 0, 1) := by decide +kernel
theorem d1_add_35 : decode c1_add 35 = .ok (.iconst 2, 1) := by decide +kernel
theorem d1_add_36 : decode c1_add 36 = .ok (.invokevirtual 58, 3) := by decide +kernel
theorem d1_add_39 : decode c1_add 39 = .ok (.ifCond .eq 5, 3) := by decide +kernel
theorem d1_add_42 : decode c1_add 42 = .ok (.iconst 0, 1) := by decide +kernel

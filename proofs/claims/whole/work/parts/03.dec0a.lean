theorem d0_init_0 : decode c0_init 0 = .ok (.aload_n 0, 1) := by decide +kernel
theorem d0_init_1 : decode c0_init 1 = .ok (.invokespecial 1, 3) := by decide +kernel
theorem d0_init_4 : decode c0_init 4 = .ok (.aload_n 0, 1) := by decide +kernel
theorem d0_init_5 : decode c0_init 5 = .ok (.sipush 200, 3) := by decide +kernel
theorem d0_init_8 : decode c0_init 8 = .ok (.newarray .int, 2) := by decide +kernel
theorem d0_init_10 : decode c0_init 10 = .ok (.putfield 9, 3) := by decide +kernel
theorem d0_init_13 : decode c0_init 13 = .ok (.aload_n 0, 1) := by decide +kernel
theorem d0_init_14 : decode c0_init 14 = .ok (.sipush 200, 3) := by decide +kernel
theorem d0_init_17 : decode c0_init 17 = .ok (.newarray .int, 2) := by decide +kernel
theorem d0_init_19 : decode c0_init 19 = .ok (.putfield 13, 3) := by decide +kernel
theorem d0_init_22 : decode c0_init 22 = .ok (.aload_n 0, 1) := by decide +kernel
theorem d0_init_23 : decode c0_init 23 = .ok (.sipush 200, 3) := by decide +kernel
theorem d0_init_26 : decode c0_init 26 = .ok (.newarray .int, 2) := by decide +kernel
theorem d0_init_28 : decode c0_init 28 = .ok (.putfield 16, 3) := by decide +kernel
theorem d0_init_31 : decode c0_init 31 = .ok (.aload_n 0, 1) := by decide +kernel
theorem d0_init_32 : decode c0_init 32 = .ok (.sipush 200, 3) := by decide +kernel
theorem d0_init_35 : decode c0_init 35 = .ok (.newarray .int, 2) := by decide +kernel
theorem d0_init_37 : decode c0_init 37 = .ok (.putfield 19, 3) := by decide +kernel
theorem d0_init_40 : decode c0_init 40 = .ok (.aload_n 0, 1) := by decide +kernel
theorem d0_init_41 : decode c0_init 41 = .ok (.sipush 200, 3) := by decide +kernel
theorem d0_init_44 : decode c0_init 44 = .ok (.newarray .boolean, 2) := by decide +kernel
theorem d0_init_46 : decode c0_init 46 = .ok (.putfield 22, 3) := by decide +kernel
theorem d0_init_49 : decode c0_init 49 = .ok (.aload_n 0, 1) := by decide +kernel
theorem d0_init_50 : decode c0_init 50 = .ok (.sipush 200, 3) := by decide +kernel
theorem d0_init_53 : decode c0_init 53 = .ok (.newarray .int, 2) := by decide +kernel
theorem d0_init_55 : decode c0_init 55 = .ok (.putfield 26, 3) := by decide +kernel
theorem d0_init_58 : decode c0_init 58 = .ok (.aload_n 0, 1) := by decide +kernel
theorem d0_init_59 : decode c0_init 59 = .ok (.sipush 200, 3) := by decide +kernel
theorem d0_init_62 : decode c0_init 62 = .ok (.newarray .boolean, 2) := by decide +kernel
theorem d0_init_64 : decode c0_init 64 = .ok (.putfield 29, 3) := by decide +kernel
theorem d0_init_67 : decode c0_init 67 = .ok (.aload_n 0, 1) := by decide +kernel
theorem d0_init_68 : decode c0_init 68 = .ok (.bipush 7, 2) := by decide +kernel
theorem d0_init_70 : decode c0_init 70 = .ok (.sipush 200, 3) := by decide +kernel
theorem d0_init_73 : decode c0_init 73 = .ok (.multianewarray 32 2, 4) := by decide +kernel
theorem d0_init_77 : decode c0_init 77 = .ok (.putfield 34, 3) := by decide +kernel
theorem d0_init_80 : decode c0_init 80 = .ok (.aload_n 0, 1) := by decide +kernel
theorem d0_init_81 : decode c0_init 81 = .ok (.bipush 16, 2) := by decide +kernel
theorem d0_init_83 : decode c0_init 83 = .ok (.newarray .int, 2) := by decide +kernel
theorem d0_init_85 : decode c0_init 85 = .ok (.putfield 37, 3) := by decide +kernel
theorem d0_init_88 : decode c0_init 88 = .ok (.aload_n 0, 1) := by decide +kernel
theorem d0_init_89 : decode c0_init 89 = .ok (.iconst 0, 1) := by decide +kernel
theorem d0_init_90 : decode c0_init 90 = .ok (.putfield 40, 3) := by decide +kernel
theorem d0_init_93 : decode c0_init 93 = .ok (.return_, 1) := by decide +kernel
theorem d0_add_0 : decode c0_add 0 = .ok (.aload_n 0, 1) := by decide +kernel
theorem d0_add_1 : decode c0_add 1 = .ok (.iload_n 1, 1) := by decide +kernel
theorem d0_add_2 : decode c0_add 2 = .ok (.iload_n 2, 1) := by decide +kernel
theorem d0_add_3 : decode c0_add 3 = .ok (.iload 4, 2) := by decide +kernel
theorem d0_add_5 : decode c0_add 5 = .ok (.iload 6, 2) := by decide +kernel
theorem d0_add_7 : decode c0_add 7 = .ok (.invokevirtual 44, 3) := by decide +kernel
theorem d0_add_10 : decode c0_add 10 = .ok (.aload_n 0, 1) := by decide +kernel
theorem d0_add_11 : decode c0_add 11 = .ok (.getfield 40, 3) := by decide +kernel
theorem d0_add_14 : decode c0_add 14 = .ok (.sipush 200, 3) := by decide +kernel
theorem d0_add_17 : decode c0_add 17 = .ok (.if_icmp .lt 13, 3) := by decide +kernel
theorem d0_add_20 : decode c0_add 20 = .ok (.new 48, 3) := by decide +kernel
theorem d0_add_23 : decode c0_add 23 = .ok (.dup, 1) := by decide +kernel
theorem d0_add_24 : decode c0_add 24 = .ok (.ldc 50, 2) := by decide +kernel
theorem d0_add_26 : decode c0_add 26 = .ok (.invokespecial 52, 3) := by decide +kernel
theorem d0_add_29 : decode c0_add 29 = .ok (.athrow, 1) := by decide +kernel
theorem d0_add_30 : decode c0_add 30 = .ok (.aload_n 0, 1) := by decide +kernel
theorem d0_add_31 : decode c0_add 31 = .ok (.getfield 40, 3) := by decide +kernel
theorem d0_add_34 : decode c0_add 34 = .ok (.istore 8, 2) := by decide +kernel
theorem d0_add_36 : decode c0_add 36 = .ok (.aload_n 0, 1) := by decide +kernel
theorem d0_add_37 : decode c0_add 37 = .ok (.aload_n 0, 1) := by decide +kernel
theorem d0_add_38 : decode c0_add 38 = .ok (.getfield 40, 3) := by decide +kernel
theorem d0_add_41 : decode c0_add 41 = .ok (.iconst 1, 1) := by decide +kernel
theorem d0_add_42 : decode c0_add 42 = .ok (.iadd, 1) := by decide +kernel
theorem d0_add_43 : decode c0_add 43 = .ok (.putfield 40, 3) := by decide +kernel
theorem d0_add_46 : decode c0_add 46 = .ok (.aload_n 0, 1) := by decide +kernel
theorem d0_add_47 : decode c0_add 47 = .ok (.iload 8, 2) := by decide +kernel
theorem d0_add_49 : decode c0_add 49 = .ok (.iload_n 2, 1) := by decide +kernel
theorem d0_add_50 : decode c0_add 50 = .ok (.iload_n 3, 1) := by decide +kernel
theorem d0_add_51 : decode c0_add 51 = .ok (.iload 4, 2) := by decide +kernel
theorem d0_add_53 : decode c0_add 53 = .ok (.invokevirtual 55, 3) := by decide +kernel
theorem d0_add_56 : decode c0_add 56 = .ok (.aload_n 0, 1) := by decide +kernel
theorem d0_add_57 : decode c0_add 57 = .ok (.iload 8, 2) := by decide +kernel
theorem d0_add_59 : decode c0_add 59 = .ok (.iload_n 1, 1) := by decide +kernel
theorem d0_add_60 : decode c0_add 60 = .ok (.iload 5, 2) := by decide +kernel
theorem d0_add_62 : decode c0_add 62 = .ok (.iload 6, 2) := by decide +kernel
theorem d0_add_64 : decode c0_add 64 = .ok (.iload 7, 2) := by decide +kernel
theorem d0_add_66 : decode c0_add 66 = .ok (.invokevirtual 58, 3) := by decide +kernel
theorem d0_add_69 : decode c0_add 69 = .ok (.aload_n 0, 1) := by decide +kernel
theorem d0_add_70 : decode c0_add 70 = .ok (.iload 8, 2) := by decide +kernel
theorem d0_add_72 : decode c0_add 72 = .ok (.invokevirtual 62, 3) := by decide +kernel
theorem d0_add_75 : decode c0_add 75 = .ok (.iload 8, 2) := by decide +kernel
theorem d0_add_77 : decode c0_add 77 = .ok (.ireturn, 1) := by decide +kernel
theorem d0_change_0 : decode c0_change 0 = .ok (.aload_n 0, 1) := by decide +kernel
theorem d0_change_1 : decode c0_change 1 = .ok (.iload_n 2, 1) := by decide +kernel
theorem d0_change_2 : decode c0_change 2 = .ok (.iload_n 3, 1) := by decide +kernel
theorem d0_change_3 : decode c0_change 3 = .ok (.iload 5, 2) := by decide +kernel
theorem d0_change_5 : decode c0_change 5 = .ok (.iload 7, 2) := by decide +kernel
theorem d0_change_7 : decode c0_change 7 = .ok (.invokevirtual 44, 3) := by decide +kernel
theorem d0_change_10 : decode c0_change 10 = .ok (.aload_n 0, 1) := by decide +kernel
theorem d0_change_11 : decode c0_change 11 = .ok (.iload_n 1, 1) := by decide +kernel
theorem d0_change_12 : decode c0_change 12 = .ok (.invokevirtual 66, 3) := by decide +kernel
theorem d0_change_15 : decode c0_change 15 = .ok (.aload_n 0, 1) := by decide +kernel
theorem d0_change_16 : decode c0_change 16 = .ok (.iload_n 1, 1) := by decide +kernel
theorem d0_change_17 : decode c0_change 17 = .ok (.iload_n 3, 1) := by decide +kernel
theorem d0_change_18 : decode c0_change 18 = .ok (.iload 4, 2) := by decide +kernel
theorem d0_change_20 : decode c0_change 20 = .ok (.iload 5, 2) := by decide +kernel
theorem d0_change_22 : decode c0_change 22 = .ok (.invokevirtual 55, 3) := by decide +kernel
theorem d0_change_25 : decode c0_change 25 = .ok (.aload_n 0, 1) := by decide +kernel
theorem d0_change_26 : decode c0_change 26 = .ok (.iload_n 1, 1) := by decide +kernel
theorem d0_change_27 : decode c0_change 27 = .ok (.iload_n 2, 1) := by decide +kernel
theorem d0_change_28 : decode c0_change 28 = .ok (.iload 6, 2) := by decide +kernel
theorem d0_change_30 : decode c0_change 30 = .ok (.iload 7, 2) := by decide +kernel
theorem d0_change_32 : decode c0_change 32 = .ok (.iload 8, 2) := by decide +kernel
theorem d0_change_34 : decode c0_change 34 = .ok (.invokevirtual 58, 3) := by decide +kernel
theorem d0_change_37 : decode c0_change 37 = .ok (.aload_n 0, 1) := by decide +kernel
theorem d0_change_38 : decode c0_change 38 = .ok (.iload_n 1, 1) := by decide +kernel
theorem d0_change_39 : decode c0_change 39 = .ok (.invokevirtual 62, 3) := by decide +kernel
theorem d0_change_42 : decode c0_change 42 = .ok (.return_, 1) := by decide +kernel
theorem d0_cut_0 : decode c0_cut 0 = .ok (.iload_n 1, 1) := by decide +kernel
theorem d0_cut_1 : decode c0_cut 1 = .ok (.ifCond .lt 11, 3) := by decide +kernel
theorem d0_cut_4 : decode c0_cut 4 = .ok (.iload_n 1, 1) := by decide +kernel
theorem d0_cut_5 : decode c0_cut 5 = .ok (.aload_n 0, 1) := by decide +kernel
theorem d0_cut_6 : decode c0_cut 6 = .ok (.getfield 40, 3) := by decide +kernel
theorem d0_cut_9 : decode c0_cut 9 = .ok (.if_icmp .le 13, 3) := by decide +kernel
theorem d0_cut_12 : decode c0_cut 12 = .ok (.new 69, 3) := by decide +kernel
theorem d0_cut_15 : decode c0_cut 15 = .ok (.dup, 1) := by decide +kernel
theorem d0_cut_16 : decode c0_cut 16 = .ok (.ldc 71, 2) := by decide +kernel
theorem d0_cut_18 : decode c0_cut 18 = .ok (.invokespecial 73, 3) := by decide +kernel
theorem d0_cut_21 : decode c0_cut 21 = .ok (.athrow, 1) := by decide +kernel
theorem d0_cut_22 : decode c0_cut 22 = .ok (.aload_n 0, 1) := by decide +kernel
theorem d0_cut_23 : decode c0_cut 23 = .ok (.getfield 40, 3) := by decide +kernel
theorem d0_cut_26 : decode c0_cut 26 = .ok (.istore_n 2, 1) := by decide +kernel
theorem d0_cut_27 : decode c0_cut 27 = .ok (.aload_n 0, 1) := by decide +kernel
theorem d0_cut_28 : decode c0_cut 28 = .ok (.iload_n 1, 1) := by decide +kernel
theorem d0_cut_29 : decode c0_cut 29 = .ok (.putfield 40, 3) := by decide +kernel
theorem d0_cut_32 : decode c0_cut 32 = .ok (.iload_n 2, 1) := by decide +kernel
theorem d0_cut_33 : decode c0_cut 33 = .ok (.ireturn, 1) := by decide +kernel
theorem d0_when_0 : decode c0_when 0 = .ok (.iload_n 2, 1) := by decide +kernel
theorem d0_when_1 : decode c0_when 1 = .ok (.ifCond .lt 9, 3) := by decide +kernel
theorem d0_when_4 : decode c0_when 4 = .ok (.iload_n 2, 1) := by decide +kernel
theorem d0_when_5 : decode c0_when 5 = .ok (.bipush 6, 2) := by decide +kernel
theorem d0_when_7 : decode c0_when 7 = .ok (.if_icmp .le 13, 3) := by decide +kernel
theorem d0_when_10 : decode c0_when 10 = .ok (.new 69, 3) := by decide +kernel
theorem d0_when_13 : decode c0_when 13 = .ok (.dup, 1) := by decide +kernel
theorem d0_when_14 : decode c0_when 14 = .ok (.ldc 74, 2) := by decide +kernel
theorem d0_when_16 : decode c0_when 16 = .ok (.invokespecial 73, 3) := by decide +kernel
theorem d0_when_19 : decode c0_when 19 = .ok (.athrow, 1) := by decide +kernel
theorem d0_when_20 : decode c0_when 20 = .ok (.aload_n 0, 1) := by decide +kernel
theorem d0_when_21 : decode c0_when 21 = .ok (.iload_n 1, 1) := by decide +kernel
theorem d0_when_22 : decode c0_when 22 = .ok (.invokevirtual 66, 3) := by decide +kernel
theorem d0_when_25 : decode c0_when 25 = .ok (.aload_n 0, 1) := by decide +kernel
theorem d0_when_26 : decode c0_when 26 = .ok (.getfield 34, 3) := by decide +kernel
theorem d0_when_29 : decode c0_when 29 = .ok (.iload_n 2, 1) := by decide +kernel
theorem d0_when_30 : decode c0_when 30 = .ok (.aaload, 1) := by decide +kernel
theorem d0_when_31 : decode c0_when 31 = .ok (.iload_n 1, 1) := by decide +kernel
theorem d0_when_32 : decode c0_when 32 = .ok (.iaload, 1) := by decide +kernel
theorem d0_when_33 : decode c0_when 33 = .ok (.ireturn, 1) := by decide +kernel

theorem d1_reckon_239 : decode c1_reckon 239 = .ok (.iload_n 1, 1) := by decide +kernel
theorem d1_reckon_240 : decode c1_reckon 240 = .ok (.aload_n 0, 1) := by decide +kernel
theorem d1_reckon_241 : decode c1_reckon 241 = .ok (.getfield 19, 3) := by decide +kernel
theorem d1_reckon_244 : decode c1_reckon 244 = .ok (.iload_n 1, 1) := by decide +kernel
theorem d1_reckon_245 : decode c1_reckon 245 = .ok (.iaload, 1) := by decide +kernel
theorem d1_reckon_246 : decode c1_reckon 246 = .ok (.invokevirtual 83, 3) := by decide +kernel
theorem d1_reckon_249 : decode c1_reckon 249 = .ok (.invokestatic 80, 3) := by decide +kernel
theorem d1_reckon_252 : decode c1_reckon 252 = .ok (.iastore, 1) := by decide +kernel
theorem d1_reckon_253 : decode c1_reckon 253 = .ok (.aload_n 0, 1) := by decide +kernel
theorem d1_reckon_254 : decode c1_reckon 254 = .ok (.getfield 44, 3) := by decide +kernel
theorem d1_reckon_257 : decode c1_reckon 257 = .ok (.iload_n 1, 1) := by decide +kernel
theorem d1_reckon_258 : decode c1_reckon 258 = .ok (.aload_n 0, 1) := by decide +kernel
theorem d1_reckon_259 : decode c1_reckon 259 = .ok (.iload_n 1, 1) := by decide +kernel
theorem d1_reckon_260 : decode c1_reckon 260 = .ok (.invokevirtual 73, 3) := by decide +kernel
theorem d1_reckon_263 : decode c1_reckon 263 = .ok (.iconst 1, 1) := by decide +kernel
theorem d1_reckon_264 : decode c1_reckon 264 = .ok (.iadd, 1) := by decide +kernel
theorem d1_reckon_265 : decode c1_reckon 265 = .ok (.iastore, 1) := by decide +kernel
theorem d1_reckon_266 : decode c1_reckon 266 = .ok (.aload_n 0, 1) := by decide +kernel
theorem d1_reckon_267 : decode c1_reckon 267 = .ok (.dup, 1) := by decide +kernel
theorem d1_reckon_268 : decode c1_reckon 268 = .ok (.getfield 51, 3) := by decide +kernel
theorem d1_reckon_271 : decode c1_reckon 271 = .ok (.iconst 1, 1) := by decide +kernel
theorem d1_reckon_272 : decode c1_reckon 272 = .ok (.iadd, 1) := by decide +kernel
theorem d1_reckon_273 : decode c1_reckon 273 = .ok (.putfield 51, 3) := by decide +kernel
theorem d1_reckon_276 : decode c1_reckon 276 = .ok (.goto (-276), 3) := by decide +kernel
theorem d1_reckon_279 : decode c1_reckon 279 = .ok (.return_, 1) := by decide +kernel
theorem d1_when_0 : decode c1_when 0 = .ok (.aload_n 0, 1) := by decide +kernel
theorem d1_when_1 : decode c1_when 1 = .ok (.iload_n 2, 1) := by decide +kernel
theorem d1_when_2 : decode c1_when 2 = .ok (.ifCond .lt 9, 3) := by decide +kernel
theorem d1_when_5 : decode c1_when 5 = .ok (.iload_n 2, 1) := by decide +kernel
theorem d1_when_6 : decode c1_when 6 = .ok (.bipush 6, 2) := by decide +kernel
theorem d1_when_8 : decode c1_when 8 = .ok (.if_icmp .le 7, 3) := by decide +kernel
theorem d1_when_11 : decode c1_when 11 = .ok (.iconst 1, 1) := by decide +kernel
theorem d1_when_12 : decode c1_when 12 = .ok (.goto 4, 3) := by decide +kernel
theorem d1_when_15 : decode c1_when 15 = .ok (.iconst 0, 1) := by decide +kernel
theorem d1_when_16 : decode c1_when 16 = .ok (.iconst 1, 1) := by decide +kernel
theorem d1_when_17 : decode c1_when 17 = .ok (.invokevirtual 58, 3) := by decide +kernel
theorem d1_when_20 : decode c1_when 20 = .ok (.ifCond .eq 5, 3) := by decide +kernel
theorem d1_when_23 : decode c1_when 23 = .ok (.iconst 0, 1) := by decide +kernel
theorem d1_when_24 : decode c1_when 24 = .ok (.ireturn, 1) := by decide +kernel
theorem d1_when_25 : decode c1_when 25 = .ok (.aload_n 0, 1) := by decide +kernel
theorem d1_when_26 : decode c1_when 26 = .ok (.iload_n 1, 1) := by decide +kernel
theorem d1_when_27 : decode c1_when 27 = .ok (.ifCond .lt 11, 3) := by decide +kernel
theorem d1_when_30 : decode c1_when 30 = .ok (.iload_n 1, 1) := by decide +kernel
theorem d1_when_31 : decode c1_when 31 = .ok (.aload_n 0, 1) := by decide +kernel
theorem d1_when_32 : decode c1_when 32 = .ok (.getfield 62, 3) := by decide +kernel
theorem d1_when_35 : decode c1_when 35 = .ok (.if_icmp .lt 7, 3) := by decide +kernel
theorem d1_when_38 : decode c1_when 38 = .ok (.iconst 1, 1) := by decide +kernel
theorem d1_when_39 : decode c1_when 39 = .ok (.goto 4, 3) := by decide +kernel
theorem d1_when_42 : decode c1_when 42 = .ok (.iconst 0, 1) := by decide +kernel
theorem d1_when_43 : decode c1_when 43 = .ok (.iconst 2, 1) := by decide +kernel
theorem d1_when_44 : decode c1_when 44 = .ok (.invokevirtual 58, 3) := by decide +kernel
theorem d1_when_47 : decode c1_when 47 = .ok (.ifCond .eq 5, 3) := by decide +kernel
theorem d1_when_50 : decode c1_when 50 = .ok (.iconst 0, 1) := by decide +kernel
theorem d1_when_51 : decode c1_when 51 = .ok (.ireturn, 1) := by decide +kernel
theorem d1_when_52 : decode c1_when 52 = .ok (.aload_n 0, 1) := by decide +kernel
theorem d1_when_53 : decode c1_when 53 = .ok (.invokevirtual 86, 3) := by decide +kernel
theorem d1_when_56 : decode c1_when 56 = .ok (.iload_n 2, 1) := by decide +kernel
theorem d1_when_57 : decode c1_when 57 = .ok (.ifCond .ne 12, 3) := by decide +kernel
theorem d1_when_60 : decode c1_when 60 = .ok (.aload_n 0, 1) := by decide +kernel
theorem d1_when_61 : decode c1_when 61 = .ok (.getfield 32, 3) := by decide +kernel
theorem d1_when_64 : decode c1_when 64 = .ok (.iload_n 1, 1) := by decide +kernel
theorem d1_when_65 : decode c1_when 65 = .ok (.iaload, 1) := by decide +kernel
theorem d1_when_66 : decode c1_when 66 = .ok (.goto 77, 3) := by decide +kernel
theorem d1_when_69 : decode c1_when 69 = .ok (.iload_n 2, 1) := by decide +kernel
theorem d1_when_70 : decode c1_when 70 = .ok (.iconst 1, 1) := by decide +kernel
theorem d1_when_71 : decode c1_when 71 = .ok (.if_icmp .ne 12, 3) := by decide +kernel
theorem d1_when_74 : decode c1_when 74 = .ok (.aload_n 0, 1) := by decide +kernel
theorem d1_when_75 : decode c1_when 75 = .ok (.getfield 35, 3) := by decide +kernel
theorem d1_when_78 : decode c1_when 78 = .ok (.iload_n 1, 1) := by decide +kernel
theorem d1_when_79 : decode c1_when 79 = .ok (.iaload, 1) := by decide +kernel
theorem d1_when_80 : decode c1_when 80 = .ok (.goto 63, 3) := by decide +kernel
theorem d1_when_83 : decode c1_when 83 = .ok (.iload_n 2, 1) := by decide +kernel
theorem d1_when_84 : decode c1_when 84 = .ok (.iconst 2, 1) := by decide +kernel
theorem d1_when_85 : decode c1_when 85 = .ok (.if_icmp .ne 12, 3) := by decide +kernel
theorem d1_when_88 : decode c1_when 88 = .ok (.aload_n 0, 1) := by decide +kernel
theorem d1_when_89 : decode c1_when 89 = .ok (.getfield 38, 3) := by decide +kernel
theorem d1_when_92 : decode c1_when 92 = .ok (.iload_n 1, 1) := by decide +kernel
theorem d1_when_93 : decode c1_when 93 = .ok (.iaload, 1) := by decide +kernel
theorem d1_when_94 : decode c1_when 94 = .ok (.goto 49, 3) := by decide +kernel
theorem d1_when_97 : decode c1_when 97 = .ok (.iload_n 2, 1) := by decide +kernel
theorem d1_when_98 : decode c1_when 98 = .ok (.iconst 3, 1) := by decide +kernel
theorem d1_when_99 : decode c1_when 99 = .ok (.if_icmp .ne 12, 3) := by decide +kernel
theorem d1_when_102 : decode c1_when 102 = .ok (.aload_n 0, 1) := by decide +kernel
theorem d1_when_103 : decode c1_when 103 = .ok (.getfield 41, 3) := by decide +kernel
theorem d1_when_106 : decode c1_when 106 = .ok (.iload_n 1, 1) := by decide +kernel
theorem d1_when_107 : decode c1_when 107 = .ok (.iaload, 1) := by decide +kernel
theorem d1_when_108 : decode c1_when 108 = .ok (.goto 35, 3) := by decide +kernel
theorem d1_when_111 : decode c1_when 111 = .ok (.iload_n 2, 1) := by decide +kernel
theorem d1_when_112 : decode c1_when 112 = .ok (.iconst 4, 1) := by decide +kernel
theorem d1_when_113 : decode c1_when 113 = .ok (.if_icmp .ne 12, 3) := by decide +kernel
theorem d1_when_116 : decode c1_when 116 = .ok (.aload_n 0, 1) := by decide +kernel
theorem d1_when_117 : decode c1_when 117 = .ok (.getfield 44, 3) := by decide +kernel
theorem d1_when_120 : decode c1_when 120 = .ok (.iload_n 1, 1) := by decide +kernel
theorem d1_when_121 : decode c1_when 121 = .ok (.iaload, 1) := by decide +kernel
theorem d1_when_122 : decode c1_when 122 = .ok (.goto 21, 3) := by decide +kernel
theorem d1_when_125 : decode c1_when 125 = .ok (.iload_n 2, 1) := by decide +kernel
theorem d1_when_126 : decode c1_when 126 = .ok (.iconst 5, 1) := by decide +kernel
theorem d1_when_127 : decode c1_when 127 = .ok (.if_icmp .ne 11, 3) := by decide +kernel
theorem d1_when_130 : decode c1_when 130 = .ok (.aload_n 0, 1) := by decide +kernel
theorem d1_when_131 : decode c1_when 131 = .ok (.iload_n 1, 1) := by decide +kernel
theorem d1_when_132 : decode c1_when 132 = .ok (.invokevirtual 77, 3) := by decide +kernel
theorem d1_when_135 : decode c1_when 135 = .ok (.goto 8, 3) := by decide +kernel
theorem d1_when_138 : decode c1_when 138 = .ok (.aload_n 0, 1) := by decide +kernel
theorem d1_when_139 : decode c1_when 139 = .ok (.iload_n 1, 1) := by decide +kernel
theorem d1_when_140 : decode c1_when 140 = .ok (.invokevirtual 73, 3) := by decide +kernel
theorem d1_when_143 : decode c1_when 143 = .ok (.ireturn, 1) := by decide +kernel
theorem d1_from_0 : decode c1_from 0 = .ok (.iload_n 2, 1) := by decide +kernel
theorem d1_from_1 : decode c1_from 1 = .ok (.ifCond .ne 12, 3) := by decide +kernel
theorem d1_from_4 : decode c1_from 4 = .ok (.aload_n 0, 1) := by decide +kernel
theorem d1_from_5 : decode c1_from 5 = .ok (.getfield 32, 3) := by decide +kernel
theorem d1_from_8 : decode c1_from 8 = .ok (.iload_n 1, 1) := by decide +kernel
theorem d1_from_9 : decode c1_from 9 = .ok (.iaload, 1) := by decide +kernel
theorem d1_from_10 : decode c1_from 10 = .ok (.goto 67, 3) := by decide +kernel
theorem d1_from_13 : decode c1_from 13 = .ok (.iload_n 2, 1) := by decide +kernel
theorem d1_from_14 : decode c1_from 14 = .ok (.iconst 1, 1) := by decide +kernel
theorem d1_from_15 : decode c1_from 15 = .ok (.if_icmp .ne 12, 3) := by decide +kernel
theorem d1_from_18 : decode c1_from 18 = .ok (.aload_n 0, 1) := by decide +kernel
theorem d1_from_19 : decode c1_from 19 = .ok (.getfield 35, 3) := by decide +kernel
theorem d1_from_22 : decode c1_from 22 = .ok (.iload_n 1, 1) := by decide +kernel
theorem d1_from_23 : decode c1_from 23 = .ok (.iaload, 1) := by decide +kernel
theorem d1_from_24 : decode c1_from 24 = .ok (.goto 53, 3) := by decide +kernel
theorem d1_from_27 : decode c1_from 27 = .ok (.iload_n 2, 1) := by decide +kernel
theorem d1_from_28 : decode c1_from 28 = .ok (.iconst 2, 1) := by decide +kernel
theorem d1_from_29 : decode c1_from 29 = .ok (.if_icmp .ne 12, 3) := by decide +kernel
theorem d1_from_32 : decode c1_from 32 = .ok (.aload_n 0, 1) := by decide +kernel
theorem d1_from_33 : decode c1_from 33 = .ok (.getfield 38, 3) := by decide +kernel
theorem d1_from_36 : decode c1_from 36 = .ok (.iload_n 1, 1) := by decide +kernel
theorem d1_from_37 : decode c1_from 37 = .ok (.iaload, 1) := by decide +kernel
theorem d1_from_38 : decode c1_from 38 = .ok (.goto 39, 3) := by decide +kernel
theorem d1_from_41 : decode c1_from 41 = .ok (.iload_n 2, 1) := by decide +kernel
theorem d1_from_42 : decode c1_from 42 = .ok (.iconst 3, 1) := by decide +kernel
theorem d1_from_43 : decode c1_from 43 = .ok (.if_icmp .ne 12, 3) := by decide +kernel
theorem d1_from_46 : decode c1_from 46 = .ok (.aload_n 0, 1) := by decide +kernel
theorem d1_from_47 : decode c1_from 47 = .ok (.getfield 41, 3) := by decide +kernel
theorem d1_from_50 : decode c1_from 50 = .ok (.iload_n 1, 1) := by decide +kernel
theorem d1_from_51 : decode c1_from 51 = .ok (.iaload, 1) := by decide +kernel
theorem d1_from_52 : decode c1_from 52 = .ok (.goto 25, 3) := by decide +kernel
theorem d1_from_55 : decode c1_from 55 = .ok (.iload_n 2, 1) := by decide +kernel
theorem d1_from_56 : decode c1_from 56 = .ok (.iconst 4, 1) := by decide +kernel
theorem d1_from_57 : decode c1_from 57 = .ok (.if_icmp .ne 12, 3) := by decide +kernel
theorem d1_from_60 : decode c1_from 60 = .ok (.aload_n 0, 1) := by decide +kernel
theorem d1_from_61 : decode c1_from 61 = .ok (.getfield 44, 3) := by decide +kernel
theorem d1_from_64 : decode c1_from 64 = .ok (.iload_n 1, 1) := by decide +kernel
theorem d1_from_65 : decode c1_from 65 = .ok (.iaload, 1) := by decide +kernel
theorem d1_from_66 : decode c1_from 66 = .ok (.goto 11, 3) := by decide +kernel
theorem d1_from_69 : decode c1_from 69 = .ok (.aload_n 0, 1) := by decide +kernel
theorem d1_from_70 : decode c1_from 70 = .ok (.getfield 44, 3) := by decide +kernel
theorem d1_from_73 : decode c1_from 73 = .ok (.iload_n 1, 1) := by decide +kernel
theorem d1_from_74 : decode c1_from 74 = .ok (.iaload, 1) := by decide +kernel
theorem d1_from_75 : decode c1_from 75 = .ok (.iconst 1, 1) := by decide +kernel

theorem d1_more_9 : decode c1_more 9 = .ok (.iload_n 1, 1) := by decide +kernel
theorem d1_more_10 : decode c1_more 10 = .ok (.ireturn, 1) := by decide +kernel
theorem d1_reckon_0 : decode c1_reckon 0 = .ok (.aload_n 0, 1) := by decide +kernel
theorem d1_reckon_1 : decode c1_reckon 1 = .ok (.getfield 51, 3) := by decide +kernel
theorem d1_reckon_4 : decode c1_reckon 4 = .ok (.aload_n 0, 1) := by decide +kernel
theorem d1_reckon_5 : decode c1_reckon 5 = .ok (.getfield 62, 3) := by decide +kernel
theorem d1_reckon_8 : decode c1_reckon 8 = .ok (.if_icmp .ge 271, 3) := by decide +kernel
theorem d1_reckon_11 : decode c1_reckon 11 = .ok (.aload_n 0, 1) := by decide +kernel
theorem d1_reckon_12 : decode c1_reckon 12 = .ok (.getfield 51, 3) := by decide +kernel
theorem d1_reckon_15 : decode c1_reckon 15 = .ok (.istore_n 1, 1) := by decide +kernel
theorem d1_reckon_16 : decode c1_reckon 16 = .ok (.iload_n 1, 1) := by decide +kernel
theorem d1_reckon_17 : decode c1_reckon 17 = .ok (.ifCond .ne 7, 3) := by decide +kernel
theorem d1_reckon_20 : decode c1_reckon 20 = .ok (.iconst 1, 1) := by decide +kernel
theorem d1_reckon_21 : decode c1_reckon 21 = .ok (.goto 4, 3) := by decide +kernel
theorem d1_reckon_24 : decode c1_reckon 24 = .ok (.iconst 0, 1) := by decide +kernel
theorem d1_reckon_25 : decode c1_reckon 25 = .ok (.istore_n 2, 1) := by decide +kernel
theorem d1_reckon_26 : decode c1_reckon 26 = .ok (.aload_n 0, 1) := by decide +kernel
theorem d1_reckon_27 : decode c1_reckon 27 = .ok (.getfield 32, 3) := by decide +kernel
theorem d1_reckon_30 : decode c1_reckon 30 = .ok (.iload_n 1, 1) := by decide +kernel
theorem d1_reckon_31 : decode c1_reckon 31 = .ok (.iload_n 2, 1) := by decide +kernel
theorem d1_reckon_32 : decode c1_reckon 32 = .ok (.ifCond .eq 7, 3) := by decide +kernel
theorem d1_reckon_35 : decode c1_reckon 35 = .ok (.iconst 1, 1) := by decide +kernel
theorem d1_reckon_36 : decode c1_reckon 36 = .ok (.goto 34, 3) := by decide +kernel
theorem d1_reckon_39 : decode c1_reckon 39 = .ok (.aload_n 0, 1) := by decide +kernel
theorem d1_reckon_40 : decode c1_reckon 40 = .ok (.getfield 29, 3) := by decide +kernel
theorem d1_reckon_43 : decode c1_reckon 43 = .ok (.iload_n 1, 1) := by decide +kernel
theorem d1_reckon_44 : decode c1_reckon 44 = .ok (.iconst 1, 1) := by decide +kernel
theorem d1_reckon_45 : decode c1_reckon 45 = .ok (.isub, 1) := by decide +kernel
theorem d1_reckon_46 : decode c1_reckon 46 = .ok (.baload, 1) := by decide +kernel
theorem d1_reckon_47 : decode c1_reckon 47 = .ok (.ifCond .eq 15, 3) := by decide +kernel
theorem d1_reckon_50 : decode c1_reckon 50 = .ok (.aload_n 0, 1) := by decide +kernel
theorem d1_reckon_51 : decode c1_reckon 51 = .ok (.iload_n 1, 1) := by decide +kernel
theorem d1_reckon_52 : decode c1_reckon 52 = .ok (.iconst 1, 1) := by decide +kernel
theorem d1_reckon_53 : decode c1_reckon 53 = .ok (.isub, 1) := by decide +kernel
theorem d1_reckon_54 : decode c1_reckon 54 = .ok (.invokevirtual 77, 3) := by decide +kernel
theorem d1_reckon_57 : decode c1_reckon 57 = .ok (.iconst 1, 1) := by decide +kernel
theorem d1_reckon_58 : decode c1_reckon 58 = .ok (.iadd, 1) := by decide +kernel
theorem d1_reckon_59 : decode c1_reckon 59 = .ok (.goto 11, 3) := by decide +kernel
theorem d1_reckon_62 : decode c1_reckon 62 = .ok (.aload_n 0, 1) := by decide +kernel
theorem d1_reckon_63 : decode c1_reckon 63 = .ok (.getfield 35, 3) := by decide +kernel
theorem d1_reckon_66 : decode c1_reckon 66 = .ok (.iload_n 1, 1) := by decide +kernel
theorem d1_reckon_67 : decode c1_reckon 67 = .ok (.iconst 1, 1) := by decide +kernel
theorem d1_reckon_68 : decode c1_reckon 68 = .ok (.isub, 1) := by decide +kernel
theorem d1_reckon_69 : decode c1_reckon 69 = .ok (.iaload, 1) := by decide +kernel
theorem d1_reckon_70 : decode c1_reckon 70 = .ok (.iastore, 1) := by decide +kernel
theorem d1_reckon_71 : decode c1_reckon 71 = .ok (.aload_n 0, 1) := by decide +kernel
theorem d1_reckon_72 : decode c1_reckon 72 = .ok (.getfield 35, 3) := by decide +kernel
theorem d1_reckon_75 : decode c1_reckon 75 = .ok (.iload_n 1, 1) := by decide +kernel
theorem d1_reckon_76 : decode c1_reckon 76 = .ok (.aload_n 0, 1) := by decide +kernel
theorem d1_reckon_77 : decode c1_reckon 77 = .ok (.getfield 32, 3) := by decide +kernel
theorem d1_reckon_80 : decode c1_reckon 80 = .ok (.iload_n 1, 1) := by decide +kernel
theorem d1_reckon_81 : decode c1_reckon 81 = .ok (.iaload, 1) := by decide +kernel
theorem d1_reckon_82 : decode c1_reckon 82 = .ok (.iconst 1, 1) := by decide +kernel
theorem d1_reckon_83 : decode c1_reckon 83 = .ok (.iadd, 1) := by decide +kernel
theorem d1_reckon_84 : decode c1_reckon 84 = .ok (.iload_n 2, 1) := by decide +kernel
theorem d1_reckon_85 : decode c1_reckon 85 = .ok (.ifCond .eq 7, 3) := by decide +kernel
theorem d1_reckon_88 : decode c1_reckon 88 = .ok (.iconst 0, 1) := by decide +kernel
theorem d1_reckon_89 : decode c1_reckon 89 = .ok (.goto 11, 3) := by decide +kernel
theorem d1_reckon_92 : decode c1_reckon 92 = .ok (.aload_n 0, 1) := by decide +kernel
theorem d1_reckon_93 : decode c1_reckon 93 = .ok (.getfield 38, 3) := by decide +kernel
theorem d1_reckon_96 : decode c1_reckon 96 = .ok (.iload_n 1, 1) := by decide +kernel
theorem d1_reckon_97 : decode c1_reckon 97 = .ok (.iconst 1, 1) := by decide +kernel
theorem d1_reckon_98 : decode c1_reckon 98 = .ok (.isub, 1) := by decide +kernel
theorem d1_reckon_99 : decode c1_reckon 99 = .ok (.iaload, 1) := by decide +kernel
theorem d1_reckon_100 : decode c1_reckon 100 = .ok (.invokestatic 80, 3) := by decide +kernel
theorem d1_reckon_103 : decode c1_reckon 103 = .ok (.iastore, 1) := by decide +kernel
theorem d1_reckon_104 : decode c1_reckon 104 = .ok (.aload_n 0, 1) := by decide +kernel
theorem d1_reckon_105 : decode c1_reckon 105 = .ok (.getfield 38, 3) := by decide +kernel
theorem d1_reckon_108 : decode c1_reckon 108 = .ok (.iload_n 1, 1) := by decide +kernel
theorem d1_reckon_109 : decode c1_reckon 109 = .ok (.aload_n 0, 1) := by decide +kernel
theorem d1_reckon_110 : decode c1_reckon 110 = .ok (.getfield 35, 3) := by decide +kernel
theorem d1_reckon_113 : decode c1_reckon 113 = .ok (.iload_n 1, 1) := by decide +kernel
theorem d1_reckon_114 : decode c1_reckon 114 = .ok (.iaload, 1) := by decide +kernel
theorem d1_reckon_115 : decode c1_reckon 115 = .ok (.iconst 1, 1) := by decide +kernel
theorem d1_reckon_116 : decode c1_reckon 116 = .ok (.iadd, 1) := by decide +kernel
theorem d1_reckon_117 : decode c1_reckon 117 = .ok (.iload_n 2, 1) := by decide +kernel
theorem d1_reckon_118 : decode c1_reckon 118 = .ok (.ifCond .eq 7, 3) := by decide +kernel
theorem d1_reckon_121 : decode c1_reckon 121 = .ok (.iconst 0, 1) := by decide +kernel
theorem d1_reckon_122 : decode c1_reckon 122 = .ok (.goto 11, 3) := by decide +kernel
theorem d1_reckon_125 : decode c1_reckon 125 = .ok (.aload_n 0, 1) := by decide +kernel
theorem d1_reckon_126 : decode c1_reckon 126 = .ok (.getfield 41, 3) := by decide +kernel
theorem d1_reckon_129 : decode c1_reckon 129 = .ok (.iload_n 1, 1) := by decide +kernel
theorem d1_reckon_130 : decode c1_reckon 130 = .ok (.iconst 1, 1) := by decide +kernel
theorem d1_reckon_131 : decode c1_reckon 131 = .ok (.isub, 1) := by decide +kernel
theorem d1_reckon_132 : decode c1_reckon 132 = .ok (.iaload, 1) := by decide +kernel
theorem d1_reckon_133 : decode c1_reckon 133 = .ok (.invokestatic 80, 3) := by decide +kernel
theorem d1_reckon_136 : decode c1_reckon 136 = .ok (.iastore, 1) := by decide +kernel
theorem d1_reckon_137 : decode c1_reckon 137 = .ok (.iconst 1, 1) := by decide +kernel
theorem d1_reckon_138 : decode c1_reckon 138 = .ok (.istore_n 3, 1) := by decide +kernel
theorem d1_reckon_139 : decode c1_reckon 139 = .ok (.iload_n 3, 1) := by decide +kernel
theorem d1_reckon_140 : decode c1_reckon 140 = .ok (.bipush 16, 2) := by decide +kernel
theorem d1_reckon_142 : decode c1_reckon 142 = .ok (.if_icmp .ge 44, 3) := by decide +kernel
theorem d1_reckon_145 : decode c1_reckon 145 = .ok (.aload_n 0, 1) := by decide +kernel
theorem d1_reckon_146 : decode c1_reckon 146 = .ok (.getfield 16, 3) := by decide +kernel
theorem d1_reckon_149 : decode c1_reckon 149 = .ok (.iload_n 1, 1) := by decide +kernel
theorem d1_reckon_150 : decode c1_reckon 150 = .ok (.iaload, 1) := by decide +kernel
theorem d1_reckon_151 : decode c1_reckon 151 = .ok (.iload_n 3, 1) := by decide +kernel
theorem d1_reckon_152 : decode c1_reckon 152 = .ok (.ishr, 1) := by decide +kernel
theorem d1_reckon_153 : decode c1_reckon 153 = .ok (.iconst 1, 1) := by decide +kernel
theorem d1_reckon_154 : decode c1_reckon 154 = .ok (.iand, 1) := by decide +kernel
theorem d1_reckon_155 : decode c1_reckon 155 = .ok (.iconst 1, 1) := by decide +kernel
theorem d1_reckon_156 : decode c1_reckon 156 = .ok (.if_icmp .ne 24, 3) := by decide +kernel
theorem d1_reckon_159 : decode c1_reckon 159 = .ok (.aload_n 0, 1) := by decide +kernel
theorem d1_reckon_160 : decode c1_reckon 160 = .ok (.getfield 38, 3) := by decide +kernel
theorem d1_reckon_163 : decode c1_reckon 163 = .ok (.iload_n 1, 1) := by decide +kernel
theorem d1_reckon_164 : decode c1_reckon 164 = .ok (.aload_n 0, 1) := by decide +kernel
theorem d1_reckon_165 : decode c1_reckon 165 = .ok (.getfield 38, 3) := by decide +kernel
theorem d1_reckon_168 : decode c1_reckon 168 = .ok (.iload_n 1, 1) := by decide +kernel
theorem d1_reckon_169 : decode c1_reckon 169 = .ok (.iaload, 1) := by decide +kernel
theorem d1_reckon_170 : decode c1_reckon 170 = .ok (.aload_n 0, 1) := by decide +kernel
theorem d1_reckon_171 : decode c1_reckon 171 = .ok (.iload_n 1, 1) := by decide +kernel
theorem d1_reckon_172 : decode c1_reckon 172 = .ok (.iload_n 3, 1) := by decide +kernel
theorem d1_reckon_173 : decode c1_reckon 173 = .ok (.invokevirtual 83, 3) := by decide +kernel
theorem d1_reckon_176 : decode c1_reckon 176 = .ok (.invokestatic 80, 3) := by decide +kernel
theorem d1_reckon_179 : decode c1_reckon 179 = .ok (.iastore, 1) := by decide +kernel
theorem d1_reckon_180 : decode c1_reckon 180 = .ok (.iinc 3 1, 3) := by decide +kernel
theorem d1_reckon_183 : decode c1_reckon 183 = .ok (.goto (-44), 3) := by decide +kernel
theorem d1_reckon_186 : decode c1_reckon 186 = .ok (.aload_n 0, 1) := by decide +kernel
theorem d1_reckon_187 : decode c1_reckon 187 = .ok (.getfield 41, 3) := by decide +kernel
theorem d1_reckon_190 : decode c1_reckon 190 = .ok (.iload_n 1, 1) := by decide +kernel
theorem d1_reckon_191 : decode c1_reckon 191 = .ok (.aload_n 0, 1) := by decide +kernel
theorem d1_reckon_192 : decode c1_reckon 192 = .ok (.iload_n 1, 1) := by decide +kernel
theorem d1_reckon_193 : decode c1_reckon 193 = .ok (.invokevirtual 77, 3) := by decide +kernel
theorem d1_reckon_196 : decode c1_reckon 196 = .ok (.iconst 1, 1) := by decide +kernel
theorem d1_reckon_197 : decode c1_reckon 197 = .ok (.iadd, 1) := by decide +kernel
theorem d1_reckon_198 : decode c1_reckon 198 = .ok (.iload_n 2, 1) := by decide +kernel
theorem d1_reckon_199 : decode c1_reckon 199 = .ok (.ifCond .eq 7, 3) := by decide +kernel
theorem d1_reckon_202 : decode c1_reckon 202 = .ok (.iconst 0, 1) := by decide +kernel
theorem d1_reckon_203 : decode c1_reckon 203 = .ok (.goto 11, 3) := by decide +kernel
theorem d1_reckon_206 : decode c1_reckon 206 = .ok (.aload_n 0, 1) := by decide +kernel
theorem d1_reckon_207 : decode c1_reckon 207 = .ok (.getfield 44, 3) := by decide +kernel
theorem d1_reckon_210 : decode c1_reckon 210 = .ok (.iload_n 1, 1) := by decide +kernel
theorem d1_reckon_211 : decode c1_reckon 211 = .ok (.iconst 1, 1) := by decide +kernel
theorem d1_reckon_212 : decode c1_reckon 212 = .ok (.isub, 1) := by decide +kernel
theorem d1_reckon_213 : decode c1_reckon 213 = .ok (.iaload, 1) := by decide +kernel
theorem d1_reckon_214 : decode c1_reckon 214 = .ok (.invokestatic 80, 3) := by decide +kernel
theorem d1_reckon_217 : decode c1_reckon 217 = .ok (.iastore, 1) := by decide +kernel
theorem d1_reckon_218 : decode c1_reckon 218 = .ok (.aload_n 0, 1) := by decide +kernel
theorem d1_reckon_219 : decode c1_reckon 219 = .ok (.getfield 19, 3) := by decide +kernel
theorem d1_reckon_222 : decode c1_reckon 222 = .ok (.iload_n 1, 1) := by decide +kernel
theorem d1_reckon_223 : decode c1_reckon 223 = .ok (.iaload, 1) := by decide +kernel
theorem d1_reckon_224 : decode c1_reckon 224 = .ok (.ifCond .le 29, 3) := by decide +kernel
theorem d1_reckon_227 : decode c1_reckon 227 = .ok (.aload_n 0, 1) := by decide +kernel
theorem d1_reckon_228 : decode c1_reckon 228 = .ok (.getfield 41, 3) := by decide +kernel
theorem d1_reckon_231 : decode c1_reckon 231 = .ok (.iload_n 1, 1) := by decide +kernel
theorem d1_reckon_232 : decode c1_reckon 232 = .ok (.aload_n 0, 1) := by decide +kernel
theorem d1_reckon_233 : decode c1_reckon 233 = .ok (.getfield 41, 3) := by decide +kernel
theorem d1_reckon_236 : decode c1_reckon 236 = .ok (.iload_n 1, 1) := by decide +kernel
theorem d1_reckon_237 : decode c1_reckon 237 = .ok (.iaload, 1) := by decide +kernel
theorem d1_reckon_238 : decode c1_reckon 238 = .ok (.aload_n 0, 1) := by decide +kernel

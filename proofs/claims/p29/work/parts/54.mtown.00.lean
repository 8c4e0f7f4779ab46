theorem b_233_0_3 : ov_ds ov_m233.2.1 0 [.aload_n 0, .iconst 4, .iconst 5] = true := by decide +kernel
theorem d_233_3 : decode ov_m233.2.1 3 = .ok (.invokevirtual 202, 3) := by decide +kernel
theorem b_233_6_2 : ov_ds ov_m233.2.1 6 [.istore_n 1, .iload_n 1] = true := by decide +kernel
theorem d_233_8 : decode ov_m233.2.1 8 = .ok (.ifCond .ge 11, 3) := by decide +kernel
theorem b_233_19_1 : ov_ds ov_m233.2.1 19 [.aload_n 0] = true := by decide +kernel
theorem d_233_20 : decode ov_m233.2.1 20 = .ok (.getfield 211, 3) := by decide +kernel
theorem b_233_23_5 : ov_ds ov_m233.2.1 23 [.iload_n 1, .ishr, .iconst 1, .iand, .iconst 1] = true := by decide +kernel
theorem d_233_28 : decode ov_m233.2.1 28 = .ok (.if_icmp .ne 8, 3) := by decide +kernel
theorem b_233_36_1 : ov_ds ov_m233.2.1 36 [.aload_n 0] = true := by decide +kernel
theorem d_233_37 : decode ov_m233.2.1 37 = .ok (.getfield 180, 3) := by decide +kernel
theorem d_233_40 : decode ov_m233.2.1 40 = .ok (.ifCond .le 4, 3) := by decide +kernel
theorem b_233_44_2 : ov_ds ov_m233.2.1 44 [.aload_n 0, .dup] = true := by decide +kernel
theorem d_233_46 : decode ov_m233.2.1 46 = .ok (.getfield 211, 3) := by decide +kernel
theorem b_233_49_4 : ov_ds ov_m233.2.1 49 [.iconst 1, .iload_n 1, .ishl, .ior] = true := by decide +kernel
theorem d_233_53 : decode ov_m233.2.1 53 = .ok (.putfield 211, 3) := by decide +kernel
theorem b_233_56_2 : ov_ds ov_m233.2.1 56 [.aload_n 0, .dup] = true := by decide +kernel
theorem d_233_58 : decode ov_m233.2.1 58 = .ok (.getfield 177, 3) := by decide +kernel
theorem b_233_61_2 : ov_ds ov_m233.2.1 61 [.iconst 1, .iadd] = true := by decide +kernel
theorem d_233_63 : decode ov_m233.2.1 63 = .ok (.putfield 177, 3) := by decide +kernel
theorem b_233_66_1 : ov_ds ov_m233.2.1 66 [.aload_n 0] = true := by decide +kernel
theorem d_233_67 : decode ov_m233.2.1 67 = .ok (.getfield 81, 3) := by decide +kernel
theorem b_233_70_5 : ov_ds ov_m233.2.1 70 [.sipush 342, .iload_n 1, .iadd, .iload_n 1, .iconst 4] = true := by decide +kernel
theorem d_233_77 : decode ov_m233.2.1 77 = .ok (.if_icmp .ne 7, 3) := by decide +kernel
theorem b_233_84_2 : ov_ds ov_m233.2.1 84 [.iload_n 1, .iconst 3] = true := by decide +kernel
theorem d_233_86 : decode ov_m233.2.1 86 = .ok (.if_icmp .ne 13, 3) := by decide +kernel
theorem b_233_99_3 : ov_ds ov_m233.2.1 99 [.aload_n 0, .iconst 1, .bipush 30] = true := by decide +kernel
theorem d_233_103 : decode ov_m233.2.1 103 = .ok (.invokevirtual 198, 3) := by decide +kernel
theorem d_233_106 : decode ov_m233.2.1 106 = .ok (.iastore, 1) := by decide +kernel
theorem d_233_107 : decode ov_m233.2.1 107 = .ok (.return_, 1) := by decide +kernel
theorem b_233_89_3 : ov_ds ov_m233.2.1 89 [.aload_n 0, .iconst 0, .bipush 9] = true := by decide +kernel
theorem d_233_93 : decode ov_m233.2.1 93 = .ok (.invokevirtual 198, 3) := by decide +kernel
theorem d_233_96 : decode ov_m233.2.1 96 = .ok (.goto 10, 3) := by decide +kernel
theorem b_233_80_1 : ov_ds ov_m233.2.1 80 [.iconst 1] = true := by decide +kernel
theorem d_233_81 : decode ov_m233.2.1 81 = .ok (.goto 25, 3) := by decide +kernel
theorem d_233_43 : decode ov_m233.2.1 43 = .ok (.return_, 1) := by decide +kernel
theorem b_233_31_2 : ov_ds ov_m233.2.1 31 [.aload_n 0, .iconst 3] = true := by decide +kernel
theorem d_233_33 : decode ov_m233.2.1 33 = .ok (.invokevirtual 186, 3) := by decide +kernel
theorem b_233_11_2 : ov_ds ov_m233.2.1 11 [.aload_n 0, .iconst 1] = true := by decide +kernel
theorem d_233_13 : decode ov_m233.2.1 13 = .ok (.invokevirtual 186, 3) := by decide +kernel
theorem d_233_16 : decode ov_m233.2.1 16 = .ok (.goto 20, 3) := by decide +kernel
theorem b_223_0_2 : ov_ds ov_m223.2.1 0 [.aload_n 0, .dup] = true := by decide +kernel
theorem d_223_2 : decode ov_m223.2.1 2 = .ok (.getfield 177, 3) := by decide +kernel
theorem b_223_5_2 : ov_ds ov_m223.2.1 5 [.iconst 1, .iadd] = true := by decide +kernel
theorem d_223_7 : decode ov_m223.2.1 7 = .ok (.putfield 177, 3) := by decide +kernel
theorem b_223_10_3 : ov_ds ov_m223.2.1 10 [.aload_n 0, .iconst 0, .aload_n 0] = true := by decide +kernel
theorem d_223_13 : decode ov_m223.2.1 13 = .ok (.getfield 81, 3) := by decide +kernel
theorem b_223_16_1 : ov_ds ov_m223.2.1 16 [.sipush 340] = true := by decide +kernel
theorem d_223_19 : decode ov_m223.2.1 19 = .ok (.iaload, 1) := by decide +kernel
theorem b_223_20_2 : ov_ds ov_m223.2.1 20 [.iconst 1, .isub] = true := by decide +kernel
theorem d_223_22 : decode ov_m223.2.1 22 = .ok (.invokevirtual 198, 3) := by decide +kernel
theorem b_223_25_4 : ov_ds ov_m223.2.1 25 [.istore_n 1, .aload_n 0, .iconst 0, .aload_n 0] = true := by decide +kernel
theorem d_223_29 : decode ov_m223.2.1 29 = .ok (.getfield 81, 3) := by decide +kernel
theorem b_223_32_1 : ov_ds ov_m223.2.1 32 [.sipush 341] = true := by decide +kernel
theorem d_223_35 : decode ov_m223.2.1 35 = .ok (.iaload, 1) := by decide +kernel
theorem b_223_36_2 : ov_ds ov_m223.2.1 36 [.iconst 1, .isub] = true := by decide +kernel
theorem d_223_38 : decode ov_m223.2.1 38 = .ok (.invokevirtual 198, 3) := by decide +kernel
theorem b_223_41_2 : ov_ds ov_m223.2.1 41 [.istore_n 2, .aload_n 0] = true := by decide +kernel
theorem d_223_43 : decode ov_m223.2.1 43 = .ok (.getfield 180, 3) := by decide +kernel
theorem d_223_46 : decode ov_m223.2.1 46 = .ok (.ifCond .le 7, 3) := by decide +kernel
theorem b_223_53_3 : ov_ds ov_m223.2.1 53 [.aload_n 0, .bipush 10, .iconst 2] = true := by decide +kernel
theorem d_223_57 : decode ov_m223.2.1 57 = .ok (.invokevirtual 202, 3) := by decide +kernel
theorem b_223_60_2 : ov_ds ov_m223.2.1 60 [.istore_n 3, .iload_n 3] = true := by decide +kernel
theorem d_223_62 : decode ov_m223.2.1 62 = .ok (.ifCond .ge 9, 3) := by decide +kernel
theorem b_223_71_9 : ov_ds ov_m223.2.1 71 [.sipush 566, .bipush 6, .iload_n 2, .imul, .iadd, .iload_n 1, .iadd, .istore 4, .aload_n 0] = true := by decide +kernel
theorem d_223_84 : decode ov_m223.2.1 84 = .ok (.getfield 81, 3) := by decide +kernel
theorem b_223_87_1 : ov_ds ov_m223.2.1 87 [.iload 4] = true := by decide +kernel
theorem d_223_89 : decode ov_m223.2.1 89 = .ok (.iaload, 1) := by decide +kernel
theorem b_223_90_5 : ov_ds ov_m223.2.1 90 [.iload_n 3, .ishr, .iconst 1, .iand, .iconst 1] = true := by decide +kernel
theorem d_223_95 : decode ov_m223.2.1 95 = .ok (.if_icmp .ne 9, 3) := by decide +kernel
theorem b_223_104_2 : ov_ds ov_m223.2.1 104 [.aload_n 0, .dup] = true := by decide +kernel
theorem d_223_106 : decode ov_m223.2.1 106 = .ok (.getfield 177, 3) := by decide +kernel
theorem b_223_109_2 : ov_ds ov_m223.2.1 109 [.iconst 1, .iadd] = true := by decide +kernel
theorem d_223_111 : decode ov_m223.2.1 111 = .ok (.putfield 177, 3) := by decide +kernel
theorem b_223_114_1 : ov_ds ov_m223.2.1 114 [.aload_n 0] = true := by decide +kernel
theorem d_223_115 : decode ov_m223.2.1 115 = .ok (.getfield 81, 3) := by decide +kernel
theorem b_223_118_2 : ov_ds ov_m223.2.1 118 [.iload 4, .dup2] = true := by decide +kernel
theorem d_223_121 : decode ov_m223.2.1 121 = .ok (.iaload, 1) := by decide +kernel
theorem b_223_122_4 : ov_ds ov_m223.2.1 122 [.iconst 1, .iload_n 3, .ishl, .ior] = true := by decide +kernel
theorem d_223_126 : decode ov_m223.2.1 126 = .ok (.iastore, 1) := by decide +kernel
theorem d_223_127 : decode ov_m223.2.1 127 = .ok (.return_, 1) := by decide +kernel
theorem b_223_98_2 : ov_ds ov_m223.2.1 98 [.aload_n 0, .iconst 3] = true := by decide +kernel
theorem d_223_100 : decode ov_m223.2.1 100 = .ok (.invokevirtual 186, 3) := by decide +kernel
theorem d_223_103 : decode ov_m223.2.1 103 = .ok (.return_, 1) := by decide +kernel
theorem b_223_65_2 : ov_ds ov_m223.2.1 65 [.aload_n 0, .iconst 1] = true := by decide +kernel
theorem d_223_67 : decode ov_m223.2.1 67 = .ok (.invokevirtual 186, 3) := by decide +kernel
theorem d_223_70 : decode ov_m223.2.1 70 = .ok (.return_, 1) := by decide +kernel
theorem b_223_49_1 : ov_ds ov_m223.2.1 49 [.iconst (-1)] = true := by decide +kernel
theorem d_223_50 : decode ov_m223.2.1 50 = .ok (.goto 10, 3) := by decide +kernel
theorem b_219_0_2 : ov_ds ov_m219.2.1 0 [.aload_n 0, .dup] = true := by decide +kernel
theorem d_219_2 : decode ov_m219.2.1 2 = .ok (.getfield 177, 3) := by decide +kernel
theorem b_219_5_2 : ov_ds ov_m219.2.1 5 [.iconst 1, .iadd] = true := by decide +kernel
theorem d_219_7 : decode ov_m219.2.1 7 = .ok (.putfield 177, 3) := by decide +kernel
theorem b_219_10_3 : ov_ds ov_m219.2.1 10 [.aload_n 0, .iconst 0, .aload_n 0] = true := by decide +kernel
theorem d_219_13 : decode ov_m219.2.1 13 = .ok (.getfield 81, 3) := by decide +kernel
theorem b_219_16_1 : ov_ds ov_m219.2.1 16 [.sipush 340] = true := by decide +kernel
theorem d_219_19 : decode ov_m219.2.1 19 = .ok (.iaload, 1) := by decide +kernel
theorem b_219_20_2 : ov_ds ov_m219.2.1 20 [.iconst 1, .isub] = true := by decide +kernel
theorem d_219_22 : decode ov_m219.2.1 22 = .ok (.invokevirtual 198, 3) := by decide +kernel
theorem b_219_25_4 : ov_ds ov_m219.2.1 25 [.istore_n 1, .aload_n 0, .iconst 0, .aload_n 0] = true := by decide +kernel
theorem d_219_29 : decode ov_m219.2.1 29 = .ok (.getfield 81, 3) := by decide +kernel
theorem b_219_32_1 : ov_ds ov_m219.2.1 32 [.sipush 341] = true := by decide +kernel
theorem d_219_35 : decode ov_m219.2.1 35 = .ok (.iaload, 1) := by decide +kernel
theorem b_219_36_2 : ov_ds ov_m219.2.1 36 [.iconst 1, .isub] = true := by decide +kernel
theorem d_219_38 : decode ov_m219.2.1 38 = .ok (.invokevirtual 198, 3) := by decide +kernel
theorem b_219_41_12 : ov_ds ov_m219.2.1 41 [.istore_n 2, .sipush 350, .iconst 4, .bipush 6, .iload_n 2, .imul, .iload_n 1, .iadd, .imul, .iadd, .istore_n 3, .aload_n 0] = true := by decide +kernel
theorem d_219_56 : decode ov_m219.2.1 56 = .ok (.getfield 180, 3) := by decide +kernel
theorem d_219_59 : decode ov_m219.2.1 59 = .ok (.ifCond .ne 27, 3) := by decide +kernel
theorem b_219_86_1 : ov_ds ov_m219.2.1 86 [.aload_n 0] = true := by decide +kernel
theorem d_219_87 : decode ov_m219.2.1 87 = .ok (.getfield 180, 3) := by decide +kernel
theorem d_219_90 : decode ov_m219.2.1 90 = .ok (.ifCond .le 7, 3) := by decide +kernel
theorem b_219_93_1 : ov_ds ov_m219.2.1 93 [.iconst (-1)] = true := by decide +kernel
theorem d_219_94 : decode ov_m219.2.1 94 = .ok (.goto 10, 3) := by decide +kernel
theorem b_219_104_2 : ov_ds ov_m219.2.1 104 [.istore 4, .iload 4] = true := by decide +kernel
theorem d_219_108 : decode ov_m219.2.1 108 = .ok (.ifCond .ge 9, 3) := by decide +kernel
theorem b_219_111_2 : ov_ds ov_m219.2.1 111 [.aload_n 0, .iconst 1] = true := by decide +kernel
theorem d_219_113 : decode ov_m219.2.1 113 = .ok (.invokevirtual 186, 3) := by decide +kernel
theorem d_219_116 : decode ov_m219.2.1 116 = .ok (.return_, 1) := by decide +kernel
theorem b_219_62_1 : ov_ds ov_m219.2.1 62 [.aload_n 0] = true := by decide +kernel
theorem d_219_63 : decode ov_m219.2.1 63 = .ok (.getfield 81, 3) := by decide +kernel
theorem b_219_66_1 : ov_ds ov_m219.2.1 66 [.iload_n 3] = true := by decide +kernel
theorem d_219_67 : decode ov_m219.2.1 67 = .ok (.iaload, 1) := by decide +kernel
theorem d_219_68 : decode ov_m219.2.1 68 = .ok (.ifCond .le 18, 3) := by decide +kernel
theorem b_219_97_3 : ov_ds ov_m219.2.1 97 [.aload_n 0, .bipush 13, .iconst 4] = true := by decide +kernel
theorem d_219_101 : decode ov_m219.2.1 101 = .ok (.invokevirtual 202, 3) := by decide +kernel
theorem b_219_117_2 : ov_ds ov_m219.2.1 117 [.aload_n 0, .dup] = true := by decide +kernel
theorem d_219_119 : decode ov_m219.2.1 119 = .ok (.getfield 177, 3) := by decide +kernel
theorem b_219_122_2 : ov_ds ov_m219.2.1 122 [.iconst 1, .iadd] = true := by decide +kernel
theorem d_219_124 : decode ov_m219.2.1 124 = .ok (.putfield 177, 3) := by decide +kernel
theorem b_219_127_4 : ov_ds ov_m219.2.1 127 [.aload_n 0, .bipush 9, .iconst 1, .bipush 60] = true := by decide +kernel
theorem d_219_133 : decode ov_m219.2.1 133 = .ok (.invokevirtual 232, 3) := by decide +kernel
theorem b_219_136_1 : ov_ds ov_m219.2.1 136 [.istore 5] = true := by decide +kernel
theorem b_219_189_1 : ov_ds ov_m219.2.1 189 [.aload_n 0] = true := by decide +kernel
theorem d_219_190 : decode ov_m219.2.1 190 = .ok (.getfield 180, 3) := by decide +kernel
theorem d_219_193 : decode ov_m219.2.1 193 = .ok (.ifCond .ne 26, 3) := by decide +kernel
theorem b_219_219_1 : ov_ds ov_m219.2.1 219 [.aload_n 0] = true := by decide +kernel
theorem d_219_220 : decode ov_m219.2.1 220 = .ok (.getfield 180, 3) := by decide +kernel
theorem d_219_223 : decode ov_m219.2.1 223 = .ok (.ifCond .le 4, 3) := by decide +kernel
theorem d_219_226 : decode ov_m219.2.1 226 = .ok (.return_, 1) := by decide +kernel
theorem b_219_196_2 : ov_ds ov_m219.2.1 196 [.iload 6, .sipush 1200] = true := by decide +kernel
theorem d_219_201 : decode ov_m219.2.1 201 = .ok (.if_icmp .le 18, 3) := by decide +kernel
theorem b_219_227_1 : ov_ds ov_m219.2.1 227 [.aload_n 0] = true := by decide +kernel
theorem d_219_228 : decode ov_m219.2.1 228 = .ok (.getfield 81, 3) := by decide +kernel
theorem b_219_231_2 : ov_ds ov_m219.2.1 231 [.sipush 349, .iload 6] = true := by decide +kernel
theorem d_219_236 : decode ov_m219.2.1 236 = .ok (.iastore, 1) := by decide +kernel
theorem b_219_237_1 : ov_ds ov_m219.2.1 237 [.aload_n 0] = true := by decide +kernel
theorem d_219_238 : decode ov_m219.2.1 238 = .ok (.getfield 81, 3) := by decide +kernel
theorem b_219_241_4 : ov_ds ov_m219.2.1 241 [.iload_n 3, .iconst 1, .iload 4, .iadd] = true := by decide +kernel
theorem d_219_246 : decode ov_m219.2.1 246 = .ok (.iastore, 1) := by decide +kernel
theorem b_219_247_1 : ov_ds ov_m219.2.1 247 [.aload_n 0] = true := by decide +kernel
theorem d_219_248 : decode ov_m219.2.1 248 = .ok (.getfield 81, 3) := by decide +kernel
theorem b_219_251_4 : ov_ds ov_m219.2.1 251 [.iload_n 3, .iconst 1, .iadd, .iload 5] = true := by decide +kernel
theorem d_219_256 : decode ov_m219.2.1 256 = .ok (.iastore, 1) := by decide +kernel
theorem b_219_257_1 : ov_ds ov_m219.2.1 257 [.aload_n 0] = true := by decide +kernel
theorem d_219_258 : decode ov_m219.2.1 258 = .ok (.getfield 81, 3) := by decide +kernel
theorem b_219_261_9 : ov_ds ov_m219.2.1 261 [.iload_n 3, .iconst 2, .iadd, .aload_n 0, .bipush 10, .iconst 0, .iload 5, .iconst 1, .isub] = true := by decide +kernel
theorem d_219_272 : decode ov_m219.2.1 272 = .ok (.invokevirtual 232, 3) := by decide +kernel
theorem d_219_275 : decode ov_m219.2.1 275 = .ok (.iastore, 1) := by decide +kernel
theorem b_219_276_1 : ov_ds ov_m219.2.1 276 [.aload_n 0] = true := by decide +kernel
theorem d_219_277 : decode ov_m219.2.1 277 = .ok (.getfield 81, 3) := by decide +kernel
theorem b_219_280_7 : ov_ds ov_m219.2.1 280 [.iload_n 3, .iconst 3, .iadd, .aload_n 0, .bipush 12, .iconst 0, .iload 5] = true := by decide +kernel
theorem d_219_289 : decode ov_m219.2.1 289 = .ok (.invokevirtual 232, 3) := by decide +kernel
theorem d_219_292 : decode ov_m219.2.1 292 = .ok (.iastore, 1) := by decide +kernel
theorem b_219_293_1 : ov_ds ov_m219.2.1 293 [.aload_n 0] = true := by decide +kernel
theorem d_219_294 : decode ov_m219.2.1 294 = .ok (.getfield 81, 3) := by decide +kernel
theorem b_219_297_2 : ov_ds ov_m219.2.1 297 [.sipush 347, .dup2] = true := by decide +kernel
theorem d_219_301 : decode ov_m219.2.1 301 = .ok (.iaload, 1) := by decide +kernel
theorem b_219_302_2 : ov_ds ov_m219.2.1 302 [.iconst 1, .iadd] = true := by decide +kernel
theorem d_219_304 : decode ov_m219.2.1 304 = .ok (.iastore, 1) := by decide +kernel
theorem d_219_305 : decode ov_m219.2.1 305 = .ok (.return_, 1) := by decide +kernel
theorem b_219_204_2 : ov_ds ov_m219.2.1 204 [.aload_n 0, .dup] = true := by decide +kernel
theorem d_219_206 : decode ov_m219.2.1 206 = .ok (.getfield 177, 3) := by decide +kernel
theorem b_219_209_2 : ov_ds ov_m219.2.1 209 [.iconst 1, .isub] = true := by decide +kernel
theorem d_219_211 : decode ov_m219.2.1 211 = .ok (.putfield 177, 3) := by decide +kernel
theorem b_219_214_2 : ov_ds ov_m219.2.1 214 [.aload_n 0, .iconst 4] = true := by decide +kernel
theorem d_219_216 : decode ov_m219.2.1 216 = .ok (.invokevirtual 186, 3) := by decide +kernel
theorem b_219_138_1 : ov_ds ov_m219.2.1 138 [.aload_n 0] = true := by decide +kernel
theorem d_219_139 : decode ov_m219.2.1 139 = .ok (.getfield 180, 3) := by decide +kernel
theorem d_219_142 : decode ov_m219.2.1 142 = .ok (.ifCond .gt 9, 3) := by decide +kernel
theorem b_219_151_1 : ov_ds ov_m219.2.1 151 [.aload_n 0] = true := by decide +kernel
theorem d_219_152 : decode ov_m219.2.1 152 = .ok (.getfield 81, 3) := by decide +kernel
theorem b_219_155_1 : ov_ds ov_m219.2.1 155 [.sipush 349] = true := by decide +kernel
theorem d_219_158 : decode ov_m219.2.1 158 = .ok (.iaload, 1) := by decide +kernel
theorem d_219_159 : decode ov_m219.2.1 159 = .ok (.goto 28, 3) := by decide +kernel
theorem b_219_187_1 : ov_ds ov_m219.2.1 187 [.istore 6] = true := by decide +kernel
theorem b_219_145_2 : ov_ds ov_m219.2.1 145 [.iload 4, .iconst 2] = true := by decide +kernel
theorem d_219_148 : decode ov_m219.2.1 148 = .ok (.if_icmp .lt 14, 3) := by decide +kernel
theorem b_219_162_1 : ov_ds ov_m219.2.1 162 [.aload_n 0] = true := by decide +kernel
theorem d_219_163 : decode ov_m219.2.1 163 = .ok (.getfield 81, 3) := by decide +kernel
theorem b_219_166_1 : ov_ds ov_m219.2.1 166 [.sipush 349] = true := by decide +kernel
theorem d_219_169 : decode ov_m219.2.1 169 = .ok (.iaload, 1) := by decide +kernel
theorem b_219_170_1 : ov_ds ov_m219.2.1 170 [.aload_n 0] = true := by decide +kernel
theorem d_219_171 : decode ov_m219.2.1 171 = .ok (.getfield 81, 3) := by decide +kernel
theorem b_219_174_1 : ov_ds ov_m219.2.1 174 [.sipush 349] = true := by decide +kernel
theorem d_219_177 : decode ov_m219.2.1 177 = .ok (.iaload, 1) := by decide +kernel
theorem b_219_178_1 : ov_ds ov_m219.2.1 178 [.iload 5] = true := by decide +kernel
theorem d_219_180 : decode ov_m219.2.1 180 = .ok (.invokestatic 236, 3) := by decide +kernel
theorem d_219_183 : decode ov_m219.2.1 183 = .ok (.idiv, 1) := by decide +kernel
theorem b_219_184_1 : ov_ds ov_m219.2.1 184 [.iload 5] = true := by decide +kernel
theorem b_219_186_2 : ov_ds ov_m219.2.1 186 [.imul, .istore 6] = true := by decide +kernel
theorem b_219_71_2 : ov_ds ov_m219.2.1 71 [.aload_n 0, .dup] = true := by decide +kernel
theorem d_219_73 : decode ov_m219.2.1 73 = .ok (.getfield 177, 3) := by decide +kernel
theorem b_219_76_2 : ov_ds ov_m219.2.1 76 [.iconst 1, .isub] = true := by decide +kernel
theorem d_219_78 : decode ov_m219.2.1 78 = .ok (.putfield 177, 3) := by decide +kernel
theorem b_219_81_2 : ov_ds ov_m219.2.1 81 [.aload_n 0, .iconst 3] = true := by decide +kernel
theorem d_219_83 : decode ov_m219.2.1 83 = .ok (.invokevirtual 186, 3) := by decide +kernel
theorem b_224_0_1 : ov_ds ov_m224.2.1 0 [.aload_n 0] = true := by decide +kernel
theorem d_224_1 : decode ov_m224.2.1 1 = .ok (.getfield 81, 3) := by decide +kernel
theorem b_224_4_1 : ov_ds ov_m224.2.1 4 [.sipush 348] = true := by decide +kernel
theorem d_224_7 : decode ov_m224.2.1 7 = .ok (.iaload, 1) := by decide +kernel
theorem b_224_8_3 : ov_ds ov_m224.2.1 8 [.istore_n 1, .iload_n 1, .iconst 4] = true := by decide +kernel
theorem d_224_11 : decode ov_m224.2.1 11 = .ok (.if_icmp .ne 9, 3) := by decide +kernel
theorem b_224_20_2 : ov_ds ov_m224.2.1 20 [.aload_n 0, .dup] = true := by decide +kernel
theorem d_224_22 : decode ov_m224.2.1 22 = .ok (.getfield 177, 3) := by decide +kernel
theorem b_224_25_2 : ov_ds ov_m224.2.1 25 [.iconst 1, .iadd] = true := by decide +kernel
theorem d_224_27 : decode ov_m224.2.1 27 = .ok (.putfield 177, 3) := by decide +kernel
theorem b_224_30_4 : ov_ds ov_m224.2.1 30 [.iconst 0, .istore_n 2, .iconst 0, .istore_n 3] = true := by decide +kernel
theorem b_224_34_2 : ov_ds ov_m224.2.1 34 [.iload_n 3, .iload_n 1] = true := by decide +kernel
theorem d_224_36 : decode ov_m224.2.1 36 = .ok (.if_icmp .ge 45, 3) := by decide +kernel
theorem b_224_81_1 : ov_ds ov_m224.2.1 81 [.aload_n 0] = true := by decide +kernel
theorem d_224_82 : decode ov_m224.2.1 82 = .ok (.invokevirtual 239, 3) := by decide +kernel
theorem d_224_85 : decode ov_m224.2.1 85 = .ok (.ifCond .ne 11, 3) := by decide +kernel
theorem b_224_96_1 : ov_ds ov_m224.2.1 96 [.iload_n 2] = true := by decide +kernel
theorem d_224_97 : decode ov_m224.2.1 97 = .ok (.ifCond .eq 8, 3) := by decide +kernel
theorem b_224_105_1 : ov_ds ov_m224.2.1 105 [.aload_n 0] = true := by decide +kernel
theorem d_224_106 : decode ov_m224.2.1 106 = .ok (.getfield 180, 3) := by decide +kernel
theorem d_224_109 : decode ov_m224.2.1 109 = .ok (.ifCond .le 4, 3) := by decide +kernel
theorem b_224_113_1 : ov_ds ov_m224.2.1 113 [.aload_n 0] = true := by decide +kernel
theorem d_224_114 : decode ov_m224.2.1 114 = .ok (.getfield 90, 3) := by decide +kernel
theorem b_224_117_2 : ov_ds ov_m224.2.1 117 [.iload_n 1, .aload_n 0] = true := by decide +kernel
theorem d_224_119 : decode ov_m224.2.1 119 = .ok (.getfield 30, 3) := by decide +kernel
theorem b_224_122_1 : ov_ds ov_m224.2.1 122 [.aload_n 0] = true := by decide +kernel
theorem d_224_123 : decode ov_m224.2.1 123 = .ok (.getfield 177, 3) := by decide +kernel
theorem d_224_126 : decode ov_m224.2.1 126 = .ok (.laload, 1) := by decide +kernel
theorem d_224_127 : decode ov_m224.2.1 127 = .ok (.lastore, 1) := by decide +kernel
theorem b_224_128_2 : ov_ds ov_m224.2.1 128 [.aload_n 0, .dup] = true := by decide +kernel
theorem d_224_130 : decode ov_m224.2.1 130 = .ok (.getfield 177, 3) := by decide +kernel
theorem b_224_133_2 : ov_ds ov_m224.2.1 133 [.iconst 1, .iadd] = true := by decide +kernel
theorem d_224_135 : decode ov_m224.2.1 135 = .ok (.putfield 177, 3) := by decide +kernel
theorem b_224_138_1 : ov_ds ov_m224.2.1 138 [.aload_n 0] = true := by decide +kernel
theorem d_224_139 : decode ov_m224.2.1 139 = .ok (.getfield 81, 3) := by decide +kernel
theorem b_224_142_4 : ov_ds ov_m224.2.1 142 [.sipush 620, .iload_n 1, .iadd, .aload_n 0] = true := by decide +kernel
theorem d_224_148 : decode ov_m224.2.1 148 = .ok (.getfield 208, 3) := by decide +kernel
theorem d_224_151 : decode ov_m224.2.1 151 = .ok (.iastore, 1) := by decide +kernel
theorem b_224_152_2 : ov_ds ov_m224.2.1 152 [.aload_n 0, .iconst 0] = true := by decide +kernel
theorem d_224_154 : decode ov_m224.2.1 154 = .ok (.invokevirtual 243, 3) := by decide +kernel
theorem b_224_157_3 : ov_ds ov_m224.2.1 157 [.aload_n 0, .iconst 0, .iconst 0] = true := by decide +kernel
theorem d_224_160 : decode ov_m224.2.1 160 = .ok (.invokevirtual 246, 3) := by decide +kernel
theorem b_224_163_1 : ov_ds ov_m224.2.1 163 [.aload_n 0] = true := by decide +kernel
theorem d_224_164 : decode ov_m224.2.1 164 = .ok (.getfield 81, 3) := by decide +kernel
theorem b_224_167_2 : ov_ds ov_m224.2.1 167 [.sipush 348, .dup2] = true := by decide +kernel
theorem d_224_171 : decode ov_m224.2.1 171 = .ok (.iaload, 1) := by decide +kernel
theorem b_224_172_2 : ov_ds ov_m224.2.1 172 [.iconst 1, .iadd] = true := by decide +kernel
theorem d_224_174 : decode ov_m224.2.1 174 = .ok (.iastore, 1) := by decide +kernel
theorem d_224_175 : decode ov_m224.2.1 175 = .ok (.return_, 1) := by decide +kernel
theorem d_224_112 : decode ov_m224.2.1 112 = .ok (.return_, 1) := by decide +kernel
theorem b_224_100_2 : ov_ds ov_m224.2.1 100 [.aload_n 0, .iconst 3] = true := by decide +kernel
theorem d_224_102 : decode ov_m224.2.1 102 = .ok (.invokevirtual 186, 3) := by decide +kernel
theorem b_224_88_2 : ov_ds ov_m224.2.1 88 [.aload_n 0, .iconst 1] = true := by decide +kernel
theorem d_224_90 : decode ov_m224.2.1 90 = .ok (.invokevirtual 186, 3) := by decide +kernel
theorem d_224_93 : decode ov_m224.2.1 93 = .ok (.goto 12, 3) := by decide +kernel
theorem b_224_39_1 : ov_ds ov_m224.2.1 39 [.aload_n 0] = true := by decide +kernel
theorem d_224_40 : decode ov_m224.2.1 40 = .ok (.getfield 180, 3) := by decide +kernel
theorem d_224_43 : decode ov_m224.2.1 43 = .ok (.ifCond .ne 38, 3) := by decide +kernel
theorem b_224_46_1 : ov_ds ov_m224.2.1 46 [.iload_n 2] = true := by decide +kernel
theorem d_224_47 : decode ov_m224.2.1 47 = .ok (.ifCond .ne 22, 3) := by decide +kernel
theorem b_224_69_1 : ov_ds ov_m224.2.1 69 [.iconst 1] = true := by decide +kernel
theorem d_224_70 : decode ov_m224.2.1 70 = .ok (.goto 4, 3) := by decide +kernel
theorem b_224_74_2 : ov_ds ov_m224.2.1 74 [.istore_n 2, .iinc 3 1] = true := by decide +kernel
theorem d_224_78 : decode ov_m224.2.1 78 = .ok (.goto (-44), 3) := by decide +kernel
theorem b_224_50_1 : ov_ds ov_m224.2.1 50 [.aload_n 0] = true := by decide +kernel
theorem d_224_51 : decode ov_m224.2.1 51 = .ok (.getfield 90, 3) := by decide +kernel
theorem b_224_54_1 : ov_ds ov_m224.2.1 54 [.iload_n 3] = true := by decide +kernel
theorem d_224_55 : decode ov_m224.2.1 55 = .ok (.laload, 1) := by decide +kernel
theorem b_224_56_1 : ov_ds ov_m224.2.1 56 [.aload_n 0] = true := by decide +kernel
theorem d_224_57 : decode ov_m224.2.1 57 = .ok (.getfield 30, 3) := by decide +kernel
theorem b_224_60_1 : ov_ds ov_m224.2.1 60 [.aload_n 0] = true := by decide +kernel
theorem d_224_61 : decode ov_m224.2.1 61 = .ok (.getfield 177, 3) := by decide +kernel
theorem d_224_64 : decode ov_m224.2.1 64 = .ok (.laload, 1) := by decide +kernel
theorem b_224_65_1 : ov_ds ov_m224.2.1 65 [.lcmp] = true := by decide +kernel
theorem d_224_66 : decode ov_m224.2.1 66 = .ok (.ifCond .ne 7, 3) := by decide +kernel
theorem b_224_73_3 : ov_ds ov_m224.2.1 73 [.iconst 0, .istore_n 2, .iinc 3 1] = true := by decide +kernel
theorem b_224_14_2 : ov_ds ov_m224.2.1 14 [.aload_n 0, .iconst 5] = true := by decide +kernel
theorem d_224_16 : decode ov_m224.2.1 16 = .ok (.invokevirtual 186, 3) := by decide +kernel
theorem d_224_19 : decode ov_m224.2.1 19 = .ok (.return_, 1) := by decide +kernel
theorem b_218_0_2 : ov_ds ov_m218.2.1 0 [.aload_n 0, .iconst 1] = true := by decide +kernel
theorem d_218_2 : decode ov_m218.2.1 2 = .ok (.invokevirtual 189, 3) := by decide +kernel
theorem d_218_5 : decode ov_m218.2.1 5 = .ok (.ifCond .eq 10, 3) := by decide +kernel
theorem b_218_15_2 : ov_ds ov_m218.2.1 15 [.aload_n 0, .iconst 2] = true := by decide +kernel
theorem d_218_17 : decode ov_m218.2.1 17 = .ok (.invokevirtual 189, 3) := by decide +kernel
theorem d_218_20 : decode ov_m218.2.1 20 = .ok (.ifCond .eq 10, 3) := by decide +kernel
theorem b_218_30_2 : ov_ds ov_m218.2.1 30 [.aload_n 0, .iconst 3] = true := by decide +kernel
theorem d_218_32 : decode ov_m218.2.1 32 = .ok (.invokevirtual 189, 3) := by decide +kernel
theorem d_218_35 : decode ov_m218.2.1 35 = .ok (.ifCond .eq 10, 3) := by decide +kernel
theorem b_218_45_1 : ov_ds ov_m218.2.1 45 [.aload_n 0] = true := by decide +kernel
theorem d_218_46 : decode ov_m218.2.1 46 = .ok (.invokevirtual 229, 3) := by decide +kernel
theorem d_218_49 : decode ov_m218.2.1 49 = .ok (.return_, 1) := by decide +kernel
theorem b_218_38_1 : ov_ds ov_m218.2.1 38 [.aload_n 0] = true := by decide +kernel
theorem d_218_39 : decode ov_m218.2.1 39 = .ok (.invokevirtual 226, 3) := by decide +kernel
theorem d_218_42 : decode ov_m218.2.1 42 = .ok (.goto 7, 3) := by decide +kernel
theorem b_218_23_1 : ov_ds ov_m218.2.1 23 [.aload_n 0] = true := by decide +kernel
theorem d_218_24 : decode ov_m218.2.1 24 = .ok (.invokevirtual 223, 3) := by decide +kernel
theorem d_218_27 : decode ov_m218.2.1 27 = .ok (.goto 22, 3) := by decide +kernel
theorem b_218_8_1 : ov_ds ov_m218.2.1 8 [.aload_n 0] = true := by decide +kernel
theorem d_218_9 : decode ov_m218.2.1 9 = .ok (.invokevirtual 220, 3) := by decide +kernel
theorem d_218_12 : decode ov_m218.2.1 12 = .ok (.goto 37, 3) := by decide +kernel
theorem b_203_0_2 : ov_ds ov_m203.2.1 0 [.iconst 0, .istore_n 2] = true := by decide +kernel
theorem b_203_2_2 : ov_ds ov_m203.2.1 2 [.iload_n 2, .sipush 340] = true := by decide +kernel
theorem d_203_6 : decode ov_m203.2.1 6 = .ok (.if_icmp .ge 18, 3) := by decide +kernel
theorem b_203_24_1 : ov_ds ov_m203.2.1 24 [.aload_n 0] = true := by decide +kernel
theorem d_203_25 : decode ov_m203.2.1 25 = .ok (.getfield 81, 3) := by decide +kernel
theorem b_203_28_4 : ov_ds ov_m203.2.1 28 [.iload_n 1, .iconst 2, .iadd, .bipush 10] = true := by decide +kernel
theorem d_203_33 : decode ov_m203.2.1 33 = .ok (.iastore, 1) := by decide +kernel
theorem b_203_34_1 : ov_ds ov_m203.2.1 34 [.aload_n 0] = true := by decide +kernel
theorem d_203_35 : decode ov_m203.2.1 35 = .ok (.getfield 81, 3) := by decide +kernel
theorem b_203_38_4 : ov_ds ov_m203.2.1 38 [.iload_n 1, .iconst 3, .iadd, .iconst (-1)] = true := by decide +kernel
theorem d_203_42 : decode ov_m203.2.1 42 = .ok (.iastore, 1) := by decide +kernel
theorem b_203_43_1 : ov_ds ov_m203.2.1 43 [.aload_n 0] = true := by decide +kernel
theorem d_203_44 : decode ov_m203.2.1 44 = .ok (.getfield 81, 3) := by decide +kernel
theorem b_203_47_4 : ov_ds ov_m203.2.1 47 [.iload_n 1, .iconst 4, .iadd, .iconst (-1)] = true := by decide +kernel
theorem d_203_51 : decode ov_m203.2.1 51 = .ok (.iastore, 1) := by decide +kernel
theorem b_203_52_1 : ov_ds ov_m203.2.1 52 [.aload_n 0] = true := by decide +kernel
theorem d_203_53 : decode ov_m203.2.1 53 = .ok (.getfield 81, 3) := by decide +kernel
theorem b_203_56_4 : ov_ds ov_m203.2.1 56 [.iload_n 1, .bipush 9, .iadd, .iconst 1] = true := by decide +kernel
theorem d_203_61 : decode ov_m203.2.1 61 = .ok (.iastore, 1) := by decide +kernel
theorem d_203_62 : decode ov_m203.2.1 62 = .ok (.return_, 1) := by decide +kernel
theorem b_203_9_1 : ov_ds ov_m203.2.1 9 [.aload_n 0] = true := by decide +kernel
theorem d_203_10 : decode ov_m203.2.1 10 = .ok (.getfield 81, 3) := by decide +kernel
theorem b_203_13_4 : ov_ds ov_m203.2.1 13 [.iload_n 1, .iload_n 2, .iadd, .iconst 0] = true := by decide +kernel
theorem d_203_17 : decode ov_m203.2.1 17 = .ok (.iastore, 1) := by decide +kernel
theorem b_203_18_1 : ov_ds ov_m203.2.1 18 [.iinc 2 1] = true := by decide +kernel
theorem d_203_21 : decode ov_m203.2.1 21 = .ok (.goto (-19), 3) := by decide +kernel
